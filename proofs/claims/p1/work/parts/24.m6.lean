theorem dX11_image_0 : decode prog_13_method_92_code 0 = .ok (.aload_n 0, 1) := by decide +kernel
theorem dX11_image_1 : decode prog_13_method_92_code 1 = .ok (.getfield 342, 3) := by decide +kernel
theorem dX11_image_4 : decode prog_13_method_92_code 4 = .ok (.ifCond .eq 6, 3) := by decide +kernel
theorem dX11_image_7 : decode prog_13_method_92_code 7 = .ok (.bipush (-3), 2) := by decide +kernel
theorem dX11_image_9 : decode prog_13_method_92_code 9 = .ok (.ireturn, 1) := by decide +kernel
theorem dX11_image_10 : decode prog_13_method_92_code 10 = .ok (.aload_n 0, 1) := by decide +kernel
theorem dX11_image_11 : decode prog_13_method_92_code 11 = .ok (.iconst 1, 1) := by decide +kernel
theorem dX11_image_12 : decode prog_13_method_92_code 12 = .ok (.putfield 445, 3) := by decide +kernel
theorem dX11_image_15 : decode prog_13_method_92_code 15 = .ok (.aload_n 0, 1) := by decide +kernel
theorem dX11_image_16 : decode prog_13_method_92_code 16 = .ok (.iconst 1, 1) := by decide +kernel
theorem dX11_image_17 : decode prog_13_method_92_code 17 = .ok (.invokevirtual 448, 3) := by decide +kernel
theorem dX11_image_20 : decode prog_13_method_92_code 20 = .ok (.aload_n 0, 1) := by decide +kernel
theorem dX11_image_21 : decode prog_13_method_92_code 21 = .ok (.invokevirtual 452, 3) := by decide +kernel
theorem dX11_image_24 : decode prog_13_method_92_code 24 = .ok (.ireturn, 1) := by decide +kernel
theorem dX11_movesAll_0 : decode prog_13_method_91_code 0 = .ok (.aload_n 0, 1) := by decide +kernel
theorem dX11_movesAll_1 : decode prog_13_method_91_code 1 = .ok (.iconst 0, 1) := by decide +kernel
theorem dX11_movesAll_2 : decode prog_13_method_91_code 2 = .ok (.putfield 426, 3) := by decide +kernel
theorem dX11_movesAll_5 : decode prog_13_method_91_code 5 = .ok (.aload_n 0, 1) := by decide +kernel
theorem dX11_movesAll_6 : decode prog_13_method_91_code 6 = .ok (.iconst 0, 1) := by decide +kernel
theorem dX11_movesAll_7 : decode prog_13_method_91_code 7 = .ok (.putfield 429, 3) := by decide +kernel
theorem dX11_movesAll_10 : decode prog_13_method_91_code 10 = .ok (.aload_n 0, 1) := by decide +kernel
theorem dX11_movesAll_11 : decode prog_13_method_91_code 11 = .ok (.getfield 170, 3) := by decide +kernel
theorem dX11_movesAll_14 : decode prog_13_method_91_code 14 = .ok (.iconst 0, 1) := by decide +kernel
theorem dX11_movesAll_15 : decode prog_13_method_91_code 15 = .ok (.aload_n 0, 1) := by decide +kernel
theorem dX11_movesAll_16 : decode prog_13_method_91_code 16 = .ok (.getfield 327, 3) := by decide +kernel
theorem dX11_movesAll_19 : decode prog_13_method_91_code 19 = .ok (.iastore, 1) := by decide +kernel
theorem dX11_movesAll_20 : decode prog_13_method_91_code 20 = .ok (.aload_n 0, 1) := by decide +kernel
theorem dX11_movesAll_21 : decode prog_13_method_91_code 21 = .ok (.getfield 170, 3) := by decide +kernel
theorem dX11_movesAll_24 : decode prog_13_method_91_code 24 = .ok (.iconst 1, 1) := by decide +kernel
theorem dX11_movesAll_25 : decode prog_13_method_91_code 25 = .ok (.aload_n 0, 1) := by decide +kernel
theorem dX11_movesAll_26 : decode prog_13_method_91_code 26 = .ok (.getfield 309, 3) := by decide +kernel
theorem dX11_movesAll_29 : decode prog_13_method_91_code 29 = .ok (.iastore, 1) := by decide +kernel
theorem dX11_movesAll_30 : decode prog_13_method_91_code 30 = .ok (.aload_n 0, 1) := by decide +kernel
theorem dX11_movesAll_31 : decode prog_13_method_91_code 31 = .ok (.aload_n 0, 1) := by decide +kernel
theorem dX11_movesAll_32 : decode prog_13_method_91_code 32 = .ok (.getfield 170, 3) := by decide +kernel
theorem dX11_movesAll_35 : decode prog_13_method_91_code 35 = .ok (.iload_n 1, 1) := by decide +kernel
theorem dX11_movesAll_36 : decode prog_13_method_91_code 36 = .ok (.invokevirtual 432, 3) := by decide +kernel
theorem dX11_movesAll_39 : decode prog_13_method_91_code 39 = .ok (.aload_n 0, 1) := by decide +kernel
theorem dX11_movesAll_40 : decode prog_13_method_91_code 40 = .ok (.aload_n 0, 1) := by decide +kernel
theorem dX11_movesAll_41 : decode prog_13_method_91_code 41 = .ok (.getfield 170, 3) := by decide +kernel
theorem dX11_movesAll_44 : decode prog_13_method_91_code 44 = .ok (.iconst 0, 1) := by decide +kernel
theorem dX11_movesAll_45 : decode prog_13_method_91_code 45 = .ok (.iaload, 1) := by decide +kernel
theorem dX11_movesAll_46 : decode prog_13_method_91_code 46 = .ok (.putfield 327, 3) := by decide +kernel
theorem dX11_movesAll_49 : decode prog_13_method_91_code 49 = .ok (.aload_n 0, 1) := by decide +kernel
theorem dX11_movesAll_50 : decode prog_13_method_91_code 50 = .ok (.aload_n 0, 1) := by decide +kernel
theorem dX11_movesAll_51 : decode prog_13_method_91_code 51 = .ok (.getfield 170, 3) := by decide +kernel
theorem dX11_movesAll_54 : decode prog_13_method_91_code 54 = .ok (.iconst 1, 1) := by decide +kernel
theorem dX11_movesAll_55 : decode prog_13_method_91_code 55 = .ok (.iaload, 1) := by decide +kernel
theorem dX11_movesAll_56 : decode prog_13_method_91_code 56 = .ok (.putfield 309, 3) := by decide +kernel
theorem dX11_movesAll_59 : decode prog_13_method_91_code 59 = .ok (.aload_n 0, 1) := by decide +kernel
theorem dX11_movesAll_60 : decode prog_13_method_91_code 60 = .ok (.aload_n 0, 1) := by decide +kernel
theorem dX11_movesAll_61 : decode prog_13_method_91_code 61 = .ok (.getfield 11, 3) := by decide +kernel
theorem dX11_movesAll_64 : decode prog_13_method_91_code 64 = .ok (.iload_n 1, 1) := by decide +kernel
theorem dX11_movesAll_65 : decode prog_13_method_91_code 65 = .ok (.invokevirtual 432, 3) := by decide +kernel
theorem dX11_movesAll_68 : decode prog_13_method_91_code 68 = .ok (.aload_n 0, 1) := by decide +kernel
theorem dX11_movesAll_69 : decode prog_13_method_91_code 69 = .ok (.aload_n 0, 1) := by decide +kernel
theorem dX11_movesAll_70 : decode prog_13_method_91_code 70 = .ok (.getfield 15, 3) := by decide +kernel
theorem dX11_movesAll_73 : decode prog_13_method_91_code 73 = .ok (.iload_n 1, 1) := by decide +kernel
theorem dX11_movesAll_74 : decode prog_13_method_91_code 74 = .ok (.invokevirtual 432, 3) := by decide +kernel
theorem dX11_movesAll_77 : decode prog_13_method_91_code 77 = .ok (.aload_n 0, 1) := by decide +kernel
theorem dX11_movesAll_78 : decode prog_13_method_91_code 78 = .ok (.aload_n 0, 1) := by decide +kernel
theorem dX11_movesAll_79 : decode prog_13_method_91_code 79 = .ok (.getfield 18, 3) := by decide +kernel
theorem dX11_movesAll_82 : decode prog_13_method_91_code 82 = .ok (.iload_n 1, 1) := by decide +kernel
theorem dX11_movesAll_83 : decode prog_13_method_91_code 83 = .ok (.invokevirtual 432, 3) := by decide +kernel
theorem dX11_movesAll_86 : decode prog_13_method_91_code 86 = .ok (.aload_n 0, 1) := by decide +kernel
theorem dX11_movesAll_87 : decode prog_13_method_91_code 87 = .ok (.aload_n 0, 1) := by decide +kernel
theorem dX11_movesAll_88 : decode prog_13_method_91_code 88 = .ok (.getfield 21, 3) := by decide +kernel
theorem dX11_movesAll_91 : decode prog_13_method_91_code 91 = .ok (.iload_n 1, 1) := by decide +kernel
theorem dX11_movesAll_92 : decode prog_13_method_91_code 92 = .ok (.invokevirtual 432, 3) := by decide +kernel
theorem dX11_movesAll_95 : decode prog_13_method_91_code 95 = .ok (.aload_n 0, 1) := by decide +kernel
theorem dX11_movesAll_96 : decode prog_13_method_91_code 96 = .ok (.aload_n 0, 1) := by decide +kernel
theorem dX11_movesAll_97 : decode prog_13_method_91_code 97 = .ok (.getfield 24, 3) := by decide +kernel
theorem dX11_movesAll_100 : decode prog_13_method_91_code 100 = .ok (.iload_n 1, 1) := by decide +kernel
theorem dX11_movesAll_101 : decode prog_13_method_91_code 101 = .ok (.invokevirtual 432, 3) := by decide +kernel
theorem dX11_movesAll_104 : decode prog_13_method_91_code 104 = .ok (.aload_n 0, 1) := by decide +kernel
theorem dX11_movesAll_105 : decode prog_13_method_91_code 105 = .ok (.aload_n 0, 1) := by decide +kernel
theorem dX11_movesAll_106 : decode prog_13_method_91_code 106 = .ok (.getfield 27, 3) := by decide +kernel
theorem dX11_movesAll_109 : decode prog_13_method_91_code 109 = .ok (.iload_n 1, 1) := by decide +kernel
theorem dX11_movesAll_110 : decode prog_13_method_91_code 110 = .ok (.invokevirtual 432, 3) := by decide +kernel
theorem dX11_movesAll_113 : decode prog_13_method_91_code 113 = .ok (.aload_n 0, 1) := by decide +kernel
theorem dX11_movesAll_114 : decode prog_13_method_91_code 114 = .ok (.aload_n 0, 1) := by decide +kernel
theorem dX11_movesAll_115 : decode prog_13_method_91_code 115 = .ok (.getfield 34, 3) := by decide +kernel
theorem dX11_movesAll_118 : decode prog_13_method_91_code 118 = .ok (.iload_n 1, 1) := by decide +kernel
theorem dX11_movesAll_119 : decode prog_13_method_91_code 119 = .ok (.invokevirtual 432, 3) := by decide +kernel
theorem dX11_movesAll_122 : decode prog_13_method_91_code 122 = .ok (.aload_n 0, 1) := by decide +kernel
theorem dX11_movesAll_123 : decode prog_13_method_91_code 123 = .ok (.aload_n 0, 1) := by decide +kernel
theorem dX11_movesAll_124 : decode prog_13_method_91_code 124 = .ok (.getfield 37, 3) := by decide +kernel
theorem dX11_movesAll_127 : decode prog_13_method_91_code 127 = .ok (.iload_n 1, 1) := by decide +kernel
theorem dX11_movesAll_128 : decode prog_13_method_91_code 128 = .ok (.invokevirtual 436, 3) := by decide +kernel
theorem dX11_movesAll_131 : decode prog_13_method_91_code 131 = .ok (.aload_n 0, 1) := by decide +kernel
theorem dX11_movesAll_132 : decode prog_13_method_91_code 132 = .ok (.aload_n 0, 1) := by decide +kernel
theorem dX11_movesAll_133 : decode prog_13_method_91_code 133 = .ok (.getfield 41, 3) := by decide +kernel
theorem dX11_movesAll_136 : decode prog_13_method_91_code 136 = .ok (.iload_n 1, 1) := by decide +kernel
theorem dX11_movesAll_137 : decode prog_13_method_91_code 137 = .ok (.invokevirtual 436, 3) := by decide +kernel
theorem dX11_movesAll_140 : decode prog_13_method_91_code 140 = .ok (.aload_n 0, 1) := by decide +kernel
theorem dX11_movesAll_141 : decode prog_13_method_91_code 141 = .ok (.aload_n 0, 1) := by decide +kernel
theorem dX11_movesAll_142 : decode prog_13_method_91_code 142 = .ok (.getfield 119, 3) := by decide +kernel
theorem dX11_movesAll_145 : decode prog_13_method_91_code 145 = .ok (.iload_n 1, 1) := by decide +kernel
theorem dX11_movesAll_146 : decode prog_13_method_91_code 146 = .ok (.invokevirtual 432, 3) := by decide +kernel
theorem dX11_movesAll_149 : decode prog_13_method_91_code 149 = .ok (.aload_n 0, 1) := by decide +kernel
theorem dX11_movesAll_150 : decode prog_13_method_91_code 150 = .ok (.aload_n 0, 1) := by decide +kernel
theorem dX11_movesAll_151 : decode prog_13_method_91_code 151 = .ok (.getfield 122, 3) := by decide +kernel
theorem dX11_movesAll_154 : decode prog_13_method_91_code 154 = .ok (.iload_n 1, 1) := by decide +kernel
theorem dX11_movesAll_155 : decode prog_13_method_91_code 155 = .ok (.invokevirtual 432, 3) := by decide +kernel
theorem dX11_movesAll_158 : decode prog_13_method_91_code 158 = .ok (.aload_n 0, 1) := by decide +kernel
theorem dX11_movesAll_159 : decode prog_13_method_91_code 159 = .ok (.aload_n 0, 1) := by decide +kernel
theorem dX11_movesAll_160 : decode prog_13_method_91_code 160 = .ok (.getfield 134, 3) := by decide +kernel
theorem dX11_movesAll_163 : decode prog_13_method_91_code 163 = .ok (.iload_n 1, 1) := by decide +kernel
theorem dX11_movesAll_164 : decode prog_13_method_91_code 164 = .ok (.invokevirtual 436, 3) := by decide +kernel
theorem dX11_movesAll_167 : decode prog_13_method_91_code 167 = .ok (.aload_n 0, 1) := by decide +kernel
theorem dX11_movesAll_168 : decode prog_13_method_91_code 168 = .ok (.aload_n 0, 1) := by decide +kernel
theorem dX11_movesAll_169 : decode prog_13_method_91_code 169 = .ok (.getfield 125, 3) := by decide +kernel
theorem dX11_movesAll_172 : decode prog_13_method_91_code 172 = .ok (.iload_n 1, 1) := by decide +kernel
theorem dX11_movesAll_173 : decode prog_13_method_91_code 173 = .ok (.invokevirtual 432, 3) := by decide +kernel
theorem dX11_movesAll_176 : decode prog_13_method_91_code 176 = .ok (.aload_n 0, 1) := by decide +kernel
theorem dX11_movesAll_177 : decode prog_13_method_91_code 177 = .ok (.aload_n 0, 1) := by decide +kernel
theorem dX11_movesAll_178 : decode prog_13_method_91_code 178 = .ok (.getfield 128, 3) := by decide +kernel
theorem dX11_movesAll_181 : decode prog_13_method_91_code 181 = .ok (.iload_n 1, 1) := by decide +kernel
theorem dX11_movesAll_182 : decode prog_13_method_91_code 182 = .ok (.invokevirtual 432, 3) := by decide +kernel
theorem dX11_movesAll_185 : decode prog_13_method_91_code 185 = .ok (.aload_n 0, 1) := by decide +kernel
theorem dX11_movesAll_186 : decode prog_13_method_91_code 186 = .ok (.aload_n 0, 1) := by decide +kernel
theorem dX11_movesAll_187 : decode prog_13_method_91_code 187 = .ok (.getfield 131, 3) := by decide +kernel
theorem dX11_movesAll_190 : decode prog_13_method_91_code 190 = .ok (.iload_n 1, 1) := by decide +kernel
theorem dX11_movesAll_191 : decode prog_13_method_91_code 191 = .ok (.invokevirtual 432, 3) := by decide +kernel
theorem dX11_movesAll_194 : decode prog_13_method_91_code 194 = .ok (.aload_n 0, 1) := by decide +kernel
theorem dX11_movesAll_195 : decode prog_13_method_91_code 195 = .ok (.aload_n 0, 1) := by decide +kernel
theorem dX11_movesAll_196 : decode prog_13_method_91_code 196 = .ok (.getfield 30, 3) := by decide +kernel
theorem dX11_movesAll_199 : decode prog_13_method_91_code 199 = .ok (.iload_n 1, 1) := by decide +kernel
theorem dX11_movesAll_200 : decode prog_13_method_91_code 200 = .ok (.invokevirtual 439, 3) := by decide +kernel
theorem dX11_movesAll_203 : decode prog_13_method_91_code 203 = .ok (.aload_n 0, 1) := by decide +kernel
theorem dX11_movesAll_204 : decode prog_13_method_91_code 204 = .ok (.aload_n 0, 1) := by decide +kernel
theorem dX11_movesAll_205 : decode prog_13_method_91_code 205 = .ok (.getfield 137, 3) := by decide +kernel
theorem dX11_movesAll_208 : decode prog_13_method_91_code 208 = .ok (.iload_n 1, 1) := by decide +kernel
theorem dX11_movesAll_209 : decode prog_13_method_91_code 209 = .ok (.invokevirtual 439, 3) := by decide +kernel
theorem dX11_movesAll_212 : decode prog_13_method_91_code 212 = .ok (.aload_n 0, 1) := by decide +kernel
theorem dX11_movesAll_213 : decode prog_13_method_91_code 213 = .ok (.aload_n 0, 1) := by decide +kernel
theorem dX11_movesAll_214 : decode prog_13_method_91_code 214 = .ok (.getfield 140, 3) := by decide +kernel
theorem dX11_movesAll_217 : decode prog_13_method_91_code 217 = .ok (.iload_n 1, 1) := by decide +kernel
theorem dX11_movesAll_218 : decode prog_13_method_91_code 218 = .ok (.invokevirtual 439, 3) := by decide +kernel
theorem dX11_movesAll_221 : decode prog_13_method_91_code 221 = .ok (.aload_n 0, 1) := by decide +kernel
theorem dX11_movesAll_222 : decode prog_13_method_91_code 222 = .ok (.aload_n 0, 1) := by decide +kernel
theorem dX11_movesAll_223 : decode prog_13_method_91_code 223 = .ok (.getfield 143, 3) := by decide +kernel
theorem dX11_movesAll_226 : decode prog_13_method_91_code 226 = .ok (.iload_n 1, 1) := by decide +kernel
theorem dX11_movesAll_227 : decode prog_13_method_91_code 227 = .ok (.invokevirtual 439, 3) := by decide +kernel
theorem dX11_movesAll_230 : decode prog_13_method_91_code 230 = .ok (.iconst 0, 1) := by decide +kernel
theorem dX11_movesAll_231 : decode prog_13_method_91_code 231 = .ok (.istore_n 2, 1) := by decide +kernel
theorem dX11_movesAll_232 : decode prog_13_method_91_code 232 = .ok (.iload_n 2, 1) := by decide +kernel
theorem dX11_movesAll_233 : decode prog_13_method_91_code 233 = .ok (.bipush 32, 2) := by decide +kernel
theorem dX11_movesAll_235 : decode prog_13_method_91_code 235 = .ok (.if_icmp .ge 40, 3) := by decide +kernel
theorem dX11_movesAll_238 : decode prog_13_method_91_code 238 = .ok (.iload_n 1, 1) := by decide +kernel
theorem dX11_movesAll_239 : decode prog_13_method_91_code 239 = .ok (.ifCond .eq 18, 3) := by decide +kernel
theorem dX11_movesAll_242 : decode prog_13_method_91_code 242 = .ok (.aload_n 0, 1) := by decide +kernel
theorem dX11_movesAll_243 : decode prog_13_method_91_code 243 = .ok (.iload_n 2, 1) := by decide +kernel
theorem dX11_movesAll_244 : decode prog_13_method_91_code 244 = .ok (.invokestatic 283, 3) := by decide +kernel
theorem dX11_movesAll_247 : decode prog_13_method_91_code 247 = .ok (.iload_n 2, 1) := by decide +kernel
theorem dX11_movesAll_248 : decode prog_13_method_91_code 248 = .ok (.invokestatic 442, 3) := by decide +kernel
theorem dX11_movesAll_251 : decode prog_13_method_91_code 251 = .ok (.invokevirtual 358, 3) := by decide +kernel
theorem dX11_movesAll_254 : decode prog_13_method_91_code 254 = .ok (.goto 15, 3) := by decide +kernel
theorem dX11_movesAll_257 : decode prog_13_method_91_code 257 = .ok (.aload_n 0, 1) := by decide +kernel
theorem dX11_movesAll_258 : decode prog_13_method_91_code 258 = .ok (.iload_n 2, 1) := by decide +kernel
theorem dX11_movesAll_259 : decode prog_13_method_91_code 259 = .ok (.invokestatic 442, 3) := by decide +kernel
theorem dX11_movesAll_262 : decode prog_13_method_91_code 262 = .ok (.iload_n 2, 1) := by decide +kernel
theorem dX11_movesAll_263 : decode prog_13_method_91_code 263 = .ok (.invokestatic 283, 3) := by decide +kernel
theorem dX11_movesAll_266 : decode prog_13_method_91_code 266 = .ok (.invokevirtual 358, 3) := by decide +kernel
theorem dX11_movesAll_269 : decode prog_13_method_91_code 269 = .ok (.iinc 2 1, 3) := by decide +kernel
theorem dX11_movesAll_272 : decode prog_13_method_91_code 272 = .ok (.goto (-40), 3) := by decide +kernel
theorem dX11_movesAll_275 : decode prog_13_method_91_code 275 = .ok (.return_, 1) := by decide +kernel
theorem dX11_moves___0 : decode prog_13_method_90_code 0 = .ok (.iconst 0, 1) := by decide +kernel
theorem dX11_moves___1 : decode prog_13_method_90_code 1 = .ok (.istore_n 3, 1) := by decide +kernel
theorem dX11_moves___2 : decode prog_13_method_90_code 2 = .ok (.iload_n 3, 1) := by decide +kernel
theorem dX11_moves___3 : decode prog_13_method_90_code 3 = .ok (.aload_n 1, 1) := by decide +kernel
theorem dX11_moves___4 : decode prog_13_method_90_code 4 = .ok (.arraylength, 1) := by decide +kernel
theorem dX11_moves___5 : decode prog_13_method_90_code 5 = .ok (.if_icmp .ge 50, 3) := by decide +kernel
theorem dX11_moves___8 : decode prog_13_method_90_code 8 = .ok (.iload_n 2, 1) := by decide +kernel
theorem dX11_moves___9 : decode prog_13_method_90_code 9 = .ok (.ifCond .eq 18, 3) := by decide +kernel
theorem dX11_moves___12 : decode prog_13_method_90_code 12 = .ok (.aload_n 0, 1) := by decide +kernel
theorem dX11_moves___13 : decode prog_13_method_90_code 13 = .ok (.getfield 158, 3) := by decide +kernel
theorem dX11_moves___16 : decode prog_13_method_90_code 16 = .ok (.aload_n 0, 1) := by decide +kernel
theorem dX11_moves___17 : decode prog_13_method_90_code 17 = .ok (.getfield 429, 3) := by decide +kernel
theorem dX11_moves___20 : decode prog_13_method_90_code 20 = .ok (.aload_n 1, 1) := by decide +kernel
theorem dX11_moves___21 : decode prog_13_method_90_code 21 = .ok (.iload_n 3, 1) := by decide +kernel
theorem dX11_moves___22 : decode prog_13_method_90_code 22 = .ok (.laload, 1) := by decide +kernel
theorem dX11_moves___23 : decode prog_13_method_90_code 23 = .ok (.lastore, 1) := by decide +kernel
theorem dX11_moves___24 : decode prog_13_method_90_code 24 = .ok (.goto 15, 3) := by decide +kernel
theorem dX11_moves___27 : decode prog_13_method_90_code 27 = .ok (.aload_n 1, 1) := by decide +kernel
theorem dX11_moves___28 : decode prog_13_method_90_code 28 = .ok (.iload_n 3, 1) := by decide +kernel
theorem dX11_moves___29 : decode prog_13_method_90_code 29 = .ok (.aload_n 0, 1) := by decide +kernel
theorem dX11_moves___30 : decode prog_13_method_90_code 30 = .ok (.getfield 158, 3) := by decide +kernel
theorem dX11_moves___33 : decode prog_13_method_90_code 33 = .ok (.aload_n 0, 1) := by decide +kernel
theorem dX11_moves___34 : decode prog_13_method_90_code 34 = .ok (.getfield 429, 3) := by decide +kernel
theorem dX11_moves___37 : decode prog_13_method_90_code 37 = .ok (.laload, 1) := by decide +kernel
theorem dX11_moves___38 : decode prog_13_method_90_code 38 = .ok (.lastore, 1) := by decide +kernel
theorem dX11_moves___39 : decode prog_13_method_90_code 39 = .ok (.aload_n 0, 1) := by decide +kernel
theorem dX11_moves___40 : decode prog_13_method_90_code 40 = .ok (.dup, 1) := by decide +kernel
theorem dX11_moves___41 : decode prog_13_method_90_code 41 = .ok (.getfield 429, 3) := by decide +kernel
theorem dX11_moves___44 : decode prog_13_method_90_code 44 = .ok (.iconst 1, 1) := by decide +kernel
theorem dX11_moves___45 : decode prog_13_method_90_code 45 = .ok (.iadd, 1) := by decide +kernel
theorem dX11_moves___46 : decode prog_13_method_90_code 46 = .ok (.putfield 429, 3) := by decide +kernel
theorem dX11_moves___49 : decode prog_13_method_90_code 49 = .ok (.iinc 3 1, 3) := by decide +kernel
theorem dX11_moves___52 : decode prog_13_method_90_code 52 = .ok (.goto (-50), 3) := by decide +kernel
theorem dX11_moves___55 : decode prog_13_method_90_code 55 = .ok (.return_, 1) := by decide +kernel
theorem dX11_ofImage_0 : decode prog_13_method_22_code 0 = .ok (.bipush 96, 2) := by decide +kernel
theorem dX11_ofImage_2 : decode prog_13_method_22_code 2 = .ok (.iload_n 0, 1) := by decide +kernel
theorem dX11_ofImage_3 : decode prog_13_method_22_code 3 = .ok (.iadd, 1) := by decide +kernel
theorem dX11_ofImage_4 : decode prog_13_method_22_code 4 = .ok (.sipush 128, 3) := by decide +kernel
theorem dX11_ofImage_7 : decode prog_13_method_22_code 7 = .ok (.imul, 1) := by decide +kernel
theorem dX11_ofImage_8 : decode prog_13_method_22_code 8 = .ok (.ireturn, 1) := by decide +kernel
theorem dX11_present_0 : decode prog_13_method_87_code 0 = .ok (.iconst 0, 1) := by decide +kernel
theorem dX11_present_1 : decode prog_13_method_87_code 1 = .ok (.istore_n 1, 1) := by decide +kernel
theorem dX11_present_2 : decode prog_13_method_87_code 2 = .ok (.iconst 0, 1) := by decide +kernel
theorem dX11_present_3 : decode prog_13_method_87_code 3 = .ok (.istore_n 2, 1) := by decide +kernel
theorem dX11_present_4 : decode prog_13_method_87_code 4 = .ok (.iload_n 2, 1) := by decide +kernel
theorem dX11_present_5 : decode prog_13_method_87_code 5 = .ok (.bipush 32, 2) := by decide +kernel
theorem dX11_present_7 : decode prog_13_method_87_code 7 = .ok (.if_icmp .ge 26, 3) := by decide +kernel
theorem dX11_present_10 : decode prog_13_method_87_code 10 = .ok (.iload_n 1, 1) := by decide +kernel
theorem dX11_present_11 : decode prog_13_method_87_code 11 = .ok (.aload_n 0, 1) := by decide +kernel
theorem dX11_present_12 : decode prog_13_method_87_code 12 = .ok (.getfield 11, 3) := by decide +kernel
theorem dX11_present_15 : decode prog_13_method_87_code 15 = .ok (.iload_n 2, 1) := by decide +kernel
theorem dX11_present_16 : decode prog_13_method_87_code 16 = .ok (.iaload, 1) := by decide +kernel
theorem dX11_present_17 : decode prog_13_method_87_code 17 = .ok (.ifCond .eq 7, 3) := by decide +kernel
theorem dX11_present_20 : decode prog_13_method_87_code 20 = .ok (.iconst 1, 1) := by decide +kernel
theorem dX11_present_21 : decode prog_13_method_87_code 21 = .ok (.goto 4, 3) := by decide +kernel
theorem dX11_present_24 : decode prog_13_method_87_code 24 = .ok (.iconst 0, 1) := by decide +kernel
theorem dX11_present_25 : decode prog_13_method_87_code 25 = .ok (.iadd, 1) := by decide +kernel
theorem dX11_present_26 : decode prog_13_method_87_code 26 = .ok (.istore_n 1, 1) := by decide +kernel
theorem dX11_present_27 : decode prog_13_method_87_code 27 = .ok (.iinc 2 1, 3) := by decide +kernel
theorem dX11_present_30 : decode prog_13_method_87_code 30 = .ok (.goto (-26), 3) := by decide +kernel
theorem dX11_present_33 : decode prog_13_method_87_code 33 = .ok (.iload_n 1, 1) := by decide +kernel
theorem dX11_present_34 : decode prog_13_method_87_code 34 = .ok (.ireturn, 1) := by decide +kernel
theorem dX11_undo_0 : decode prog_13_method_93_code 0 = .ok (.aload_n 0, 1) := by decide +kernel
theorem dX11_undo_1 : decode prog_13_method_93_code 1 = .ok (.getfield 445, 3) := by decide +kernel
theorem dX11_undo_4 : decode prog_13_method_93_code 4 = .ok (.ifCond .eq 10, 3) := by decide +kernel
theorem dX11_undo_7 : decode prog_13_method_93_code 7 = .ok (.aload_n 0, 1) := by decide +kernel
theorem dX11_undo_8 : decode prog_13_method_93_code 8 = .ok (.getfield 342, 3) := by decide +kernel
theorem dX11_undo_11 : decode prog_13_method_93_code 11 = .ok (.ifCond .eq 6, 3) := by decide +kernel
theorem dX11_undo_14 : decode prog_13_method_93_code 14 = .ok (.bipush (-3), 2) := by decide +kernel
theorem dX11_undo_16 : decode prog_13_method_93_code 16 = .ok (.ireturn, 1) := by decide +kernel
theorem dX11_undo_17 : decode prog_13_method_93_code 17 = .ok (.aload_n 0, 1) := by decide +kernel
theorem dX11_undo_18 : decode prog_13_method_93_code 18 = .ok (.iconst 0, 1) := by decide +kernel
theorem dX11_undo_19 : decode prog_13_method_93_code 19 = .ok (.invokevirtual 448, 3) := by decide +kernel
theorem dX11_undo_22 : decode prog_13_method_93_code 22 = .ok (.aload_n 0, 1) := by decide +kernel
theorem dX11_undo_23 : decode prog_13_method_93_code 23 = .ok (.invokevirtual 452, 3) := by decide +kernel
theorem dX11_undo_26 : decode prog_13_method_93_code 26 = .ok (.ireturn, 1) := by decide +kernel
/-! ReactiveSheetModel.moves([JZ)V ['m', 'm.value'] -/
abbrev rm_M_X11_moves____0_7 : Room := { frames := 0, cells := 0, slots := 0, locals := 0 }
def b_M_X11_moves____0_7_55  (t : fw_S)  : Option fw_S := some t
def b_M_X11_moves____0_7_39 (k2 : fw_S → Int32 → Int32 → Option fw_S) (t : fw_S) (x2 : Int32) (x3 : Int32) : Option fw_S := fb_l (up_I t 20 ((st_I t 20) + ((1 : Int32)))) fun t_1 => (k2 t_1 x2 (x3 + 1))
def b_M_X11_moves____0_7_27 (k2 : fw_S → Int32 → Int32 → Option fw_S) (t : fw_S) (x2 : Int32) (x3 : Int32) : Option fw_S := fb_g (¬ ((st_I t 20) < 0 ∨ 200 ≤ (st_I t 20).toNatClampNeg)) (fb_g (¬ (x3 < 0 ∨ 32 ≤ x3.toNatClampNeg)) (fb_l (up_G t 0 (vp_updL (st_G t 0) x3.toNatClampNeg (st_G t 8 (st_I t 20).toNatClampNeg))) fun t_1 => (b_M_X11_moves____0_7_39 k2 t_1 x2 x3)))
def b_M_X11_moves____0_7_12 (k2 : fw_S → Int32 → Int32 → Option fw_S) (t : fw_S) (x2 : Int32) (x3 : Int32) : Option fw_S := fb_g (¬ (x3 < 0 ∨ 32 ≤ x3.toNatClampNeg)) (fb_g (¬ ((st_I t 20) < 0 ∨ 200 ≤ (st_I t 20).toNatClampNeg)) (fb_l (up_G t 8 (vp_updL (st_G t 8) (st_I t 20).toNatClampNeg (st_G t 0 x3.toNatClampNeg))) fun t_1 => (b_M_X11_moves____0_7_39 k2 t_1 x2 x3)))
def b_M_X11_moves____0_7_8 (k2 : fw_S → Int32 → Int32 → Option fw_S) (t : fw_S) (x2 : Int32) (x3 : Int32) : Option fw_S := if x2 = 0 then b_M_X11_moves____0_7_27 k2 t x2 x3 else b_M_X11_moves____0_7_12 k2 t x2 x3
def b_M_X11_moves____0_7_2  : Nat → (fw_S → Int32 → Int32 → Option fw_S)
  | 0 => fun _ _ _ => none
  | n + 1 => fun t x2 x3 => if ((32 : Int32)) ≤ x3 then b_M_X11_moves____0_7_55 t else b_M_X11_moves____0_7_8 (b_M_X11_moves____0_7_2 n) t x2 x3
def b_M_X11_moves____0_7_0  (t : fw_S) (x2 : Int32) : Option fw_S := b_M_X11_moves____0_7_2 3000 t x2 ((0 : Int32))
def f_M_X11_moves____0_7 (t : fw_S) (x2 : Int32) : Option fw_S := b_M_X11_moves____0_7_0 t x2
set_option maxRecDepth 20000 in
theorem w_M_X11_moves____0_7_55 {p : Program} {l : Launch} {e : Env} {s : State} {m : MethodId} {args : Array Value} {below : List Frame} {meth : Method} {c : Code} {A : Nat → Prop} {Q : State → Prop} {D : va_G} {ca : Nat → ClassId} {a : Nat → Nat} {u : fw_S}  (C : CX (WM ca a) D (tyv ca) p s m args c A prog_13_method_90_code 4 RX11) (hr : True → RX (WM ca a) D p l e rm_M_X11_moves____0_7 s m args below meth c A prog_13_method_90_code Q .return_ [] u) {t : fw_S}  {H : Heap} {locs : List Loc} {ls : Array Slot} (hf : b_M_X11_moves____0_7_55  t  = some u) (hP : va_P D classes (WM ca a t) H) (hS : va_S A s.heap H locs) (hl : lv_has ls 4 []) : W p l e rm_M_X11_moves____0_7 s m args below meth c H locs 0 0 Q (F0 m 55 ls []) := by
  obtain ⟨hx, hb, hml, hown, hts, hN, hK, hD, hA⟩ := id C
  have hf : (some t) = some u := hf
  have e_55 := fb_ev hf
  subst e_55
  exact hr trivial _ _ _ _ hP hS dX11_moves___55
set_option maxRecDepth 20000 in
theorem w_M_X11_moves____0_7_39 {p : Program} {l : Launch} {e : Env} {s : State} {m : MethodId} {args : Array Value} {below : List Frame} {meth : Method} {c : Code} {A : Nat → Prop} {Q : State → Prop} {D : va_G} {ca : Nat → ClassId} {a : Nat → Nat} {u : fw_S} {k2 : fw_S → Int32 → Int32 → Option fw_S} (C : CX (WM ca a) D (tyv ca) p s m args c A prog_13_method_90_code 4 RX11) (hr : True → RX (WM ca a) D p l e rm_M_X11_moves____0_7 s m args below meth c A prog_13_method_90_code Q .return_ [] u) (hk2 : ∀ (t : fw_S) (x2 : Int32) (x3 : Int32) (H : Heap) (locs : List Loc) (ls : Array Slot), k2 t x2 x3 = some u → va_P D classes (WM ca a t) H → va_S A s.heap H locs → lv_has ls 4 [(0, .ref (a 0)), (1, .ref (a 7)), (2, .int x2), (3, .int x3)] → W p l e rm_M_X11_moves____0_7 s m args below meth c H locs 0 0 Q (F0 m 2 ls [])) {t : fw_S} {x2 : Int32} {x3 : Int32} {H : Heap} {locs : List Loc} {ls : Array Slot} (hf : b_M_X11_moves____0_7_39 k2 t x2 x3 = some u) (hP : va_P D classes (WM ca a t) H) (hS : va_S A s.heap H locs) (hl : lv_has ls 4 [(0, .ref (a 0)), (1, .ref (a 7)), (2, .int x2), (3, .int x3)]) : W p l e rm_M_X11_moves____0_7 s m args below meth c H locs 0 0 Q (F0 m 39 ls []) := by
  obtain ⟨hx, hb, hml, hown, hts, hN, hK, hD, hA⟩ := id C
  have hf : (fb_l (up_I t 20 ((st_I t 20) + ((1 : Int32)))) fun t_1 => (k2 t_1 x2 (x3 + 1))) = some u := hf
  refine lv_aload_n hx hb dX11_moves___39 rfl (lv_at hl 0 rfl) ?_
  refine lv_dup hx hb dX11_moves___40 rfl ?_
  refine va_get (D := D) (ci := 11) (v := .int (st_I t 20)) (C := RX11) (T := TX11) (N := 76) hx hb hts inX11 hown hK hP 0 (heM_0 ca a t) rfl 69 (by decide) (hts _ kw_1261) (fun _ h9 => h9) rfl dX11_moves___41 ?_
  refine lv_iconst (v := 1) hx hb dX11_moves___44 (by decide) ?_
  refine lv_iadd hx hb dX11_moves___45 ?_
  refine va_put (D := D) (ci := 11) (v := .int ((st_I t 20) + ((1 : Int32)))) (ty := .int) (C := RX11) (T := TX11) (N := 76) hx hb hts inX11 tyX11 tyX11_ok nmX11 hown hK hP (hD t) hS 0 (heM_0 ca a t) rfl 69 (by decide) (hts _ kw_1261) (fun _ h9 => h9) rfl (by decide +kernel) rfl rfl (Nat.le_of_ble_eq_true rfl) dX11_moves___46 (fun H locs hP _ hS => ?_)
  rw [suM_0_69] at hP
  obtain ⟨t_1, e_46, hf⟩ := fb_ls hf
  rw [← e_46] at hP
  refine lv_iinc (v := x3 + 1) (lv' := [(3, .int (x3 + 1)), (0, .ref (a 0)), (1, .ref (a 7)), (2, .int x2)]) hx hb dX11_moves___49 hl (k := 3) rfl rfl (by decide) rfl (fun ls hl => ?_)
  refine lv_goto (tgt := 2) hx hb dX11_moves___52 (by decide) ?_
  exact hk2 t_1 x2 (x3 + 1) _ _ _ hf hP hS (lv_sub hl [1, 2, 3, 0] rfl)
set_option maxRecDepth 20000 in
theorem w_M_X11_moves____0_7_27 {p : Program} {l : Launch} {e : Env} {s : State} {m : MethodId} {args : Array Value} {below : List Frame} {meth : Method} {c : Code} {A : Nat → Prop} {Q : State → Prop} {D : va_G} {ca : Nat → ClassId} {a : Nat → Nat} {u : fw_S} {k2 : fw_S → Int32 → Int32 → Option fw_S} (C : CX (WM ca a) D (tyv ca) p s m args c A prog_13_method_90_code 4 RX11) (hr : True → RX (WM ca a) D p l e rm_M_X11_moves____0_7 s m args below meth c A prog_13_method_90_code Q .return_ [] u) (hk2 : ∀ (t : fw_S) (x2 : Int32) (x3 : Int32) (H : Heap) (locs : List Loc) (ls : Array Slot), k2 t x2 x3 = some u → va_P D classes (WM ca a t) H → va_S A s.heap H locs → lv_has ls 4 [(0, .ref (a 0)), (1, .ref (a 7)), (2, .int x2), (3, .int x3)] → W p l e rm_M_X11_moves____0_7 s m args below meth c H locs 0 0 Q (F0 m 2 ls [])) {t : fw_S} {x2 : Int32} {x3 : Int32} {H : Heap} {locs : List Loc} {ls : Array Slot} (hf : b_M_X11_moves____0_7_27 k2 t x2 x3 = some u) (hP : va_P D classes (WM ca a t) H) (hS : va_S A s.heap H locs) (hl : lv_has ls 4 [(0, .ref (a 0)), (1, .ref (a 7)), (2, .int x2), (3, .int x3)]) : W p l e rm_M_X11_moves____0_7 s m args below meth c H locs 0 0 Q (F0 m 27 ls []) := by
  obtain ⟨hx, hb, hml, hown, hts, hN, hK, hD, hA⟩ := id C
  have hf : (fb_g (¬ ((st_I t 20) < 0 ∨ 200 ≤ (st_I t 20).toNatClampNeg)) (fb_g (¬ (x3 < 0 ∨ 32 ≤ x3.toNatClampNeg)) (fb_l (up_G t 0 (vp_updL (st_G t 0) x3.toNatClampNeg (st_G t 8 (st_I t 20).toNatClampNeg))) fun t_1 => (b_M_X11_moves____0_7_39 k2 t_1 x2 x3)))) = some u := hf
  refine lv_aload_n hx hb dX11_moves___27 rfl (lv_at hl 1 rfl) ?_
  refine lv_iload_n hx hb dX11_moves___28 rfl (lv_at hl 3 rfl) ?_
  refine lv_aload_n hx hb dX11_moves___29 rfl (lv_at hl 0 rfl) ?_
  refine va_get (D := D) (ci := 11) (v := .ref (a 49)) (C := RX11) (T := TX11) (N := 76) hx hb hts inX11 hown hK hP 0 (heM_0 ca a t) rfl 67 (by decide) (hts _ kw_1259) (fun _ h9 => h9) rfl dX11_moves___30 ?_
  refine lv_aload_n hx hb dX11_moves___33 rfl (lv_at hl 0 rfl) ?_
  refine va_get (D := D) (ci := 11) (v := .int (st_I t 20)) (C := RX11) (T := TX11) (N := 76) hx hb hts inX11 hown hK hP 0 (heM_0 ca a t) rfl 69 (by decide) (hts _ kw_1261) (fun _ h9 => h9) rfl dX11_moves___34 ?_
  obtain ⟨h_37, hf⟩ := fb_if hf
  refine va_lald hx hb hK hP 49 1 (haM_49 ca a t) rfl h_37 dX11_moves___37 ?_
  obtain ⟨h_38, hf⟩ := fb_if hf
  refine va_last hx hb hK hP (hD t) hS 7 1 (haM_7 ca a t) rfl h_38 dX11_moves___38 (fun H locs hP _ hS => ?_)
  rw [saM_7] at hP
  obtain ⟨t_1, e_38, hf⟩ := fb_ls hf
  rw [← e_38] at hP
  exact w_M_X11_moves____0_7_39 C hr hk2 hf hP hS (lv_sub hl [0, 1, 2, 3] rfl)
set_option maxRecDepth 20000 in
theorem w_M_X11_moves____0_7_12 {p : Program} {l : Launch} {e : Env} {s : State} {m : MethodId} {args : Array Value} {below : List Frame} {meth : Method} {c : Code} {A : Nat → Prop} {Q : State → Prop} {D : va_G} {ca : Nat → ClassId} {a : Nat → Nat} {u : fw_S} {k2 : fw_S → Int32 → Int32 → Option fw_S} (C : CX (WM ca a) D (tyv ca) p s m args c A prog_13_method_90_code 4 RX11) (hr : True → RX (WM ca a) D p l e rm_M_X11_moves____0_7 s m args below meth c A prog_13_method_90_code Q .return_ [] u) (hk2 : ∀ (t : fw_S) (x2 : Int32) (x3 : Int32) (H : Heap) (locs : List Loc) (ls : Array Slot), k2 t x2 x3 = some u → va_P D classes (WM ca a t) H → va_S A s.heap H locs → lv_has ls 4 [(0, .ref (a 0)), (1, .ref (a 7)), (2, .int x2), (3, .int x3)] → W p l e rm_M_X11_moves____0_7 s m args below meth c H locs 0 0 Q (F0 m 2 ls [])) {t : fw_S} {x2 : Int32} {x3 : Int32} {H : Heap} {locs : List Loc} {ls : Array Slot} (hf : b_M_X11_moves____0_7_12 k2 t x2 x3 = some u) (hP : va_P D classes (WM ca a t) H) (hS : va_S A s.heap H locs) (hl : lv_has ls 4 [(0, .ref (a 0)), (1, .ref (a 7)), (2, .int x2), (3, .int x3)]) : W p l e rm_M_X11_moves____0_7 s m args below meth c H locs 0 0 Q (F0 m 12 ls []) := by
  obtain ⟨hx, hb, hml, hown, hts, hN, hK, hD, hA⟩ := id C
  have hf : (fb_g (¬ (x3 < 0 ∨ 32 ≤ x3.toNatClampNeg)) (fb_g (¬ ((st_I t 20) < 0 ∨ 200 ≤ (st_I t 20).toNatClampNeg)) (fb_l (up_G t 8 (vp_updL (st_G t 8) (st_I t 20).toNatClampNeg (st_G t 0 x3.toNatClampNeg))) fun t_1 => (b_M_X11_moves____0_7_39 k2 t_1 x2 x3)))) = some u := hf
  refine lv_aload_n hx hb dX11_moves___12 rfl (lv_at hl 0 rfl) ?_
  refine va_get (D := D) (ci := 11) (v := .ref (a 49)) (C := RX11) (T := TX11) (N := 76) hx hb hts inX11 hown hK hP 0 (heM_0 ca a t) rfl 67 (by decide) (hts _ kw_1259) (fun _ h9 => h9) rfl dX11_moves___13 ?_
  refine lv_aload_n hx hb dX11_moves___16 rfl (lv_at hl 0 rfl) ?_
  refine va_get (D := D) (ci := 11) (v := .int (st_I t 20)) (C := RX11) (T := TX11) (N := 76) hx hb hts inX11 hown hK hP 0 (heM_0 ca a t) rfl 69 (by decide) (hts _ kw_1261) (fun _ h9 => h9) rfl dX11_moves___17 ?_
  refine lv_aload_n hx hb dX11_moves___20 rfl (lv_at hl 1 rfl) ?_
  refine lv_iload_n hx hb dX11_moves___21 rfl (lv_at hl 3 rfl) ?_
  obtain ⟨h_22, hf⟩ := fb_if hf
  refine va_lald hx hb hK hP 7 1 (haM_7 ca a t) rfl h_22 dX11_moves___22 ?_
  obtain ⟨h_23, hf⟩ := fb_if hf
  refine va_last hx hb hK hP (hD t) hS 49 1 (haM_49 ca a t) rfl h_23 dX11_moves___23 (fun H locs hP _ hS => ?_)
  rw [saM_49] at hP
  obtain ⟨t_1, e_23, hf⟩ := fb_ls hf
  rw [← e_23] at hP
  refine lv_goto (tgt := 39) hx hb dX11_moves___24 (by decide) ?_
  exact w_M_X11_moves____0_7_39 C hr hk2 hf hP hS (lv_sub hl [0, 1, 2, 3] rfl)
set_option maxRecDepth 20000 in
theorem w_M_X11_moves____0_7_8 {p : Program} {l : Launch} {e : Env} {s : State} {m : MethodId} {args : Array Value} {below : List Frame} {meth : Method} {c : Code} {A : Nat → Prop} {Q : State → Prop} {D : va_G} {ca : Nat → ClassId} {a : Nat → Nat} {u : fw_S} {k2 : fw_S → Int32 → Int32 → Option fw_S} (C : CX (WM ca a) D (tyv ca) p s m args c A prog_13_method_90_code 4 RX11) (hr : True → RX (WM ca a) D p l e rm_M_X11_moves____0_7 s m args below meth c A prog_13_method_90_code Q .return_ [] u) (hk2 : ∀ (t : fw_S) (x2 : Int32) (x3 : Int32) (H : Heap) (locs : List Loc) (ls : Array Slot), k2 t x2 x3 = some u → va_P D classes (WM ca a t) H → va_S A s.heap H locs → lv_has ls 4 [(0, .ref (a 0)), (1, .ref (a 7)), (2, .int x2), (3, .int x3)] → W p l e rm_M_X11_moves____0_7 s m args below meth c H locs 0 0 Q (F0 m 2 ls [])) {t : fw_S} {x2 : Int32} {x3 : Int32} {H : Heap} {locs : List Loc} {ls : Array Slot} (hf : b_M_X11_moves____0_7_8 k2 t x2 x3 = some u) (hP : va_P D classes (WM ca a t) H) (hS : va_S A s.heap H locs) (hl : lv_has ls 4 [(0, .ref (a 0)), (1, .ref (a 7)), (2, .int x2), (3, .int x3)]) : W p l e rm_M_X11_moves____0_7 s m args below meth c H locs 0 0 Q (F0 m 8 ls []) := by
  obtain ⟨hx, hb, hml, hown, hts, hN, hK, hD, hA⟩ := id C
  have hf : (if x2 = 0 then b_M_X11_moves____0_7_27 k2 t x2 x3 else b_M_X11_moves____0_7_12 k2 t x2 x3) = some u := hf
  refine lv_iload_n hx hb dX11_moves___8 rfl (lv_at hl 2 rfl) ?_
  refine lv_if_eq (tgt := 27) hx hb dX11_moves___9 (by decide) (fun h_9 => ?_) (fun h_9 => ?_)
  · have hf := fb_t h_9 hf
    exact w_M_X11_moves____0_7_27 C hr hk2 hf hP hS (lv_sub hl [0, 1, 2, 3] rfl)
  · have hf := fb_f h_9 hf
    exact w_M_X11_moves____0_7_12 C hr hk2 hf hP hS (lv_sub hl [0, 1, 2, 3] rfl)
set_option maxRecDepth 20000 in
theorem w_M_X11_moves____0_7_2 {p : Program} {l : Launch} {e : Env} {s : State} {m : MethodId} {args : Array Value} {below : List Frame} {meth : Method} {c : Code} {A : Nat → Prop} {Q : State → Prop} {D : va_G} {ca : Nat → ClassId} {a : Nat → Nat} {u : fw_S}  (C : CX (WM ca a) D (tyv ca) p s m args c A prog_13_method_90_code 4 RX11) (hr : True → RX (WM ca a) D p l e rm_M_X11_moves____0_7 s m args below meth c A prog_13_method_90_code Q .return_ [] u) : ∀ (n : Nat) (t : fw_S) (x2 : Int32) (x3 : Int32) (H : Heap) (locs : List Loc) (ls : Array Slot), b_M_X11_moves____0_7_2  n t x2 x3 = some u → va_P D classes (WM ca a t) H → va_S A s.heap H locs → lv_has ls 4 [(0, .ref (a 0)), (1, .ref (a 7)), (2, .int x2), (3, .int x3)] → W p l e rm_M_X11_moves____0_7 s m args below meth c H locs 0 0 Q (F0 m 2 ls []) := by
  obtain ⟨hx, hb, hml, hown, hts, hN, hK, hD, hA⟩ := id C
  intro n
  induction n with
  | zero => intro t x2 x3 H locs ls hf; cases hf
  | succ n hk2 =>
    intro t x2 x3 H locs ls hf hP hS hl
    have hf : (if ((32 : Int32)) ≤ x3 then b_M_X11_moves____0_7_55 t else b_M_X11_moves____0_7_8 (b_M_X11_moves____0_7_2 n) t x2 x3) = some u := hf
    refine lv_iload_n hx hb dX11_moves___2 rfl (lv_at hl 3 rfl) ?_
    refine lv_aload_n hx hb dX11_moves___3 rfl (lv_at hl 1 rfl) ?_
    refine va_alen (v := 32) hx hb hK hP 7 1 (haM_7 ca a t) rfl rfl dX11_moves___4 ?_
    refine lv_icmp_ge (tgt := 55) hx hb dX11_moves___5 (by decide) (fun h_5 => ?_) (fun h_5 => ?_)
    · have hf := fb_t h_5 hf
      exact w_M_X11_moves____0_7_55 C hr hf hP hS (lv_sub hl [] rfl)
    · have hf := fb_f h_5 hf
      exact w_M_X11_moves____0_7_8 C hr hk2 hf hP hS (lv_sub hl [0, 1, 2, 3] rfl)
set_option maxRecDepth 20000 in
theorem w_M_X11_moves____0_7_0 {p : Program} {l : Launch} {e : Env} {s : State} {m : MethodId} {args : Array Value} {below : List Frame} {meth : Method} {c : Code} {A : Nat → Prop} {Q : State → Prop} {D : va_G} {ca : Nat → ClassId} {a : Nat → Nat} {u : fw_S}  (C : CX (WM ca a) D (tyv ca) p s m args c A prog_13_method_90_code 4 RX11) (hr : True → RX (WM ca a) D p l e rm_M_X11_moves____0_7 s m args below meth c A prog_13_method_90_code Q .return_ [] u) {t : fw_S} {x2 : Int32} {H : Heap} {locs : List Loc} {ls : Array Slot} (hf : b_M_X11_moves____0_7_0  t x2 = some u) (hP : va_P D classes (WM ca a t) H) (hS : va_S A s.heap H locs) (hl : lv_has ls 4 [(0, .ref (a 0)), (1, .ref (a 7)), (2, .int x2)]) : W p l e rm_M_X11_moves____0_7 s m args below meth c H locs 0 0 Q (F0 m 0 ls []) := by
  obtain ⟨hx, hb, hml, hown, hts, hN, hK, hD, hA⟩ := id C
  have hf : (b_M_X11_moves____0_7_2 3000 t x2 ((0 : Int32))) = some u := hf
  refine lv_iconst (v := 0) hx hb dX11_moves___0 (by decide) ?_
  refine lv_istore_n (lv' := [(3, .int ((0 : Int32))), (0, .ref (a 0)), (1, .ref (a 7)), (2, .int x2)]) hx hb dX11_moves___1 rfl hl (by decide) rfl (fun ls hl => ?_)
  exact w_M_X11_moves____0_7_2 C hr 3000 t x2 ((0 : Int32)) _ _ _ hf hP hS (lv_sub hl [1, 2, 3, 0] rfl)
set_option maxRecDepth 20000 in
theorem c_M_X11_moves____0_7 {l : Launch} {D : va_G} {ca : Nat → ClassId} {a : Nat → Nat} {t : fw_S} {x2 : Int32} {u : fw_S} (hf : f_M_X11_moves____0_7 t x2 = some u) : MC (WM ca a) D (tyv ca) l yX11_moves__ (.code yX11_moves__ prog_13_method_90_code 4 none :: lw_gd) rm_M_X11_moves____0_7 [.ref (a 0), .ref (a 7), .int x2] none t u := by
  refine fw_met (okM ca a) (by decide +kernel) rfl rfl (Nat.le_of_ble_eq_true rfl) ?_
  intro p e s m args below meth c A Q ls C hr hk hP hS hl hQ
  exact w_M_X11_moves____0_7_0 C (fun _ => fw_rv C hr hk hQ) hf hP hS (lv_sub hl [0, 1, 2] rfl)
/-! ReactiveSheetModel.moves([JZ)V ['m', 'm.bound'] -/
abbrev rm_M_X11_moves____0_42 : Room := { frames := 0, cells := 0, slots := 0, locals := 0 }
def b_M_X11_moves____0_42_55  (t : fw_S)  : Option fw_S := some t
def b_M_X11_moves____0_42_39 (k2 : fw_S → Int32 → Int32 → Option fw_S) (t : fw_S) (x2 : Int32) (x3 : Int32) : Option fw_S := fb_l (up_I t 20 ((st_I t 20) + ((1 : Int32)))) fun t_1 => (k2 t_1 x2 (x3 + 1))
def b_M_X11_moves____0_42_27 (k2 : fw_S → Int32 → Int32 → Option fw_S) (t : fw_S) (x2 : Int32) (x3 : Int32) : Option fw_S := fb_g (¬ ((st_I t 20) < 0 ∨ 200 ≤ (st_I t 20).toNatClampNeg)) (fb_g (¬ (x3 < 0 ∨ 8 ≤ x3.toNatClampNeg)) (fb_l (up_G t 4 (vp_updL (st_G t 4) x3.toNatClampNeg (st_G t 8 (st_I t 20).toNatClampNeg))) fun t_1 => (b_M_X11_moves____0_42_39 k2 t_1 x2 x3)))
def b_M_X11_moves____0_42_12 (k2 : fw_S → Int32 → Int32 → Option fw_S) (t : fw_S) (x2 : Int32) (x3 : Int32) : Option fw_S := fb_g (¬ (x3 < 0 ∨ 8 ≤ x3.toNatClampNeg)) (fb_g (¬ ((st_I t 20) < 0 ∨ 200 ≤ (st_I t 20).toNatClampNeg)) (fb_l (up_G t 8 (vp_updL (st_G t 8) (st_I t 20).toNatClampNeg (st_G t 4 x3.toNatClampNeg))) fun t_1 => (b_M_X11_moves____0_42_39 k2 t_1 x2 x3)))
def b_M_X11_moves____0_42_8 (k2 : fw_S → Int32 → Int32 → Option fw_S) (t : fw_S) (x2 : Int32) (x3 : Int32) : Option fw_S := if x2 = 0 then b_M_X11_moves____0_42_27 k2 t x2 x3 else b_M_X11_moves____0_42_12 k2 t x2 x3
def b_M_X11_moves____0_42_2  : Nat → (fw_S → Int32 → Int32 → Option fw_S)
  | 0 => fun _ _ _ => none
  | n + 1 => fun t x2 x3 => if ((8 : Int32)) ≤ x3 then b_M_X11_moves____0_42_55 t else b_M_X11_moves____0_42_8 (b_M_X11_moves____0_42_2 n) t x2 x3
def b_M_X11_moves____0_42_0  (t : fw_S) (x2 : Int32) : Option fw_S := b_M_X11_moves____0_42_2 3000 t x2 ((0 : Int32))
def f_M_X11_moves____0_42 (t : fw_S) (x2 : Int32) : Option fw_S := b_M_X11_moves____0_42_0 t x2
set_option maxRecDepth 20000 in
theorem w_M_X11_moves____0_42_55 {p : Program} {l : Launch} {e : Env} {s : State} {m : MethodId} {args : Array Value} {below : List Frame} {meth : Method} {c : Code} {A : Nat → Prop} {Q : State → Prop} {D : va_G} {ca : Nat → ClassId} {a : Nat → Nat} {u : fw_S}  (C : CX (WM ca a) D (tyv ca) p s m args c A prog_13_method_90_code 4 RX11) (hr : True → RX (WM ca a) D p l e rm_M_X11_moves____0_42 s m args below meth c A prog_13_method_90_code Q .return_ [] u) {t : fw_S}  {H : Heap} {locs : List Loc} {ls : Array Slot} (hf : b_M_X11_moves____0_42_55  t  = some u) (hP : va_P D classes (WM ca a t) H) (hS : va_S A s.heap H locs) (hl : lv_has ls 4 []) : W p l e rm_M_X11_moves____0_42 s m args below meth c H locs 0 0 Q (F0 m 55 ls []) := by
  obtain ⟨hx, hb, hml, hown, hts, hN, hK, hD, hA⟩ := id C
  have hf : (some t) = some u := hf
  have e_55 := fb_ev hf
  subst e_55
  exact hr trivial _ _ _ _ hP hS dX11_moves___55
set_option maxRecDepth 20000 in
theorem w_M_X11_moves____0_42_39 {p : Program} {l : Launch} {e : Env} {s : State} {m : MethodId} {args : Array Value} {below : List Frame} {meth : Method} {c : Code} {A : Nat → Prop} {Q : State → Prop} {D : va_G} {ca : Nat → ClassId} {a : Nat → Nat} {u : fw_S} {k2 : fw_S → Int32 → Int32 → Option fw_S} (C : CX (WM ca a) D (tyv ca) p s m args c A prog_13_method_90_code 4 RX11) (hr : True → RX (WM ca a) D p l e rm_M_X11_moves____0_42 s m args below meth c A prog_13_method_90_code Q .return_ [] u) (hk2 : ∀ (t : fw_S) (x2 : Int32) (x3 : Int32) (H : Heap) (locs : List Loc) (ls : Array Slot), k2 t x2 x3 = some u → va_P D classes (WM ca a t) H → va_S A s.heap H locs → lv_has ls 4 [(0, .ref (a 0)), (1, .ref (a 42)), (2, .int x2), (3, .int x3)] → W p l e rm_M_X11_moves____0_42 s m args below meth c H locs 0 0 Q (F0 m 2 ls [])) {t : fw_S} {x2 : Int32} {x3 : Int32} {H : Heap} {locs : List Loc} {ls : Array Slot} (hf : b_M_X11_moves____0_42_39 k2 t x2 x3 = some u) (hP : va_P D classes (WM ca a t) H) (hS : va_S A s.heap H locs) (hl : lv_has ls 4 [(0, .ref (a 0)), (1, .ref (a 42)), (2, .int x2), (3, .int x3)]) : W p l e rm_M_X11_moves____0_42 s m args below meth c H locs 0 0 Q (F0 m 39 ls []) := by
  obtain ⟨hx, hb, hml, hown, hts, hN, hK, hD, hA⟩ := id C
  have hf : (fb_l (up_I t 20 ((st_I t 20) + ((1 : Int32)))) fun t_1 => (k2 t_1 x2 (x3 + 1))) = some u := hf
  refine lv_aload_n hx hb dX11_moves___39 rfl (lv_at hl 0 rfl) ?_
  refine lv_dup hx hb dX11_moves___40 rfl ?_
  refine va_get (D := D) (ci := 11) (v := .int (st_I t 20)) (C := RX11) (T := TX11) (N := 76) hx hb hts inX11 hown hK hP 0 (heM_0 ca a t) rfl 69 (by decide) (hts _ kw_1261) (fun _ h9 => h9) rfl dX11_moves___41 ?_
  refine lv_iconst (v := 1) hx hb dX11_moves___44 (by decide) ?_
  refine lv_iadd hx hb dX11_moves___45 ?_
  refine va_put (D := D) (ci := 11) (v := .int ((st_I t 20) + ((1 : Int32)))) (ty := .int) (C := RX11) (T := TX11) (N := 76) hx hb hts inX11 tyX11 tyX11_ok nmX11 hown hK hP (hD t) hS 0 (heM_0 ca a t) rfl 69 (by decide) (hts _ kw_1261) (fun _ h9 => h9) rfl (by decide +kernel) rfl rfl (Nat.le_of_ble_eq_true rfl) dX11_moves___46 (fun H locs hP _ hS => ?_)
  rw [suM_0_69] at hP
  obtain ⟨t_1, e_46, hf⟩ := fb_ls hf
  rw [← e_46] at hP
  refine lv_iinc (v := x3 + 1) (lv' := [(3, .int (x3 + 1)), (0, .ref (a 0)), (1, .ref (a 42)), (2, .int x2)]) hx hb dX11_moves___49 hl (k := 3) rfl rfl (by decide) rfl (fun ls hl => ?_)
  refine lv_goto (tgt := 2) hx hb dX11_moves___52 (by decide) ?_
  exact hk2 t_1 x2 (x3 + 1) _ _ _ hf hP hS (lv_sub hl [1, 2, 3, 0] rfl)
set_option maxRecDepth 20000 in
theorem w_M_X11_moves____0_42_27 {p : Program} {l : Launch} {e : Env} {s : State} {m : MethodId} {args : Array Value} {below : List Frame} {meth : Method} {c : Code} {A : Nat → Prop} {Q : State → Prop} {D : va_G} {ca : Nat → ClassId} {a : Nat → Nat} {u : fw_S} {k2 : fw_S → Int32 → Int32 → Option fw_S} (C : CX (WM ca a) D (tyv ca) p s m args c A prog_13_method_90_code 4 RX11) (hr : True → RX (WM ca a) D p l e rm_M_X11_moves____0_42 s m args below meth c A prog_13_method_90_code Q .return_ [] u) (hk2 : ∀ (t : fw_S) (x2 : Int32) (x3 : Int32) (H : Heap) (locs : List Loc) (ls : Array Slot), k2 t x2 x3 = some u → va_P D classes (WM ca a t) H → va_S A s.heap H locs → lv_has ls 4 [(0, .ref (a 0)), (1, .ref (a 42)), (2, .int x2), (3, .int x3)] → W p l e rm_M_X11_moves____0_42 s m args below meth c H locs 0 0 Q (F0 m 2 ls [])) {t : fw_S} {x2 : Int32} {x3 : Int32} {H : Heap} {locs : List Loc} {ls : Array Slot} (hf : b_M_X11_moves____0_42_27 k2 t x2 x3 = some u) (hP : va_P D classes (WM ca a t) H) (hS : va_S A s.heap H locs) (hl : lv_has ls 4 [(0, .ref (a 0)), (1, .ref (a 42)), (2, .int x2), (3, .int x3)]) : W p l e rm_M_X11_moves____0_42 s m args below meth c H locs 0 0 Q (F0 m 27 ls []) := by
  obtain ⟨hx, hb, hml, hown, hts, hN, hK, hD, hA⟩ := id C
  have hf : (fb_g (¬ ((st_I t 20) < 0 ∨ 200 ≤ (st_I t 20).toNatClampNeg)) (fb_g (¬ (x3 < 0 ∨ 8 ≤ x3.toNatClampNeg)) (fb_l (up_G t 4 (vp_updL (st_G t 4) x3.toNatClampNeg (st_G t 8 (st_I t 20).toNatClampNeg))) fun t_1 => (b_M_X11_moves____0_42_39 k2 t_1 x2 x3)))) = some u := hf
  refine lv_aload_n hx hb dX11_moves___27 rfl (lv_at hl 1 rfl) ?_
  refine lv_iload_n hx hb dX11_moves___28 rfl (lv_at hl 3 rfl) ?_
  refine lv_aload_n hx hb dX11_moves___29 rfl (lv_at hl 0 rfl) ?_
  refine va_get (D := D) (ci := 11) (v := .ref (a 49)) (C := RX11) (T := TX11) (N := 76) hx hb hts inX11 hown hK hP 0 (heM_0 ca a t) rfl 67 (by decide) (hts _ kw_1259) (fun _ h9 => h9) rfl dX11_moves___30 ?_
  refine lv_aload_n hx hb dX11_moves___33 rfl (lv_at hl 0 rfl) ?_
  refine va_get (D := D) (ci := 11) (v := .int (st_I t 20)) (C := RX11) (T := TX11) (N := 76) hx hb hts inX11 hown hK hP 0 (heM_0 ca a t) rfl 69 (by decide) (hts _ kw_1261) (fun _ h9 => h9) rfl dX11_moves___34 ?_
  obtain ⟨h_37, hf⟩ := fb_if hf
  refine va_lald hx hb hK hP 49 1 (haM_49 ca a t) rfl h_37 dX11_moves___37 ?_
  obtain ⟨h_38, hf⟩ := fb_if hf
  refine va_last hx hb hK hP (hD t) hS 42 1 (haM_42 ca a t) rfl h_38 dX11_moves___38 (fun H locs hP _ hS => ?_)
  rw [saM_42] at hP
  obtain ⟨t_1, e_38, hf⟩ := fb_ls hf
  rw [← e_38] at hP
  exact w_M_X11_moves____0_42_39 C hr hk2 hf hP hS (lv_sub hl [0, 1, 2, 3] rfl)
set_option maxRecDepth 20000 in
theorem w_M_X11_moves____0_42_12 {p : Program} {l : Launch} {e : Env} {s : State} {m : MethodId} {args : Array Value} {below : List Frame} {meth : Method} {c : Code} {A : Nat → Prop} {Q : State → Prop} {D : va_G} {ca : Nat → ClassId} {a : Nat → Nat} {u : fw_S} {k2 : fw_S → Int32 → Int32 → Option fw_S} (C : CX (WM ca a) D (tyv ca) p s m args c A prog_13_method_90_code 4 RX11) (hr : True → RX (WM ca a) D p l e rm_M_X11_moves____0_42 s m args below meth c A prog_13_method_90_code Q .return_ [] u) (hk2 : ∀ (t : fw_S) (x2 : Int32) (x3 : Int32) (H : Heap) (locs : List Loc) (ls : Array Slot), k2 t x2 x3 = some u → va_P D classes (WM ca a t) H → va_S A s.heap H locs → lv_has ls 4 [(0, .ref (a 0)), (1, .ref (a 42)), (2, .int x2), (3, .int x3)] → W p l e rm_M_X11_moves____0_42 s m args below meth c H locs 0 0 Q (F0 m 2 ls [])) {t : fw_S} {x2 : Int32} {x3 : Int32} {H : Heap} {locs : List Loc} {ls : Array Slot} (hf : b_M_X11_moves____0_42_12 k2 t x2 x3 = some u) (hP : va_P D classes (WM ca a t) H) (hS : va_S A s.heap H locs) (hl : lv_has ls 4 [(0, .ref (a 0)), (1, .ref (a 42)), (2, .int x2), (3, .int x3)]) : W p l e rm_M_X11_moves____0_42 s m args below meth c H locs 0 0 Q (F0 m 12 ls []) := by
  obtain ⟨hx, hb, hml, hown, hts, hN, hK, hD, hA⟩ := id C
  have hf : (fb_g (¬ (x3 < 0 ∨ 8 ≤ x3.toNatClampNeg)) (fb_g (¬ ((st_I t 20) < 0 ∨ 200 ≤ (st_I t 20).toNatClampNeg)) (fb_l (up_G t 8 (vp_updL (st_G t 8) (st_I t 20).toNatClampNeg (st_G t 4 x3.toNatClampNeg))) fun t_1 => (b_M_X11_moves____0_42_39 k2 t_1 x2 x3)))) = some u := hf
  refine lv_aload_n hx hb dX11_moves___12 rfl (lv_at hl 0 rfl) ?_
  refine va_get (D := D) (ci := 11) (v := .ref (a 49)) (C := RX11) (T := TX11) (N := 76) hx hb hts inX11 hown hK hP 0 (heM_0 ca a t) rfl 67 (by decide) (hts _ kw_1259) (fun _ h9 => h9) rfl dX11_moves___13 ?_
  refine lv_aload_n hx hb dX11_moves___16 rfl (lv_at hl 0 rfl) ?_
  refine va_get (D := D) (ci := 11) (v := .int (st_I t 20)) (C := RX11) (T := TX11) (N := 76) hx hb hts inX11 hown hK hP 0 (heM_0 ca a t) rfl 69 (by decide) (hts _ kw_1261) (fun _ h9 => h9) rfl dX11_moves___17 ?_
  refine lv_aload_n hx hb dX11_moves___20 rfl (lv_at hl 1 rfl) ?_
  refine lv_iload_n hx hb dX11_moves___21 rfl (lv_at hl 3 rfl) ?_
  obtain ⟨h_22, hf⟩ := fb_if hf
  refine va_lald hx hb hK hP 42 1 (haM_42 ca a t) rfl h_22 dX11_moves___22 ?_
  obtain ⟨h_23, hf⟩ := fb_if hf
  refine va_last hx hb hK hP (hD t) hS 49 1 (haM_49 ca a t) rfl h_23 dX11_moves___23 (fun H locs hP _ hS => ?_)
  rw [saM_49] at hP
  obtain ⟨t_1, e_23, hf⟩ := fb_ls hf
  rw [← e_23] at hP
  refine lv_goto (tgt := 39) hx hb dX11_moves___24 (by decide) ?_
  exact w_M_X11_moves____0_42_39 C hr hk2 hf hP hS (lv_sub hl [0, 1, 2, 3] rfl)
set_option maxRecDepth 20000 in
theorem w_M_X11_moves____0_42_8 {p : Program} {l : Launch} {e : Env} {s : State} {m : MethodId} {args : Array Value} {below : List Frame} {meth : Method} {c : Code} {A : Nat → Prop} {Q : State → Prop} {D : va_G} {ca : Nat → ClassId} {a : Nat → Nat} {u : fw_S} {k2 : fw_S → Int32 → Int32 → Option fw_S} (C : CX (WM ca a) D (tyv ca) p s m args c A prog_13_method_90_code 4 RX11) (hr : True → RX (WM ca a) D p l e rm_M_X11_moves____0_42 s m args below meth c A prog_13_method_90_code Q .return_ [] u) (hk2 : ∀ (t : fw_S) (x2 : Int32) (x3 : Int32) (H : Heap) (locs : List Loc) (ls : Array Slot), k2 t x2 x3 = some u → va_P D classes (WM ca a t) H → va_S A s.heap H locs → lv_has ls 4 [(0, .ref (a 0)), (1, .ref (a 42)), (2, .int x2), (3, .int x3)] → W p l e rm_M_X11_moves____0_42 s m args below meth c H locs 0 0 Q (F0 m 2 ls [])) {t : fw_S} {x2 : Int32} {x3 : Int32} {H : Heap} {locs : List Loc} {ls : Array Slot} (hf : b_M_X11_moves____0_42_8 k2 t x2 x3 = some u) (hP : va_P D classes (WM ca a t) H) (hS : va_S A s.heap H locs) (hl : lv_has ls 4 [(0, .ref (a 0)), (1, .ref (a 42)), (2, .int x2), (3, .int x3)]) : W p l e rm_M_X11_moves____0_42 s m args below meth c H locs 0 0 Q (F0 m 8 ls []) := by
  obtain ⟨hx, hb, hml, hown, hts, hN, hK, hD, hA⟩ := id C
  have hf : (if x2 = 0 then b_M_X11_moves____0_42_27 k2 t x2 x3 else b_M_X11_moves____0_42_12 k2 t x2 x3) = some u := hf
  refine lv_iload_n hx hb dX11_moves___8 rfl (lv_at hl 2 rfl) ?_
  refine lv_if_eq (tgt := 27) hx hb dX11_moves___9 (by decide) (fun h_9 => ?_) (fun h_9 => ?_)
  · have hf := fb_t h_9 hf
    exact w_M_X11_moves____0_42_27 C hr hk2 hf hP hS (lv_sub hl [0, 1, 2, 3] rfl)
  · have hf := fb_f h_9 hf
    exact w_M_X11_moves____0_42_12 C hr hk2 hf hP hS (lv_sub hl [0, 1, 2, 3] rfl)
set_option maxRecDepth 20000 in
theorem w_M_X11_moves____0_42_2 {p : Program} {l : Launch} {e : Env} {s : State} {m : MethodId} {args : Array Value} {below : List Frame} {meth : Method} {c : Code} {A : Nat → Prop} {Q : State → Prop} {D : va_G} {ca : Nat → ClassId} {a : Nat → Nat} {u : fw_S}  (C : CX (WM ca a) D (tyv ca) p s m args c A prog_13_method_90_code 4 RX11) (hr : True → RX (WM ca a) D p l e rm_M_X11_moves____0_42 s m args below meth c A prog_13_method_90_code Q .return_ [] u) : ∀ (n : Nat) (t : fw_S) (x2 : Int32) (x3 : Int32) (H : Heap) (locs : List Loc) (ls : Array Slot), b_M_X11_moves____0_42_2  n t x2 x3 = some u → va_P D classes (WM ca a t) H → va_S A s.heap H locs → lv_has ls 4 [(0, .ref (a 0)), (1, .ref (a 42)), (2, .int x2), (3, .int x3)] → W p l e rm_M_X11_moves____0_42 s m args below meth c H locs 0 0 Q (F0 m 2 ls []) := by
  obtain ⟨hx, hb, hml, hown, hts, hN, hK, hD, hA⟩ := id C
  intro n
  induction n with
  | zero => intro t x2 x3 H locs ls hf; cases hf
  | succ n hk2 =>
    intro t x2 x3 H locs ls hf hP hS hl
    have hf : (if ((8 : Int32)) ≤ x3 then b_M_X11_moves____0_42_55 t else b_M_X11_moves____0_42_8 (b_M_X11_moves____0_42_2 n) t x2 x3) = some u := hf
    refine lv_iload_n hx hb dX11_moves___2 rfl (lv_at hl 3 rfl) ?_
    refine lv_aload_n hx hb dX11_moves___3 rfl (lv_at hl 1 rfl) ?_
    refine va_alen (v := 8) hx hb hK hP 42 1 (haM_42 ca a t) rfl rfl dX11_moves___4 ?_
    refine lv_icmp_ge (tgt := 55) hx hb dX11_moves___5 (by decide) (fun h_5 => ?_) (fun h_5 => ?_)
    · have hf := fb_t h_5 hf
      exact w_M_X11_moves____0_42_55 C hr hf hP hS (lv_sub hl [] rfl)
    · have hf := fb_f h_5 hf
      exact w_M_X11_moves____0_42_8 C hr hk2 hf hP hS (lv_sub hl [0, 1, 2, 3] rfl)
set_option maxRecDepth 20000 in
theorem w_M_X11_moves____0_42_0 {p : Program} {l : Launch} {e : Env} {s : State} {m : MethodId} {args : Array Value} {below : List Frame} {meth : Method} {c : Code} {A : Nat → Prop} {Q : State → Prop} {D : va_G} {ca : Nat → ClassId} {a : Nat → Nat} {u : fw_S}  (C : CX (WM ca a) D (tyv ca) p s m args c A prog_13_method_90_code 4 RX11) (hr : True → RX (WM ca a) D p l e rm_M_X11_moves____0_42 s m args below meth c A prog_13_method_90_code Q .return_ [] u) {t : fw_S} {x2 : Int32} {H : Heap} {locs : List Loc} {ls : Array Slot} (hf : b_M_X11_moves____0_42_0  t x2 = some u) (hP : va_P D classes (WM ca a t) H) (hS : va_S A s.heap H locs) (hl : lv_has ls 4 [(0, .ref (a 0)), (1, .ref (a 42)), (2, .int x2)]) : W p l e rm_M_X11_moves____0_42 s m args below meth c H locs 0 0 Q (F0 m 0 ls []) := by
  obtain ⟨hx, hb, hml, hown, hts, hN, hK, hD, hA⟩ := id C
  have hf : (b_M_X11_moves____0_42_2 3000 t x2 ((0 : Int32))) = some u := hf
  refine lv_iconst (v := 0) hx hb dX11_moves___0 (by decide) ?_
  refine lv_istore_n (lv' := [(3, .int ((0 : Int32))), (0, .ref (a 0)), (1, .ref (a 42)), (2, .int x2)]) hx hb dX11_moves___1 rfl hl (by decide) rfl (fun ls hl => ?_)
  exact w_M_X11_moves____0_42_2 C hr 3000 t x2 ((0 : Int32)) _ _ _ hf hP hS (lv_sub hl [1, 2, 3, 0] rfl)
set_option maxRecDepth 20000 in
theorem c_M_X11_moves____0_42 {l : Launch} {D : va_G} {ca : Nat → ClassId} {a : Nat → Nat} {t : fw_S} {x2 : Int32} {u : fw_S} (hf : f_M_X11_moves____0_42 t x2 = some u) : MC (WM ca a) D (tyv ca) l yX11_moves__ (.code yX11_moves__ prog_13_method_90_code 4 none :: lw_gd) rm_M_X11_moves____0_42 [.ref (a 0), .ref (a 42), .int x2] none t u := by
  refine fw_met (okM ca a) (by decide +kernel) rfl rfl (Nat.le_of_ble_eq_true rfl) ?_
  intro p e s m args below meth c A Q ls C hr hk hP hS hl hQ
  exact w_M_X11_moves____0_42_0 C (fun _ => fw_rv C hr hk hQ) hf hP hS (lv_sub hl [0, 1, 2] rfl)
/-! ReactiveSheetModel.moves([JZ)V ['m', 'm.logWasValue'] -/
abbrev rm_M_X11_moves____0_43 : Room := { frames := 0, cells := 0, slots := 0, locals := 0 }
def b_M_X11_moves____0_43_55  (t : fw_S)  : Option fw_S := some t
def b_M_X11_moves____0_43_39 (k2 : fw_S → Int32 → Int32 → Option fw_S) (t : fw_S) (x2 : Int32) (x3 : Int32) : Option fw_S := fb_l (up_I t 20 ((st_I t 20) + ((1 : Int32)))) fun t_1 => (k2 t_1 x2 (x3 + 1))
def b_M_X11_moves____0_43_27 (k2 : fw_S → Int32 → Int32 → Option fw_S) (t : fw_S) (x2 : Int32) (x3 : Int32) : Option fw_S := fb_g (¬ ((st_I t 20) < 0 ∨ 200 ≤ (st_I t 20).toNatClampNeg)) (fb_g (¬ (x3 < 0 ∨ 60 ≤ x3.toNatClampNeg)) (fb_l (up_G t 5 (vp_updL (st_G t 5) x3.toNatClampNeg (st_G t 8 (st_I t 20).toNatClampNeg))) fun t_1 => (b_M_X11_moves____0_43_39 k2 t_1 x2 x3)))
def b_M_X11_moves____0_43_12 (k2 : fw_S → Int32 → Int32 → Option fw_S) (t : fw_S) (x2 : Int32) (x3 : Int32) : Option fw_S := fb_g (¬ (x3 < 0 ∨ 60 ≤ x3.toNatClampNeg)) (fb_g (¬ ((st_I t 20) < 0 ∨ 200 ≤ (st_I t 20).toNatClampNeg)) (fb_l (up_G t 8 (vp_updL (st_G t 8) (st_I t 20).toNatClampNeg (st_G t 5 x3.toNatClampNeg))) fun t_1 => (b_M_X11_moves____0_43_39 k2 t_1 x2 x3)))
def b_M_X11_moves____0_43_8 (k2 : fw_S → Int32 → Int32 → Option fw_S) (t : fw_S) (x2 : Int32) (x3 : Int32) : Option fw_S := if x2 = 0 then b_M_X11_moves____0_43_27 k2 t x2 x3 else b_M_X11_moves____0_43_12 k2 t x2 x3
def b_M_X11_moves____0_43_2  : Nat → (fw_S → Int32 → Int32 → Option fw_S)
  | 0 => fun _ _ _ => none
  | n + 1 => fun t x2 x3 => if ((60 : Int32)) ≤ x3 then b_M_X11_moves____0_43_55 t else b_M_X11_moves____0_43_8 (b_M_X11_moves____0_43_2 n) t x2 x3
def b_M_X11_moves____0_43_0  (t : fw_S) (x2 : Int32) : Option fw_S := b_M_X11_moves____0_43_2 3000 t x2 ((0 : Int32))
def f_M_X11_moves____0_43 (t : fw_S) (x2 : Int32) : Option fw_S := b_M_X11_moves____0_43_0 t x2
set_option maxRecDepth 20000 in
theorem w_M_X11_moves____0_43_55 {p : Program} {l : Launch} {e : Env} {s : State} {m : MethodId} {args : Array Value} {below : List Frame} {meth : Method} {c : Code} {A : Nat → Prop} {Q : State → Prop} {D : va_G} {ca : Nat → ClassId} {a : Nat → Nat} {u : fw_S}  (C : CX (WM ca a) D (tyv ca) p s m args c A prog_13_method_90_code 4 RX11) (hr : True → RX (WM ca a) D p l e rm_M_X11_moves____0_43 s m args below meth c A prog_13_method_90_code Q .return_ [] u) {t : fw_S}  {H : Heap} {locs : List Loc} {ls : Array Slot} (hf : b_M_X11_moves____0_43_55  t  = some u) (hP : va_P D classes (WM ca a t) H) (hS : va_S A s.heap H locs) (hl : lv_has ls 4 []) : W p l e rm_M_X11_moves____0_43 s m args below meth c H locs 0 0 Q (F0 m 55 ls []) := by
  obtain ⟨hx, hb, hml, hown, hts, hN, hK, hD, hA⟩ := id C
  have hf : (some t) = some u := hf
  have e_55 := fb_ev hf
  subst e_55
  exact hr trivial _ _ _ _ hP hS dX11_moves___55
set_option maxRecDepth 20000 in
theorem w_M_X11_moves____0_43_39 {p : Program} {l : Launch} {e : Env} {s : State} {m : MethodId} {args : Array Value} {below : List Frame} {meth : Method} {c : Code} {A : Nat → Prop} {Q : State → Prop} {D : va_G} {ca : Nat → ClassId} {a : Nat → Nat} {u : fw_S} {k2 : fw_S → Int32 → Int32 → Option fw_S} (C : CX (WM ca a) D (tyv ca) p s m args c A prog_13_method_90_code 4 RX11) (hr : True → RX (WM ca a) D p l e rm_M_X11_moves____0_43 s m args below meth c A prog_13_method_90_code Q .return_ [] u) (hk2 : ∀ (t : fw_S) (x2 : Int32) (x3 : Int32) (H : Heap) (locs : List Loc) (ls : Array Slot), k2 t x2 x3 = some u → va_P D classes (WM ca a t) H → va_S A s.heap H locs → lv_has ls 4 [(0, .ref (a 0)), (1, .ref (a 43)), (2, .int x2), (3, .int x3)] → W p l e rm_M_X11_moves____0_43 s m args below meth c H locs 0 0 Q (F0 m 2 ls [])) {t : fw_S} {x2 : Int32} {x3 : Int32} {H : Heap} {locs : List Loc} {ls : Array Slot} (hf : b_M_X11_moves____0_43_39 k2 t x2 x3 = some u) (hP : va_P D classes (WM ca a t) H) (hS : va_S A s.heap H locs) (hl : lv_has ls 4 [(0, .ref (a 0)), (1, .ref (a 43)), (2, .int x2), (3, .int x3)]) : W p l e rm_M_X11_moves____0_43 s m args below meth c H locs 0 0 Q (F0 m 39 ls []) := by
  obtain ⟨hx, hb, hml, hown, hts, hN, hK, hD, hA⟩ := id C
  have hf : (fb_l (up_I t 20 ((st_I t 20) + ((1 : Int32)))) fun t_1 => (k2 t_1 x2 (x3 + 1))) = some u := hf
  refine lv_aload_n hx hb dX11_moves___39 rfl (lv_at hl 0 rfl) ?_
  refine lv_dup hx hb dX11_moves___40 rfl ?_
  refine va_get (D := D) (ci := 11) (v := .int (st_I t 20)) (C := RX11) (T := TX11) (N := 76) hx hb hts inX11 hown hK hP 0 (heM_0 ca a t) rfl 69 (by decide) (hts _ kw_1261) (fun _ h9 => h9) rfl dX11_moves___41 ?_
  refine lv_iconst (v := 1) hx hb dX11_moves___44 (by decide) ?_
  refine lv_iadd hx hb dX11_moves___45 ?_
  refine va_put (D := D) (ci := 11) (v := .int ((st_I t 20) + ((1 : Int32)))) (ty := .int) (C := RX11) (T := TX11) (N := 76) hx hb hts inX11 tyX11 tyX11_ok nmX11 hown hK hP (hD t) hS 0 (heM_0 ca a t) rfl 69 (by decide) (hts _ kw_1261) (fun _ h9 => h9) rfl (by decide +kernel) rfl rfl (Nat.le_of_ble_eq_true rfl) dX11_moves___46 (fun H locs hP _ hS => ?_)
  rw [suM_0_69] at hP
  obtain ⟨t_1, e_46, hf⟩ := fb_ls hf
  rw [← e_46] at hP
  refine lv_iinc (v := x3 + 1) (lv' := [(3, .int (x3 + 1)), (0, .ref (a 0)), (1, .ref (a 43)), (2, .int x2)]) hx hb dX11_moves___49 hl (k := 3) rfl rfl (by decide) rfl (fun ls hl => ?_)
  refine lv_goto (tgt := 2) hx hb dX11_moves___52 (by decide) ?_
  exact hk2 t_1 x2 (x3 + 1) _ _ _ hf hP hS (lv_sub hl [1, 2, 3, 0] rfl)
set_option maxRecDepth 20000 in
theorem w_M_X11_moves____0_43_27 {p : Program} {l : Launch} {e : Env} {s : State} {m : MethodId} {args : Array Value} {below : List Frame} {meth : Method} {c : Code} {A : Nat → Prop} {Q : State → Prop} {D : va_G} {ca : Nat → ClassId} {a : Nat → Nat} {u : fw_S} {k2 : fw_S → Int32 → Int32 → Option fw_S} (C : CX (WM ca a) D (tyv ca) p s m args c A prog_13_method_90_code 4 RX11) (hr : True → RX (WM ca a) D p l e rm_M_X11_moves____0_43 s m args below meth c A prog_13_method_90_code Q .return_ [] u) (hk2 : ∀ (t : fw_S) (x2 : Int32) (x3 : Int32) (H : Heap) (locs : List Loc) (ls : Array Slot), k2 t x2 x3 = some u → va_P D classes (WM ca a t) H → va_S A s.heap H locs → lv_has ls 4 [(0, .ref (a 0)), (1, .ref (a 43)), (2, .int x2), (3, .int x3)] → W p l e rm_M_X11_moves____0_43 s m args below meth c H locs 0 0 Q (F0 m 2 ls [])) {t : fw_S} {x2 : Int32} {x3 : Int32} {H : Heap} {locs : List Loc} {ls : Array Slot} (hf : b_M_X11_moves____0_43_27 k2 t x2 x3 = some u) (hP : va_P D classes (WM ca a t) H) (hS : va_S A s.heap H locs) (hl : lv_has ls 4 [(0, .ref (a 0)), (1, .ref (a 43)), (2, .int x2), (3, .int x3)]) : W p l e rm_M_X11_moves____0_43 s m args below meth c H locs 0 0 Q (F0 m 27 ls []) := by
  obtain ⟨hx, hb, hml, hown, hts, hN, hK, hD, hA⟩ := id C
  have hf : (fb_g (¬ ((st_I t 20) < 0 ∨ 200 ≤ (st_I t 20).toNatClampNeg)) (fb_g (¬ (x3 < 0 ∨ 60 ≤ x3.toNatClampNeg)) (fb_l (up_G t 5 (vp_updL (st_G t 5) x3.toNatClampNeg (st_G t 8 (st_I t 20).toNatClampNeg))) fun t_1 => (b_M_X11_moves____0_43_39 k2 t_1 x2 x3)))) = some u := hf
  refine lv_aload_n hx hb dX11_moves___27 rfl (lv_at hl 1 rfl) ?_
  refine lv_iload_n hx hb dX11_moves___28 rfl (lv_at hl 3 rfl) ?_
  refine lv_aload_n hx hb dX11_moves___29 rfl (lv_at hl 0 rfl) ?_
  refine va_get (D := D) (ci := 11) (v := .ref (a 49)) (C := RX11) (T := TX11) (N := 76) hx hb hts inX11 hown hK hP 0 (heM_0 ca a t) rfl 67 (by decide) (hts _ kw_1259) (fun _ h9 => h9) rfl dX11_moves___30 ?_
  refine lv_aload_n hx hb dX11_moves___33 rfl (lv_at hl 0 rfl) ?_
  refine va_get (D := D) (ci := 11) (v := .int (st_I t 20)) (C := RX11) (T := TX11) (N := 76) hx hb hts inX11 hown hK hP 0 (heM_0 ca a t) rfl 69 (by decide) (hts _ kw_1261) (fun _ h9 => h9) rfl dX11_moves___34 ?_
  obtain ⟨h_37, hf⟩ := fb_if hf
  refine va_lald hx hb hK hP 49 1 (haM_49 ca a t) rfl h_37 dX11_moves___37 ?_
  obtain ⟨h_38, hf⟩ := fb_if hf
  refine va_last hx hb hK hP (hD t) hS 43 1 (haM_43 ca a t) rfl h_38 dX11_moves___38 (fun H locs hP _ hS => ?_)
  rw [saM_43] at hP
  obtain ⟨t_1, e_38, hf⟩ := fb_ls hf
  rw [← e_38] at hP
  exact w_M_X11_moves____0_43_39 C hr hk2 hf hP hS (lv_sub hl [0, 1, 2, 3] rfl)
set_option maxRecDepth 20000 in
theorem w_M_X11_moves____0_43_12 {p : Program} {l : Launch} {e : Env} {s : State} {m : MethodId} {args : Array Value} {below : List Frame} {meth : Method} {c : Code} {A : Nat → Prop} {Q : State → Prop} {D : va_G} {ca : Nat → ClassId} {a : Nat → Nat} {u : fw_S} {k2 : fw_S → Int32 → Int32 → Option fw_S} (C : CX (WM ca a) D (tyv ca) p s m args c A prog_13_method_90_code 4 RX11) (hr : True → RX (WM ca a) D p l e rm_M_X11_moves____0_43 s m args below meth c A prog_13_method_90_code Q .return_ [] u) (hk2 : ∀ (t : fw_S) (x2 : Int32) (x3 : Int32) (H : Heap) (locs : List Loc) (ls : Array Slot), k2 t x2 x3 = some u → va_P D classes (WM ca a t) H → va_S A s.heap H locs → lv_has ls 4 [(0, .ref (a 0)), (1, .ref (a 43)), (2, .int x2), (3, .int x3)] → W p l e rm_M_X11_moves____0_43 s m args below meth c H locs 0 0 Q (F0 m 2 ls [])) {t : fw_S} {x2 : Int32} {x3 : Int32} {H : Heap} {locs : List Loc} {ls : Array Slot} (hf : b_M_X11_moves____0_43_12 k2 t x2 x3 = some u) (hP : va_P D classes (WM ca a t) H) (hS : va_S A s.heap H locs) (hl : lv_has ls 4 [(0, .ref (a 0)), (1, .ref (a 43)), (2, .int x2), (3, .int x3)]) : W p l e rm_M_X11_moves____0_43 s m args below meth c H locs 0 0 Q (F0 m 12 ls []) := by
  obtain ⟨hx, hb, hml, hown, hts, hN, hK, hD, hA⟩ := id C
  have hf : (fb_g (¬ (x3 < 0 ∨ 60 ≤ x3.toNatClampNeg)) (fb_g (¬ ((st_I t 20) < 0 ∨ 200 ≤ (st_I t 20).toNatClampNeg)) (fb_l (up_G t 8 (vp_updL (st_G t 8) (st_I t 20).toNatClampNeg (st_G t 5 x3.toNatClampNeg))) fun t_1 => (b_M_X11_moves____0_43_39 k2 t_1 x2 x3)))) = some u := hf
  refine lv_aload_n hx hb dX11_moves___12 rfl (lv_at hl 0 rfl) ?_
  refine va_get (D := D) (ci := 11) (v := .ref (a 49)) (C := RX11) (T := TX11) (N := 76) hx hb hts inX11 hown hK hP 0 (heM_0 ca a t) rfl 67 (by decide) (hts _ kw_1259) (fun _ h9 => h9) rfl dX11_moves___13 ?_
  refine lv_aload_n hx hb dX11_moves___16 rfl (lv_at hl 0 rfl) ?_
  refine va_get (D := D) (ci := 11) (v := .int (st_I t 20)) (C := RX11) (T := TX11) (N := 76) hx hb hts inX11 hown hK hP 0 (heM_0 ca a t) rfl 69 (by decide) (hts _ kw_1261) (fun _ h9 => h9) rfl dX11_moves___17 ?_
  refine lv_aload_n hx hb dX11_moves___20 rfl (lv_at hl 1 rfl) ?_
  refine lv_iload_n hx hb dX11_moves___21 rfl (lv_at hl 3 rfl) ?_
  obtain ⟨h_22, hf⟩ := fb_if hf
  refine va_lald hx hb hK hP 43 1 (haM_43 ca a t) rfl h_22 dX11_moves___22 ?_
  obtain ⟨h_23, hf⟩ := fb_if hf
  refine va_last hx hb hK hP (hD t) hS 49 1 (haM_49 ca a t) rfl h_23 dX11_moves___23 (fun H locs hP _ hS => ?_)
  rw [saM_49] at hP
  obtain ⟨t_1, e_23, hf⟩ := fb_ls hf
  rw [← e_23] at hP
  refine lv_goto (tgt := 39) hx hb dX11_moves___24 (by decide) ?_
  exact w_M_X11_moves____0_43_39 C hr hk2 hf hP hS (lv_sub hl [0, 1, 2, 3] rfl)
set_option maxRecDepth 20000 in
theorem w_M_X11_moves____0_43_8 {p : Program} {l : Launch} {e : Env} {s : State} {m : MethodId} {args : Array Value} {below : List Frame} {meth : Method} {c : Code} {A : Nat → Prop} {Q : State → Prop} {D : va_G} {ca : Nat → ClassId} {a : Nat → Nat} {u : fw_S} {k2 : fw_S → Int32 → Int32 → Option fw_S} (C : CX (WM ca a) D (tyv ca) p s m args c A prog_13_method_90_code 4 RX11) (hr : True → RX (WM ca a) D p l e rm_M_X11_moves____0_43 s m args below meth c A prog_13_method_90_code Q .return_ [] u) (hk2 : ∀ (t : fw_S) (x2 : Int32) (x3 : Int32) (H : Heap) (locs : List Loc) (ls : Array Slot), k2 t x2 x3 = some u → va_P D classes (WM ca a t) H → va_S A s.heap H locs → lv_has ls 4 [(0, .ref (a 0)), (1, .ref (a 43)), (2, .int x2), (3, .int x3)] → W p l e rm_M_X11_moves____0_43 s m args below meth c H locs 0 0 Q (F0 m 2 ls [])) {t : fw_S} {x2 : Int32} {x3 : Int32} {H : Heap} {locs : List Loc} {ls : Array Slot} (hf : b_M_X11_moves____0_43_8 k2 t x2 x3 = some u) (hP : va_P D classes (WM ca a t) H) (hS : va_S A s.heap H locs) (hl : lv_has ls 4 [(0, .ref (a 0)), (1, .ref (a 43)), (2, .int x2), (3, .int x3)]) : W p l e rm_M_X11_moves____0_43 s m args below meth c H locs 0 0 Q (F0 m 8 ls []) := by
  obtain ⟨hx, hb, hml, hown, hts, hN, hK, hD, hA⟩ := id C
  have hf : (if x2 = 0 then b_M_X11_moves____0_43_27 k2 t x2 x3 else b_M_X11_moves____0_43_12 k2 t x2 x3) = some u := hf
  refine lv_iload_n hx hb dX11_moves___8 rfl (lv_at hl 2 rfl) ?_
  refine lv_if_eq (tgt := 27) hx hb dX11_moves___9 (by decide) (fun h_9 => ?_) (fun h_9 => ?_)
  · have hf := fb_t h_9 hf
    exact w_M_X11_moves____0_43_27 C hr hk2 hf hP hS (lv_sub hl [0, 1, 2, 3] rfl)
  · have hf := fb_f h_9 hf
    exact w_M_X11_moves____0_43_12 C hr hk2 hf hP hS (lv_sub hl [0, 1, 2, 3] rfl)
set_option maxRecDepth 20000 in
theorem w_M_X11_moves____0_43_2 {p : Program} {l : Launch} {e : Env} {s : State} {m : MethodId} {args : Array Value} {below : List Frame} {meth : Method} {c : Code} {A : Nat → Prop} {Q : State → Prop} {D : va_G} {ca : Nat → ClassId} {a : Nat → Nat} {u : fw_S}  (C : CX (WM ca a) D (tyv ca) p s m args c A prog_13_method_90_code 4 RX11) (hr : True → RX (WM ca a) D p l e rm_M_X11_moves____0_43 s m args below meth c A prog_13_method_90_code Q .return_ [] u) : ∀ (n : Nat) (t : fw_S) (x2 : Int32) (x3 : Int32) (H : Heap) (locs : List Loc) (ls : Array Slot), b_M_X11_moves____0_43_2  n t x2 x3 = some u → va_P D classes (WM ca a t) H → va_S A s.heap H locs → lv_has ls 4 [(0, .ref (a 0)), (1, .ref (a 43)), (2, .int x2), (3, .int x3)] → W p l e rm_M_X11_moves____0_43 s m args below meth c H locs 0 0 Q (F0 m 2 ls []) := by
  obtain ⟨hx, hb, hml, hown, hts, hN, hK, hD, hA⟩ := id C
  intro n
  induction n with
  | zero => intro t x2 x3 H locs ls hf; cases hf
  | succ n hk2 =>
    intro t x2 x3 H locs ls hf hP hS hl
    have hf : (if ((60 : Int32)) ≤ x3 then b_M_X11_moves____0_43_55 t else b_M_X11_moves____0_43_8 (b_M_X11_moves____0_43_2 n) t x2 x3) = some u := hf
    refine lv_iload_n hx hb dX11_moves___2 rfl (lv_at hl 3 rfl) ?_
    refine lv_aload_n hx hb dX11_moves___3 rfl (lv_at hl 1 rfl) ?_
    refine va_alen (v := 60) hx hb hK hP 43 1 (haM_43 ca a t) rfl rfl dX11_moves___4 ?_
    refine lv_icmp_ge (tgt := 55) hx hb dX11_moves___5 (by decide) (fun h_5 => ?_) (fun h_5 => ?_)
    · have hf := fb_t h_5 hf
      exact w_M_X11_moves____0_43_55 C hr hf hP hS (lv_sub hl [] rfl)
    · have hf := fb_f h_5 hf
      exact w_M_X11_moves____0_43_8 C hr hk2 hf hP hS (lv_sub hl [0, 1, 2, 3] rfl)
set_option maxRecDepth 20000 in
theorem w_M_X11_moves____0_43_0 {p : Program} {l : Launch} {e : Env} {s : State} {m : MethodId} {args : Array Value} {below : List Frame} {meth : Method} {c : Code} {A : Nat → Prop} {Q : State → Prop} {D : va_G} {ca : Nat → ClassId} {a : Nat → Nat} {u : fw_S}  (C : CX (WM ca a) D (tyv ca) p s m args c A prog_13_method_90_code 4 RX11) (hr : True → RX (WM ca a) D p l e rm_M_X11_moves____0_43 s m args below meth c A prog_13_method_90_code Q .return_ [] u) {t : fw_S} {x2 : Int32} {H : Heap} {locs : List Loc} {ls : Array Slot} (hf : b_M_X11_moves____0_43_0  t x2 = some u) (hP : va_P D classes (WM ca a t) H) (hS : va_S A s.heap H locs) (hl : lv_has ls 4 [(0, .ref (a 0)), (1, .ref (a 43)), (2, .int x2)]) : W p l e rm_M_X11_moves____0_43 s m args below meth c H locs 0 0 Q (F0 m 0 ls []) := by
  obtain ⟨hx, hb, hml, hown, hts, hN, hK, hD, hA⟩ := id C
  have hf : (b_M_X11_moves____0_43_2 3000 t x2 ((0 : Int32))) = some u := hf
  refine lv_iconst (v := 0) hx hb dX11_moves___0 (by decide) ?_
  refine lv_istore_n (lv' := [(3, .int ((0 : Int32))), (0, .ref (a 0)), (1, .ref (a 43)), (2, .int x2)]) hx hb dX11_moves___1 rfl hl (by decide) rfl (fun ls hl => ?_)
  exact w_M_X11_moves____0_43_2 C hr 3000 t x2 ((0 : Int32)) _ _ _ hf hP hS (lv_sub hl [1, 2, 3, 0] rfl)
set_option maxRecDepth 20000 in
theorem c_M_X11_moves____0_43 {l : Launch} {D : va_G} {ca : Nat → ClassId} {a : Nat → Nat} {t : fw_S} {x2 : Int32} {u : fw_S} (hf : f_M_X11_moves____0_43 t x2 = some u) : MC (WM ca a) D (tyv ca) l yX11_moves__ (.code yX11_moves__ prog_13_method_90_code 4 none :: lw_gd) rm_M_X11_moves____0_43 [.ref (a 0), .ref (a 43), .int x2] none t u := by
  refine fw_met (okM ca a) (by decide +kernel) rfl rfl (Nat.le_of_ble_eq_true rfl) ?_
  intro p e s m args below meth c A Q ls C hr hk hP hS hl hQ
  exact w_M_X11_moves____0_43_0 C (fun _ => fw_rv C hr hk hQ) hf hP hS (lv_sub hl [0, 1, 2] rfl)
/-! ReactiveSheetModel.moves([JZ)V ['m', 'm.logIsValue'] -/
abbrev rm_M_X11_moves____0_44 : Room := { frames := 0, cells := 0, slots := 0, locals := 0 }
def b_M_X11_moves____0_44_55  (t : fw_S)  : Option fw_S := some t
def b_M_X11_moves____0_44_39 (k2 : fw_S → Int32 → Int32 → Option fw_S) (t : fw_S) (x2 : Int32) (x3 : Int32) : Option fw_S := fb_l (up_I t 20 ((st_I t 20) + ((1 : Int32)))) fun t_1 => (k2 t_1 x2 (x3 + 1))
def b_M_X11_moves____0_44_27 (k2 : fw_S → Int32 → Int32 → Option fw_S) (t : fw_S) (x2 : Int32) (x3 : Int32) : Option fw_S := fb_g (¬ ((st_I t 20) < 0 ∨ 200 ≤ (st_I t 20).toNatClampNeg)) (fb_g (¬ (x3 < 0 ∨ 60 ≤ x3.toNatClampNeg)) (fb_l (up_G t 6 (vp_updL (st_G t 6) x3.toNatClampNeg (st_G t 8 (st_I t 20).toNatClampNeg))) fun t_1 => (b_M_X11_moves____0_44_39 k2 t_1 x2 x3)))
def b_M_X11_moves____0_44_12 (k2 : fw_S → Int32 → Int32 → Option fw_S) (t : fw_S) (x2 : Int32) (x3 : Int32) : Option fw_S := fb_g (¬ (x3 < 0 ∨ 60 ≤ x3.toNatClampNeg)) (fb_g (¬ ((st_I t 20) < 0 ∨ 200 ≤ (st_I t 20).toNatClampNeg)) (fb_l (up_G t 8 (vp_updL (st_G t 8) (st_I t 20).toNatClampNeg (st_G t 6 x3.toNatClampNeg))) fun t_1 => (b_M_X11_moves____0_44_39 k2 t_1 x2 x3)))
def b_M_X11_moves____0_44_8 (k2 : fw_S → Int32 → Int32 → Option fw_S) (t : fw_S) (x2 : Int32) (x3 : Int32) : Option fw_S := if x2 = 0 then b_M_X11_moves____0_44_27 k2 t x2 x3 else b_M_X11_moves____0_44_12 k2 t x2 x3
def b_M_X11_moves____0_44_2  : Nat → (fw_S → Int32 → Int32 → Option fw_S)
  | 0 => fun _ _ _ => none
  | n + 1 => fun t x2 x3 => if ((60 : Int32)) ≤ x3 then b_M_X11_moves____0_44_55 t else b_M_X11_moves____0_44_8 (b_M_X11_moves____0_44_2 n) t x2 x3
def b_M_X11_moves____0_44_0  (t : fw_S) (x2 : Int32) : Option fw_S := b_M_X11_moves____0_44_2 3000 t x2 ((0 : Int32))
def f_M_X11_moves____0_44 (t : fw_S) (x2 : Int32) : Option fw_S := b_M_X11_moves____0_44_0 t x2
set_option maxRecDepth 20000 in
theorem w_M_X11_moves____0_44_55 {p : Program} {l : Launch} {e : Env} {s : State} {m : MethodId} {args : Array Value} {below : List Frame} {meth : Method} {c : Code} {A : Nat → Prop} {Q : State → Prop} {D : va_G} {ca : Nat → ClassId} {a : Nat → Nat} {u : fw_S}  (C : CX (WM ca a) D (tyv ca) p s m args c A prog_13_method_90_code 4 RX11) (hr : True → RX (WM ca a) D p l e rm_M_X11_moves____0_44 s m args below meth c A prog_13_method_90_code Q .return_ [] u) {t : fw_S}  {H : Heap} {locs : List Loc} {ls : Array Slot} (hf : b_M_X11_moves____0_44_55  t  = some u) (hP : va_P D classes (WM ca a t) H) (hS : va_S A s.heap H locs) (hl : lv_has ls 4 []) : W p l e rm_M_X11_moves____0_44 s m args below meth c H locs 0 0 Q (F0 m 55 ls []) := by
  obtain ⟨hx, hb, hml, hown, hts, hN, hK, hD, hA⟩ := id C
  have hf : (some t) = some u := hf
  have e_55 := fb_ev hf
  subst e_55
  exact hr trivial _ _ _ _ hP hS dX11_moves___55
set_option maxRecDepth 20000 in
theorem w_M_X11_moves____0_44_39 {p : Program} {l : Launch} {e : Env} {s : State} {m : MethodId} {args : Array Value} {below : List Frame} {meth : Method} {c : Code} {A : Nat → Prop} {Q : State → Prop} {D : va_G} {ca : Nat → ClassId} {a : Nat → Nat} {u : fw_S} {k2 : fw_S → Int32 → Int32 → Option fw_S} (C : CX (WM ca a) D (tyv ca) p s m args c A prog_13_method_90_code 4 RX11) (hr : True → RX (WM ca a) D p l e rm_M_X11_moves____0_44 s m args below meth c A prog_13_method_90_code Q .return_ [] u) (hk2 : ∀ (t : fw_S) (x2 : Int32) (x3 : Int32) (H : Heap) (locs : List Loc) (ls : Array Slot), k2 t x2 x3 = some u → va_P D classes (WM ca a t) H → va_S A s.heap H locs → lv_has ls 4 [(0, .ref (a 0)), (1, .ref (a 44)), (2, .int x2), (3, .int x3)] → W p l e rm_M_X11_moves____0_44 s m args below meth c H locs 0 0 Q (F0 m 2 ls [])) {t : fw_S} {x2 : Int32} {x3 : Int32} {H : Heap} {locs : List Loc} {ls : Array Slot} (hf : b_M_X11_moves____0_44_39 k2 t x2 x3 = some u) (hP : va_P D classes (WM ca a t) H) (hS : va_S A s.heap H locs) (hl : lv_has ls 4 [(0, .ref (a 0)), (1, .ref (a 44)), (2, .int x2), (3, .int x3)]) : W p l e rm_M_X11_moves____0_44 s m args below meth c H locs 0 0 Q (F0 m 39 ls []) := by
  obtain ⟨hx, hb, hml, hown, hts, hN, hK, hD, hA⟩ := id C
  have hf : (fb_l (up_I t 20 ((st_I t 20) + ((1 : Int32)))) fun t_1 => (k2 t_1 x2 (x3 + 1))) = some u := hf
  refine lv_aload_n hx hb dX11_moves___39 rfl (lv_at hl 0 rfl) ?_
  refine lv_dup hx hb dX11_moves___40 rfl ?_
  refine va_get (D := D) (ci := 11) (v := .int (st_I t 20)) (C := RX11) (T := TX11) (N := 76) hx hb hts inX11 hown hK hP 0 (heM_0 ca a t) rfl 69 (by decide) (hts _ kw_1261) (fun _ h9 => h9) rfl dX11_moves___41 ?_
  refine lv_iconst (v := 1) hx hb dX11_moves___44 (by decide) ?_
  refine lv_iadd hx hb dX11_moves___45 ?_
  refine va_put (D := D) (ci := 11) (v := .int ((st_I t 20) + ((1 : Int32)))) (ty := .int) (C := RX11) (T := TX11) (N := 76) hx hb hts inX11 tyX11 tyX11_ok nmX11 hown hK hP (hD t) hS 0 (heM_0 ca a t) rfl 69 (by decide) (hts _ kw_1261) (fun _ h9 => h9) rfl (by decide +kernel) rfl rfl (Nat.le_of_ble_eq_true rfl) dX11_moves___46 (fun H locs hP _ hS => ?_)
  rw [suM_0_69] at hP
  obtain ⟨t_1, e_46, hf⟩ := fb_ls hf
  rw [← e_46] at hP
  refine lv_iinc (v := x3 + 1) (lv' := [(3, .int (x3 + 1)), (0, .ref (a 0)), (1, .ref (a 44)), (2, .int x2)]) hx hb dX11_moves___49 hl (k := 3) rfl rfl (by decide) rfl (fun ls hl => ?_)
  refine lv_goto (tgt := 2) hx hb dX11_moves___52 (by decide) ?_
  exact hk2 t_1 x2 (x3 + 1) _ _ _ hf hP hS (lv_sub hl [1, 2, 3, 0] rfl)
set_option maxRecDepth 20000 in
theorem w_M_X11_moves____0_44_27 {p : Program} {l : Launch} {e : Env} {s : State} {m : MethodId} {args : Array Value} {below : List Frame} {meth : Method} {c : Code} {A : Nat → Prop} {Q : State → Prop} {D : va_G} {ca : Nat → ClassId} {a : Nat → Nat} {u : fw_S} {k2 : fw_S → Int32 → Int32 → Option fw_S} (C : CX (WM ca a) D (tyv ca) p s m args c A prog_13_method_90_code 4 RX11) (hr : True → RX (WM ca a) D p l e rm_M_X11_moves____0_44 s m args below meth c A prog_13_method_90_code Q .return_ [] u) (hk2 : ∀ (t : fw_S) (x2 : Int32) (x3 : Int32) (H : Heap) (locs : List Loc) (ls : Array Slot), k2 t x2 x3 = some u → va_P D classes (WM ca a t) H → va_S A s.heap H locs → lv_has ls 4 [(0, .ref (a 0)), (1, .ref (a 44)), (2, .int x2), (3, .int x3)] → W p l e rm_M_X11_moves____0_44 s m args below meth c H locs 0 0 Q (F0 m 2 ls [])) {t : fw_S} {x2 : Int32} {x3 : Int32} {H : Heap} {locs : List Loc} {ls : Array Slot} (hf : b_M_X11_moves____0_44_27 k2 t x2 x3 = some u) (hP : va_P D classes (WM ca a t) H) (hS : va_S A s.heap H locs) (hl : lv_has ls 4 [(0, .ref (a 0)), (1, .ref (a 44)), (2, .int x2), (3, .int x3)]) : W p l e rm_M_X11_moves____0_44 s m args below meth c H locs 0 0 Q (F0 m 27 ls []) := by
  obtain ⟨hx, hb, hml, hown, hts, hN, hK, hD, hA⟩ := id C
  have hf : (fb_g (¬ ((st_I t 20) < 0 ∨ 200 ≤ (st_I t 20).toNatClampNeg)) (fb_g (¬ (x3 < 0 ∨ 60 ≤ x3.toNatClampNeg)) (fb_l (up_G t 6 (vp_updL (st_G t 6) x3.toNatClampNeg (st_G t 8 (st_I t 20).toNatClampNeg))) fun t_1 => (b_M_X11_moves____0_44_39 k2 t_1 x2 x3)))) = some u := hf
  refine lv_aload_n hx hb dX11_moves___27 rfl (lv_at hl 1 rfl) ?_
  refine lv_iload_n hx hb dX11_moves___28 rfl (lv_at hl 3 rfl) ?_
  refine lv_aload_n hx hb dX11_moves___29 rfl (lv_at hl 0 rfl) ?_
  refine va_get (D := D) (ci := 11) (v := .ref (a 49)) (C := RX11) (T := TX11) (N := 76) hx hb hts inX11 hown hK hP 0 (heM_0 ca a t) rfl 67 (by decide) (hts _ kw_1259) (fun _ h9 => h9) rfl dX11_moves___30 ?_
  refine lv_aload_n hx hb dX11_moves___33 rfl (lv_at hl 0 rfl) ?_
  refine va_get (D := D) (ci := 11) (v := .int (st_I t 20)) (C := RX11) (T := TX11) (N := 76) hx hb hts inX11 hown hK hP 0 (heM_0 ca a t) rfl 69 (by decide) (hts _ kw_1261) (fun _ h9 => h9) rfl dX11_moves___34 ?_
  obtain ⟨h_37, hf⟩ := fb_if hf
  refine va_lald hx hb hK hP 49 1 (haM_49 ca a t) rfl h_37 dX11_moves___37 ?_
  obtain ⟨h_38, hf⟩ := fb_if hf
  refine va_last hx hb hK hP (hD t) hS 44 1 (haM_44 ca a t) rfl h_38 dX11_moves___38 (fun H locs hP _ hS => ?_)
  rw [saM_44] at hP
  obtain ⟨t_1, e_38, hf⟩ := fb_ls hf
  rw [← e_38] at hP
  exact w_M_X11_moves____0_44_39 C hr hk2 hf hP hS (lv_sub hl [0, 1, 2, 3] rfl)
set_option maxRecDepth 20000 in
theorem w_M_X11_moves____0_44_12 {p : Program} {l : Launch} {e : Env} {s : State} {m : MethodId} {args : Array Value} {below : List Frame} {meth : Method} {c : Code} {A : Nat → Prop} {Q : State → Prop} {D : va_G} {ca : Nat → ClassId} {a : Nat → Nat} {u : fw_S} {k2 : fw_S → Int32 → Int32 → Option fw_S} (C : CX (WM ca a) D (tyv ca) p s m args c A prog_13_method_90_code 4 RX11) (hr : True → RX (WM ca a) D p l e rm_M_X11_moves____0_44 s m args below meth c A prog_13_method_90_code Q .return_ [] u) (hk2 : ∀ (t : fw_S) (x2 : Int32) (x3 : Int32) (H : Heap) (locs : List Loc) (ls : Array Slot), k2 t x2 x3 = some u → va_P D classes (WM ca a t) H → va_S A s.heap H locs → lv_has ls 4 [(0, .ref (a 0)), (1, .ref (a 44)), (2, .int x2), (3, .int x3)] → W p l e rm_M_X11_moves____0_44 s m args below meth c H locs 0 0 Q (F0 m 2 ls [])) {t : fw_S} {x2 : Int32} {x3 : Int32} {H : Heap} {locs : List Loc} {ls : Array Slot} (hf : b_M_X11_moves____0_44_12 k2 t x2 x3 = some u) (hP : va_P D classes (WM ca a t) H) (hS : va_S A s.heap H locs) (hl : lv_has ls 4 [(0, .ref (a 0)), (1, .ref (a 44)), (2, .int x2), (3, .int x3)]) : W p l e rm_M_X11_moves____0_44 s m args below meth c H locs 0 0 Q (F0 m 12 ls []) := by
  obtain ⟨hx, hb, hml, hown, hts, hN, hK, hD, hA⟩ := id C
  have hf : (fb_g (¬ (x3 < 0 ∨ 60 ≤ x3.toNatClampNeg)) (fb_g (¬ ((st_I t 20) < 0 ∨ 200 ≤ (st_I t 20).toNatClampNeg)) (fb_l (up_G t 8 (vp_updL (st_G t 8) (st_I t 20).toNatClampNeg (st_G t 6 x3.toNatClampNeg))) fun t_1 => (b_M_X11_moves____0_44_39 k2 t_1 x2 x3)))) = some u := hf
  refine lv_aload_n hx hb dX11_moves___12 rfl (lv_at hl 0 rfl) ?_
  refine va_get (D := D) (ci := 11) (v := .ref (a 49)) (C := RX11) (T := TX11) (N := 76) hx hb hts inX11 hown hK hP 0 (heM_0 ca a t) rfl 67 (by decide) (hts _ kw_1259) (fun _ h9 => h9) rfl dX11_moves___13 ?_
  refine lv_aload_n hx hb dX11_moves___16 rfl (lv_at hl 0 rfl) ?_
  refine va_get (D := D) (ci := 11) (v := .int (st_I t 20)) (C := RX11) (T := TX11) (N := 76) hx hb hts inX11 hown hK hP 0 (heM_0 ca a t) rfl 69 (by decide) (hts _ kw_1261) (fun _ h9 => h9) rfl dX11_moves___17 ?_
  refine lv_aload_n hx hb dX11_moves___20 rfl (lv_at hl 1 rfl) ?_
  refine lv_iload_n hx hb dX11_moves___21 rfl (lv_at hl 3 rfl) ?_
  obtain ⟨h_22, hf⟩ := fb_if hf
  refine va_lald hx hb hK hP 44 1 (haM_44 ca a t) rfl h_22 dX11_moves___22 ?_
  obtain ⟨h_23, hf⟩ := fb_if hf
  refine va_last hx hb hK hP (hD t) hS 49 1 (haM_49 ca a t) rfl h_23 dX11_moves___23 (fun H locs hP _ hS => ?_)
  rw [saM_49] at hP
  obtain ⟨t_1, e_23, hf⟩ := fb_ls hf
  rw [← e_23] at hP
  refine lv_goto (tgt := 39) hx hb dX11_moves___24 (by decide) ?_
  exact w_M_X11_moves____0_44_39 C hr hk2 hf hP hS (lv_sub hl [0, 1, 2, 3] rfl)
set_option maxRecDepth 20000 in
theorem w_M_X11_moves____0_44_8 {p : Program} {l : Launch} {e : Env} {s : State} {m : MethodId} {args : Array Value} {below : List Frame} {meth : Method} {c : Code} {A : Nat → Prop} {Q : State → Prop} {D : va_G} {ca : Nat → ClassId} {a : Nat → Nat} {u : fw_S} {k2 : fw_S → Int32 → Int32 → Option fw_S} (C : CX (WM ca a) D (tyv ca) p s m args c A prog_13_method_90_code 4 RX11) (hr : True → RX (WM ca a) D p l e rm_M_X11_moves____0_44 s m args below meth c A prog_13_method_90_code Q .return_ [] u) (hk2 : ∀ (t : fw_S) (x2 : Int32) (x3 : Int32) (H : Heap) (locs : List Loc) (ls : Array Slot), k2 t x2 x3 = some u → va_P D classes (WM ca a t) H → va_S A s.heap H locs → lv_has ls 4 [(0, .ref (a 0)), (1, .ref (a 44)), (2, .int x2), (3, .int x3)] → W p l e rm_M_X11_moves____0_44 s m args below meth c H locs 0 0 Q (F0 m 2 ls [])) {t : fw_S} {x2 : Int32} {x3 : Int32} {H : Heap} {locs : List Loc} {ls : Array Slot} (hf : b_M_X11_moves____0_44_8 k2 t x2 x3 = some u) (hP : va_P D classes (WM ca a t) H) (hS : va_S A s.heap H locs) (hl : lv_has ls 4 [(0, .ref (a 0)), (1, .ref (a 44)), (2, .int x2), (3, .int x3)]) : W p l e rm_M_X11_moves____0_44 s m args below meth c H locs 0 0 Q (F0 m 8 ls []) := by
  obtain ⟨hx, hb, hml, hown, hts, hN, hK, hD, hA⟩ := id C
  have hf : (if x2 = 0 then b_M_X11_moves____0_44_27 k2 t x2 x3 else b_M_X11_moves____0_44_12 k2 t x2 x3) = some u := hf
  refine lv_iload_n hx hb dX11_moves___8 rfl (lv_at hl 2 rfl) ?_
  refine lv_if_eq (tgt := 27) hx hb dX11_moves___9 (by decide) (fun h_9 => ?_) (fun h_9 => ?_)
  · have hf := fb_t h_9 hf
    exact w_M_X11_moves____0_44_27 C hr hk2 hf hP hS (lv_sub hl [0, 1, 2, 3] rfl)
  · have hf := fb_f h_9 hf
    exact w_M_X11_moves____0_44_12 C hr hk2 hf hP hS (lv_sub hl [0, 1, 2, 3] rfl)
set_option maxRecDepth 20000 in
theorem w_M_X11_moves____0_44_2 {p : Program} {l : Launch} {e : Env} {s : State} {m : MethodId} {args : Array Value} {below : List Frame} {meth : Method} {c : Code} {A : Nat → Prop} {Q : State → Prop} {D : va_G} {ca : Nat → ClassId} {a : Nat → Nat} {u : fw_S}  (C : CX (WM ca a) D (tyv ca) p s m args c A prog_13_method_90_code 4 RX11) (hr : True → RX (WM ca a) D p l e rm_M_X11_moves____0_44 s m args below meth c A prog_13_method_90_code Q .return_ [] u) : ∀ (n : Nat) (t : fw_S) (x2 : Int32) (x3 : Int32) (H : Heap) (locs : List Loc) (ls : Array Slot), b_M_X11_moves____0_44_2  n t x2 x3 = some u → va_P D classes (WM ca a t) H → va_S A s.heap H locs → lv_has ls 4 [(0, .ref (a 0)), (1, .ref (a 44)), (2, .int x2), (3, .int x3)] → W p l e rm_M_X11_moves____0_44 s m args below meth c H locs 0 0 Q (F0 m 2 ls []) := by
  obtain ⟨hx, hb, hml, hown, hts, hN, hK, hD, hA⟩ := id C
  intro n
  induction n with
  | zero => intro t x2 x3 H locs ls hf; cases hf
  | succ n hk2 =>
    intro t x2 x3 H locs ls hf hP hS hl
    have hf : (if ((60 : Int32)) ≤ x3 then b_M_X11_moves____0_44_55 t else b_M_X11_moves____0_44_8 (b_M_X11_moves____0_44_2 n) t x2 x3) = some u := hf
    refine lv_iload_n hx hb dX11_moves___2 rfl (lv_at hl 3 rfl) ?_
    refine lv_aload_n hx hb dX11_moves___3 rfl (lv_at hl 1 rfl) ?_
    refine va_alen (v := 60) hx hb hK hP 44 1 (haM_44 ca a t) rfl rfl dX11_moves___4 ?_
    refine lv_icmp_ge (tgt := 55) hx hb dX11_moves___5 (by decide) (fun h_5 => ?_) (fun h_5 => ?_)
    · have hf := fb_t h_5 hf
      exact w_M_X11_moves____0_44_55 C hr hf hP hS (lv_sub hl [] rfl)
    · have hf := fb_f h_5 hf
      exact w_M_X11_moves____0_44_8 C hr hk2 hf hP hS (lv_sub hl [0, 1, 2, 3] rfl)
set_option maxRecDepth 20000 in
theorem w_M_X11_moves____0_44_0 {p : Program} {l : Launch} {e : Env} {s : State} {m : MethodId} {args : Array Value} {below : List Frame} {meth : Method} {c : Code} {A : Nat → Prop} {Q : State → Prop} {D : va_G} {ca : Nat → ClassId} {a : Nat → Nat} {u : fw_S}  (C : CX (WM ca a) D (tyv ca) p s m args c A prog_13_method_90_code 4 RX11) (hr : True → RX (WM ca a) D p l e rm_M_X11_moves____0_44 s m args below meth c A prog_13_method_90_code Q .return_ [] u) {t : fw_S} {x2 : Int32} {H : Heap} {locs : List Loc} {ls : Array Slot} (hf : b_M_X11_moves____0_44_0  t x2 = some u) (hP : va_P D classes (WM ca a t) H) (hS : va_S A s.heap H locs) (hl : lv_has ls 4 [(0, .ref (a 0)), (1, .ref (a 44)), (2, .int x2)]) : W p l e rm_M_X11_moves____0_44 s m args below meth c H locs 0 0 Q (F0 m 0 ls []) := by
  obtain ⟨hx, hb, hml, hown, hts, hN, hK, hD, hA⟩ := id C
  have hf : (b_M_X11_moves____0_44_2 3000 t x2 ((0 : Int32))) = some u := hf
  refine lv_iconst (v := 0) hx hb dX11_moves___0 (by decide) ?_
  refine lv_istore_n (lv' := [(3, .int ((0 : Int32))), (0, .ref (a 0)), (1, .ref (a 44)), (2, .int x2)]) hx hb dX11_moves___1 rfl hl (by decide) rfl (fun ls hl => ?_)
  exact w_M_X11_moves____0_44_2 C hr 3000 t x2 ((0 : Int32)) _ _ _ hf hP hS (lv_sub hl [1, 2, 3, 0] rfl)
set_option maxRecDepth 20000 in
theorem c_M_X11_moves____0_44 {l : Launch} {D : va_G} {ca : Nat → ClassId} {a : Nat → Nat} {t : fw_S} {x2 : Int32} {u : fw_S} (hf : f_M_X11_moves____0_44 t x2 = some u) : MC (WM ca a) D (tyv ca) l yX11_moves__ (.code yX11_moves__ prog_13_method_90_code 4 none :: lw_gd) rm_M_X11_moves____0_44 [.ref (a 0), .ref (a 44), .int x2] none t u := by
  refine fw_met (okM ca a) (by decide +kernel) rfl rfl (Nat.le_of_ble_eq_true rfl) ?_
  intro p e s m args below meth c A Q ls C hr hk hP hS hl hQ
  exact w_M_X11_moves____0_44_0 C (fun _ => fw_rv C hr hk hQ) hf hP hS (lv_sub hl [0, 1, 2] rfl)
/-! ReactiveSheetModel.ofImage(I)I [] -/
abbrev rm_M_X11_ofImage : Room := { frames := 0, cells := 0, slots := 0, locals := 0 }
def b_M_X11_ofImage_0  (t : fw_S) (x0 : Int32) : Option (Int32 × fw_S) := some ((((96 : Int32)) + x0) * ((128 : Int32)), t)
def f_M_X11_ofImage (t : fw_S) (x0 : Int32) : Option (Int32 × fw_S) := b_M_X11_ofImage_0 t x0
set_option maxRecDepth 20000 in
theorem w_M_X11_ofImage_0 {p : Program} {l : Launch} {e : Env} {s : State} {m : MethodId} {args : Array Value} {below : List Frame} {meth : Method} {c : Code} {A : Nat → Prop} {Q : State → Prop} {D : va_G} {ca : Nat → ClassId} {a : Nat → Nat} {u : fw_S} {r : Int32}  (C : CX (WM ca a) D (tyv ca) p s m args c A prog_13_method_22_code 1 RX11) (hr : True → RX (WM ca a) D p l e rm_M_X11_ofImage s m args below meth c A prog_13_method_22_code Q .ireturn [.int r] u) {t : fw_S} {x0 : Int32} {H : Heap} {locs : List Loc} {ls : Array Slot} (hf : b_M_X11_ofImage_0  t x0 = some (r, u)) (hP : va_P D classes (WM ca a t) H) (hS : va_S A s.heap H locs) (hl : lv_has ls 1 [(0, .int x0)]) : W p l e rm_M_X11_ofImage s m args below meth c H locs 0 0 Q (F0 m 0 ls []) := by
  obtain ⟨hx, hb, hml, hown, hts, hN, hK, hD, hA⟩ := id C
  have hf : (some ((((96 : Int32)) + x0) * ((128 : Int32)), t)) = some (r, u) := hf
  refine lv_bipush (v := 96) hx hb dX11_ofImage_0 (by decide) ?_
  refine lv_iload_n hx hb dX11_ofImage_2 rfl (lv_at hl 0 rfl) ?_
  refine lv_iadd hx hb dX11_ofImage_3 ?_
  refine lv_sipush (v := 128) hx hb dX11_ofImage_4 (by decide) ?_
  refine lv_imul hx hb dX11_ofImage_7 ?_
  obtain ⟨e_8, e2_8⟩ := fb_e hf
  subst e_8; subst e2_8
  exact hr trivial _ _ _ _ hP hS dX11_ofImage_8
set_option maxRecDepth 20000 in
theorem c_M_X11_ofImage {l : Launch} {D : va_G} {ca : Nat → ClassId} {a : Nat → Nat} {t : fw_S} {x0 : Int32} {u : fw_S} {r : Int32} (hf : f_M_X11_ofImage t x0 = some (r, u)) : MC (WM ca a) D (tyv ca) l yX11_ofImage (.code yX11_ofImage prog_13_method_22_code 1 (some .int) :: lw_gd) rm_M_X11_ofImage [.int x0] (some (.int r)) t u := by
  refine fw_met (okM ca a) (by decide +kernel) rfl rfl (Nat.le_of_ble_eq_true rfl) ?_
  intro p e s m args below meth c A Q ls C hr hk hP hS hl hQ
  exact w_M_X11_ofImage_0 C (fun _ => fw_ri C hr hk hQ) hf hP hS (lv_sub hl [0] rfl)
/-! ReactiveSheetModel.movesAll(Z)V ['m'] -/
abbrev rm_M_X11_movesAll__0 : Room := { frames := 1, cells := 0, slots := 0, locals := 23 }
def b_M_X11_movesAll__0_275  (t : fw_S)  : Option fw_S := some t
def b_M_X11_movesAll__0_269 (k232 : fw_S → Int32 → Int32 → Option fw_S) (t : fw_S) (x1 : Int32) (x2 : Int32) : Option fw_S := k232 t x1 (x2 + 1)
def b_M_X11_movesAll__0_257 (k232 : fw_S → Int32 → Int32 → Option fw_S) (t : fw_S) (x1 : Int32) (x2 : Int32) : Option fw_S := fb_b (f_M_X11_ofImage t x2) fun v_2 t_1 => (fb_b (f_M_X11_ofCell t_1 x2) fun v_4 t_3 => (fb_v (f_M_X11_copies__0 t_3 v_2 v_4) fun t_5 => (b_M_X11_movesAll__0_269 k232 t_5 x1 x2)))
def b_M_X11_movesAll__0_242 (k232 : fw_S → Int32 → Int32 → Option fw_S) (t : fw_S) (x1 : Int32) (x2 : Int32) : Option fw_S := fb_b (f_M_X11_ofCell t x2) fun v_2 t_1 => (fb_b (f_M_X11_ofImage t_1 x2) fun v_4 t_3 => (fb_v (f_M_X11_copies__0 t_3 v_2 v_4) fun t_5 => (b_M_X11_movesAll__0_269 k232 t_5 x1 x2)))
def b_M_X11_movesAll__0_238 (k232 : fw_S → Int32 → Int32 → Option fw_S) (t : fw_S) (x1 : Int32) (x2 : Int32) : Option fw_S := if x1 = 0 then b_M_X11_movesAll__0_257 k232 t x1 x2 else b_M_X11_movesAll__0_242 k232 t x1 x2
def b_M_X11_movesAll__0_232  : Nat → (fw_S → Int32 → Int32 → Option fw_S)
  | 0 => fun _ _ _ => none
  | n + 1 => fun t x1 x2 => if ((32 : Int32)) ≤ x2 then b_M_X11_movesAll__0_275 t else b_M_X11_movesAll__0_238 (b_M_X11_movesAll__0_232 n) t x1 x2
def b_M_X11_movesAll__0_0  (t : fw_S) (x1 : Int32) : Option fw_S := fb_l (up_I t 19 ((0 : Int32))) fun t_1 => (fb_l (up_I t_1 20 ((0 : Int32))) fun t_2 => (fb_g (¬ (((0 : Int32)) < 0 ∨ 2 ≤ ((0 : Int32)).toNatClampNeg)) (fb_l (up_F t_2 43 (upd (st_F t_2 43) ((0 : Int32)).toNatClampNeg (st_I t_2 12))) fun t_3 => (fb_g (¬ (((1 : Int32)) < 0 ∨ 2 ≤ ((1 : Int32)).toNatClampNeg)) (fb_l (up_F t_3 43 (upd (st_F t_3 43) ((1 : Int32)).toNatClampNeg (st_I t_3 13))) fun t_4 => (fb_v (f_M_X11_moves__0_53 t_4 x1) fun t_5 => (fb_g (¬ (((0 : Int32)) < 0 ∨ 2 ≤ ((0 : Int32)).toNatClampNeg)) (fb_l (up_I t_5 12 (st_F t_5 43 ((0 : Int32)).toNatClampNeg)) fun t_6 => (fb_g (¬ (((1 : Int32)) < 0 ∨ 2 ≤ ((1 : Int32)).toNatClampNeg)) (fb_l (up_I t_6 13 (st_F t_6 43 ((1 : Int32)).toNatClampNeg)) fun t_7 => (fb_v (f_M_X11_moves__0_1 t_7 x1) fun t_8 => (fb_v (f_M_X11_moves__0_2 t_8 x1) fun t_9 => (fb_v (f_M_X11_moves__0_3 t_9 x1) fun t_10 => (fb_v (f_M_X11_moves__0_4 t_10 x1) fun t_11 => (fb_v (f_M_X11_moves__0_5 t_11 x1) fun t_12 => (fb_v (f_M_X11_moves__0_6 t_12 x1) fun t_13 => (fb_v (f_M_X11_moves__0_8 t_13 x1) fun t_14 => (fb_v (f_M_X11_moves___0_9 t_14 x1) fun t_15 => (fb_v (f_M_X11_moves___0_10 t_15 x1) fun t_16 => (fb_v (f_M_X11_moves__0_36 t_16 x1) fun t_17 => (fb_v (f_M_X11_moves__0_37 t_17 x1) fun t_18 => (fb_v (f_M_X11_moves___0_41 t_18 x1) fun t_19 => (fb_v (f_M_X11_moves__0_38 t_19 x1) fun t_20 => (fb_v (f_M_X11_moves__0_39 t_20 x1) fun t_21 => (fb_v (f_M_X11_moves__0_40 t_21 x1) fun t_22 => (fb_v (f_M_X11_moves____0_7 t_22 x1) fun t_23 => (fb_v (f_M_X11_moves____0_42 t_23 x1) fun t_24 => (fb_v (f_M_X11_moves____0_43 t_24 x1) fun t_25 => (fb_v (f_M_X11_moves____0_44 t_25 x1) fun t_26 => (b_M_X11_movesAll__0_232 3000 t_26 x1 ((0 : Int32))))))))))))))))))))))))))))))))
def f_M_X11_movesAll__0 (t : fw_S) (x1 : Int32) : Option fw_S := b_M_X11_movesAll__0_0 t x1
set_option maxRecDepth 20000 in
theorem w_M_X11_movesAll__0_275 {p : Program} {l : Launch} {e : Env} {s : State} {m : MethodId} {args : Array Value} {below : List Frame} {meth : Method} {c : Code} {A : Nat → Prop} {Q : State → Prop} {D : va_G} {ca : Nat → ClassId} {a : Nat → Nat} {u : fw_S}  (C : CX (WM ca a) D (tyv ca) p s m args c A prog_13_method_91_code 3 RX11) (hr : True → RX (WM ca a) D p l e rm_M_X11_movesAll__0 s m args below meth c A prog_13_method_91_code Q .return_ [] u) {t : fw_S}  {H : Heap} {locs : List Loc} {ls : Array Slot} (hf : b_M_X11_movesAll__0_275  t  = some u) (hP : va_P D classes (WM ca a t) H) (hS : va_S A s.heap H locs) (hl : lv_has ls 3 []) : W p l e rm_M_X11_movesAll__0 s m args below meth c H locs 0 0 Q (F0 m 275 ls []) := by
  obtain ⟨hx, hb, hml, hown, hts, hN, hK, hD, hA⟩ := id C
  have hf : (some t) = some u := hf
  have e_275 := fb_ev hf
  subst e_275
  exact hr trivial _ _ _ _ hP hS dX11_movesAll_275
set_option maxRecDepth 20000 in
theorem w_M_X11_movesAll__0_269 {p : Program} {l : Launch} {e : Env} {s : State} {m : MethodId} {args : Array Value} {below : List Frame} {meth : Method} {c : Code} {A : Nat → Prop} {Q : State → Prop} {D : va_G} {ca : Nat → ClassId} {a : Nat → Nat} {u : fw_S} {k232 : fw_S → Int32 → Int32 → Option fw_S} (C : CX (WM ca a) D (tyv ca) p s m args c A prog_13_method_91_code 3 RX11) (hr : True → RX (WM ca a) D p l e rm_M_X11_movesAll__0 s m args below meth c A prog_13_method_91_code Q .return_ [] u) (hk232 : ∀ (t : fw_S) (x1 : Int32) (x2 : Int32) (H : Heap) (locs : List Loc) (ls : Array Slot), k232 t x1 x2 = some u → va_P D classes (WM ca a t) H → va_S A s.heap H locs → lv_has ls 3 [(0, .ref (a 0)), (1, .int x1), (2, .int x2)] → W p l e rm_M_X11_movesAll__0 s m args below meth c H locs 0 0 Q (F0 m 232 ls [])) {t : fw_S} {x1 : Int32} {x2 : Int32} {H : Heap} {locs : List Loc} {ls : Array Slot} (hf : b_M_X11_movesAll__0_269 k232 t x1 x2 = some u) (hP : va_P D classes (WM ca a t) H) (hS : va_S A s.heap H locs) (hl : lv_has ls 3 [(0, .ref (a 0)), (1, .int x1), (2, .int x2)]) : W p l e rm_M_X11_movesAll__0 s m args below meth c H locs 0 0 Q (F0 m 269 ls []) := by
  obtain ⟨hx, hb, hml, hown, hts, hN, hK, hD, hA⟩ := id C
  have hf : (k232 t x1 (x2 + 1)) = some u := hf
  refine lv_iinc (v := x2 + 1) (lv' := [(2, .int (x2 + 1)), (0, .ref (a 0)), (1, .int x1)]) hx hb dX11_movesAll_269 hl (k := 2) rfl rfl (by decide) rfl (fun ls hl => ?_)
  refine lv_goto (tgt := 232) hx hb dX11_movesAll_272 (by decide) ?_
  exact hk232 t x1 (x2 + 1) _ _ _ hf hP hS (lv_sub hl [1, 2, 0] rfl)
set_option maxRecDepth 20000 in
theorem w_M_X11_movesAll__0_257 {p : Program} {l : Launch} {e : Env} {s : State} {m : MethodId} {args : Array Value} {below : List Frame} {meth : Method} {c : Code} {A : Nat → Prop} {Q : State → Prop} {D : va_G} {ca : Nat → ClassId} {a : Nat → Nat} {u : fw_S} {k232 : fw_S → Int32 → Int32 → Option fw_S} (C : CX (WM ca a) D (tyv ca) p s m args c A prog_13_method_91_code 3 RX11) (hr : True → RX (WM ca a) D p l e rm_M_X11_movesAll__0 s m args below meth c A prog_13_method_91_code Q .return_ [] u) (hk232 : ∀ (t : fw_S) (x1 : Int32) (x2 : Int32) (H : Heap) (locs : List Loc) (ls : Array Slot), k232 t x1 x2 = some u → va_P D classes (WM ca a t) H → va_S A s.heap H locs → lv_has ls 3 [(0, .ref (a 0)), (1, .int x1), (2, .int x2)] → W p l e rm_M_X11_movesAll__0 s m args below meth c H locs 0 0 Q (F0 m 232 ls [])) {t : fw_S} {x1 : Int32} {x2 : Int32} {H : Heap} {locs : List Loc} {ls : Array Slot} (hf : b_M_X11_movesAll__0_257 k232 t x1 x2 = some u) (hP : va_P D classes (WM ca a t) H) (hS : va_S A s.heap H locs) (hl : lv_has ls 3 [(0, .ref (a 0)), (1, .int x1), (2, .int x2)]) : W p l e rm_M_X11_movesAll__0 s m args below meth c H locs 0 0 Q (F0 m 257 ls []) := by
  obtain ⟨hx, hb, hml, hown, hts, hN, hK, hD, hA⟩ := id C
  have hf : (fb_b (f_M_X11_ofImage t x2) fun v_2 t_1 => (fb_b (f_M_X11_ofCell t_1 x2) fun v_4 t_3 => (fb_v (f_M_X11_copies__0 t_3 v_2 v_4) fun t_5 => (b_M_X11_movesAll__0_269 k232 t_5 x1 x2)))) = some u := hf
  refine lv_aload_n hx hb dX11_movesAll_257 rfl (lv_at hl 0 rfl) ?_
  refine lv_iload_n hx hb dX11_movesAll_258 rfl (lv_at hl 2 rfl) ?_
  obtain ⟨v_2, t_1, g_259, hf⟩ := fb_bs hf
  refine fw_S1 (As := [.int x2]) (rest := [.ref (a 0)]) (n := 1) C (c_M_X11_ofImage (l := l) (D := D) (ca := ca) (a := a) g_259) kw_1780 kw_1781 kw_102 kw_1782 hP hS hl rfl rfl (by decide) (by decide +kernel) ⟨Nat.le_of_ble_eq_true rfl, Nat.le_of_ble_eq_true rfl⟩ rfl rfl (Nat.le_of_ble_eq_true rfl) dX11_movesAll_259 (fun H locs hP hS => ?_)
  refine W.eq (g2 := F0 m 262 ls [.int v_2, .ref (a 0)]) rfl ?_
  refine lv_iload_n hx hb dX11_movesAll_262 rfl (lv_at hl 2 rfl) ?_
  obtain ⟨v_4, t_3, g_263, hf⟩ := fb_bs hf
  refine fw_S1 (As := [.int x2]) (rest := [.int v_2, .ref (a 0)]) (n := 1) C (c_M_X11_ofCell (l := l) (D := D) (ca := ca) (a := a) g_263) kw_1468 kw_1469 kw_102 kw_1470 hP hS hl rfl rfl (by decide) (by decide +kernel) ⟨Nat.le_of_ble_eq_true rfl, Nat.le_of_ble_eq_true rfl⟩ rfl rfl (Nat.le_of_ble_eq_true rfl) dX11_movesAll_263 (fun H locs hP hS => ?_)
  refine W.eq (g2 := F0 m 266 ls [.int v_4, .int v_2, .ref (a 0)]) rfl ?_
  obtain ⟨t_5, g_266, hf⟩ := fb_vs hf
  refine fw_V1 (As := [.int v_2, .int v_4]) (rest := []) (n := 2) (q0 := 0) C (c_M_X11_copies__0 (l := l) (D := D) (ca := ca) (a := a) g_266) kw_1535 kw_1537 kw_102 kw_1538 kw_64 hP hS hl (heM_0 ca a t_3) rfl rfl rfl (by decide) (by decide +kernel) ⟨Nat.le_of_ble_eq_true rfl, Nat.le_of_ble_eq_true rfl⟩ rfl rfl (Nat.le_of_ble_eq_true rfl) dX11_movesAll_266 (fun H locs hP hS => ?_)
  refine W.eq (g2 := F0 m 269 ls []) rfl ?_
  exact w_M_X11_movesAll__0_269 C hr hk232 hf hP hS (lv_sub hl [0, 1, 2] rfl)
set_option maxRecDepth 20000 in
theorem w_M_X11_movesAll__0_242 {p : Program} {l : Launch} {e : Env} {s : State} {m : MethodId} {args : Array Value} {below : List Frame} {meth : Method} {c : Code} {A : Nat → Prop} {Q : State → Prop} {D : va_G} {ca : Nat → ClassId} {a : Nat → Nat} {u : fw_S} {k232 : fw_S → Int32 → Int32 → Option fw_S} (C : CX (WM ca a) D (tyv ca) p s m args c A prog_13_method_91_code 3 RX11) (hr : True → RX (WM ca a) D p l e rm_M_X11_movesAll__0 s m args below meth c A prog_13_method_91_code Q .return_ [] u) (hk232 : ∀ (t : fw_S) (x1 : Int32) (x2 : Int32) (H : Heap) (locs : List Loc) (ls : Array Slot), k232 t x1 x2 = some u → va_P D classes (WM ca a t) H → va_S A s.heap H locs → lv_has ls 3 [(0, .ref (a 0)), (1, .int x1), (2, .int x2)] → W p l e rm_M_X11_movesAll__0 s m args below meth c H locs 0 0 Q (F0 m 232 ls [])) {t : fw_S} {x1 : Int32} {x2 : Int32} {H : Heap} {locs : List Loc} {ls : Array Slot} (hf : b_M_X11_movesAll__0_242 k232 t x1 x2 = some u) (hP : va_P D classes (WM ca a t) H) (hS : va_S A s.heap H locs) (hl : lv_has ls 3 [(0, .ref (a 0)), (1, .int x1), (2, .int x2)]) : W p l e rm_M_X11_movesAll__0 s m args below meth c H locs 0 0 Q (F0 m 242 ls []) := by
  obtain ⟨hx, hb, hml, hown, hts, hN, hK, hD, hA⟩ := id C
  have hf : (fb_b (f_M_X11_ofCell t x2) fun v_2 t_1 => (fb_b (f_M_X11_ofImage t_1 x2) fun v_4 t_3 => (fb_v (f_M_X11_copies__0 t_3 v_2 v_4) fun t_5 => (b_M_X11_movesAll__0_269 k232 t_5 x1 x2)))) = some u := hf
  refine lv_aload_n hx hb dX11_movesAll_242 rfl (lv_at hl 0 rfl) ?_
  refine lv_iload_n hx hb dX11_movesAll_243 rfl (lv_at hl 2 rfl) ?_
  obtain ⟨v_2, t_1, g_244, hf⟩ := fb_bs hf
  refine fw_S1 (As := [.int x2]) (rest := [.ref (a 0)]) (n := 1) C (c_M_X11_ofCell (l := l) (D := D) (ca := ca) (a := a) g_244) kw_1468 kw_1469 kw_102 kw_1470 hP hS hl rfl rfl (by decide) (by decide +kernel) ⟨Nat.le_of_ble_eq_true rfl, Nat.le_of_ble_eq_true rfl⟩ rfl rfl (Nat.le_of_ble_eq_true rfl) dX11_movesAll_244 (fun H locs hP hS => ?_)
  refine W.eq (g2 := F0 m 247 ls [.int v_2, .ref (a 0)]) rfl ?_
  refine lv_iload_n hx hb dX11_movesAll_247 rfl (lv_at hl 2 rfl) ?_
  obtain ⟨v_4, t_3, g_248, hf⟩ := fb_bs hf
  refine fw_S1 (As := [.int x2]) (rest := [.int v_2, .ref (a 0)]) (n := 1) C (c_M_X11_ofImage (l := l) (D := D) (ca := ca) (a := a) g_248) kw_1780 kw_1781 kw_102 kw_1782 hP hS hl rfl rfl (by decide) (by decide +kernel) ⟨Nat.le_of_ble_eq_true rfl, Nat.le_of_ble_eq_true rfl⟩ rfl rfl (Nat.le_of_ble_eq_true rfl) dX11_movesAll_248 (fun H locs hP hS => ?_)
  refine W.eq (g2 := F0 m 251 ls [.int v_4, .int v_2, .ref (a 0)]) rfl ?_
  obtain ⟨t_5, g_251, hf⟩ := fb_vs hf
  refine fw_V1 (As := [.int v_2, .int v_4]) (rest := []) (n := 2) (q0 := 0) C (c_M_X11_copies__0 (l := l) (D := D) (ca := ca) (a := a) g_251) kw_1535 kw_1537 kw_102 kw_1538 kw_64 hP hS hl (heM_0 ca a t_3) rfl rfl rfl (by decide) (by decide +kernel) ⟨Nat.le_of_ble_eq_true rfl, Nat.le_of_ble_eq_true rfl⟩ rfl rfl (Nat.le_of_ble_eq_true rfl) dX11_movesAll_251 (fun H locs hP hS => ?_)
  refine W.eq (g2 := F0 m 254 ls []) rfl ?_
  refine lv_goto (tgt := 269) hx hb dX11_movesAll_254 (by decide) ?_
  exact w_M_X11_movesAll__0_269 C hr hk232 hf hP hS (lv_sub hl [0, 1, 2] rfl)
set_option maxRecDepth 20000 in
theorem w_M_X11_movesAll__0_238 {p : Program} {l : Launch} {e : Env} {s : State} {m : MethodId} {args : Array Value} {below : List Frame} {meth : Method} {c : Code} {A : Nat → Prop} {Q : State → Prop} {D : va_G} {ca : Nat → ClassId} {a : Nat → Nat} {u : fw_S} {k232 : fw_S → Int32 → Int32 → Option fw_S} (C : CX (WM ca a) D (tyv ca) p s m args c A prog_13_method_91_code 3 RX11) (hr : True → RX (WM ca a) D p l e rm_M_X11_movesAll__0 s m args below meth c A prog_13_method_91_code Q .return_ [] u) (hk232 : ∀ (t : fw_S) (x1 : Int32) (x2 : Int32) (H : Heap) (locs : List Loc) (ls : Array Slot), k232 t x1 x2 = some u → va_P D classes (WM ca a t) H → va_S A s.heap H locs → lv_has ls 3 [(0, .ref (a 0)), (1, .int x1), (2, .int x2)] → W p l e rm_M_X11_movesAll__0 s m args below meth c H locs 0 0 Q (F0 m 232 ls [])) {t : fw_S} {x1 : Int32} {x2 : Int32} {H : Heap} {locs : List Loc} {ls : Array Slot} (hf : b_M_X11_movesAll__0_238 k232 t x1 x2 = some u) (hP : va_P D classes (WM ca a t) H) (hS : va_S A s.heap H locs) (hl : lv_has ls 3 [(0, .ref (a 0)), (1, .int x1), (2, .int x2)]) : W p l e rm_M_X11_movesAll__0 s m args below meth c H locs 0 0 Q (F0 m 238 ls []) := by
  obtain ⟨hx, hb, hml, hown, hts, hN, hK, hD, hA⟩ := id C
  have hf : (if x1 = 0 then b_M_X11_movesAll__0_257 k232 t x1 x2 else b_M_X11_movesAll__0_242 k232 t x1 x2) = some u := hf
  refine lv_iload_n hx hb dX11_movesAll_238 rfl (lv_at hl 1 rfl) ?_
  refine lv_if_eq (tgt := 257) hx hb dX11_movesAll_239 (by decide) (fun h_239 => ?_) (fun h_239 => ?_)
  · have hf := fb_t h_239 hf
    exact w_M_X11_movesAll__0_257 C hr hk232 hf hP hS (lv_sub hl [0, 1, 2] rfl)
  · have hf := fb_f h_239 hf
    exact w_M_X11_movesAll__0_242 C hr hk232 hf hP hS (lv_sub hl [0, 1, 2] rfl)
set_option maxRecDepth 20000 in
theorem w_M_X11_movesAll__0_232 {p : Program} {l : Launch} {e : Env} {s : State} {m : MethodId} {args : Array Value} {below : List Frame} {meth : Method} {c : Code} {A : Nat → Prop} {Q : State → Prop} {D : va_G} {ca : Nat → ClassId} {a : Nat → Nat} {u : fw_S}  (C : CX (WM ca a) D (tyv ca) p s m args c A prog_13_method_91_code 3 RX11) (hr : True → RX (WM ca a) D p l e rm_M_X11_movesAll__0 s m args below meth c A prog_13_method_91_code Q .return_ [] u) : ∀ (n : Nat) (t : fw_S) (x1 : Int32) (x2 : Int32) (H : Heap) (locs : List Loc) (ls : Array Slot), b_M_X11_movesAll__0_232  n t x1 x2 = some u → va_P D classes (WM ca a t) H → va_S A s.heap H locs → lv_has ls 3 [(0, .ref (a 0)), (1, .int x1), (2, .int x2)] → W p l e rm_M_X11_movesAll__0 s m args below meth c H locs 0 0 Q (F0 m 232 ls []) := by
  obtain ⟨hx, hb, hml, hown, hts, hN, hK, hD, hA⟩ := id C
  intro n
  induction n with
  | zero => intro t x1 x2 H locs ls hf; cases hf
  | succ n hk232 =>
    intro t x1 x2 H locs ls hf hP hS hl
    have hf : (if ((32 : Int32)) ≤ x2 then b_M_X11_movesAll__0_275 t else b_M_X11_movesAll__0_238 (b_M_X11_movesAll__0_232 n) t x1 x2) = some u := hf
    refine lv_iload_n hx hb dX11_movesAll_232 rfl (lv_at hl 2 rfl) ?_
    refine lv_bipush (v := 32) hx hb dX11_movesAll_233 (by decide) ?_
    refine lv_icmp_ge (tgt := 275) hx hb dX11_movesAll_235 (by decide) (fun h_235 => ?_) (fun h_235 => ?_)
    · have hf := fb_t h_235 hf
      exact w_M_X11_movesAll__0_275 C hr hf hP hS (lv_sub hl [] rfl)
    · have hf := fb_f h_235 hf
      exact w_M_X11_movesAll__0_238 C hr hk232 hf hP hS (lv_sub hl [0, 1, 2] rfl)
set_option maxRecDepth 20000 in
theorem w_M_X11_movesAll__0_0 {p : Program} {l : Launch} {e : Env} {s : State} {m : MethodId} {args : Array Value} {below : List Frame} {meth : Method} {c : Code} {A : Nat → Prop} {Q : State → Prop} {D : va_G} {ca : Nat → ClassId} {a : Nat → Nat} {u : fw_S}  (C : CX (WM ca a) D (tyv ca) p s m args c A prog_13_method_91_code 3 RX11) (hr : True → RX (WM ca a) D p l e rm_M_X11_movesAll__0 s m args below meth c A prog_13_method_91_code Q .return_ [] u) {t : fw_S} {x1 : Int32} {H : Heap} {locs : List Loc} {ls : Array Slot} (hf : b_M_X11_movesAll__0_0  t x1 = some u) (hP : va_P D classes (WM ca a t) H) (hS : va_S A s.heap H locs) (hl : lv_has ls 3 [(0, .ref (a 0)), (1, .int x1)]) : W p l e rm_M_X11_movesAll__0 s m args below meth c H locs 0 0 Q (F0 m 0 ls []) := by
  obtain ⟨hx, hb, hml, hown, hts, hN, hK, hD, hA⟩ := id C
  have hf : (fb_l (up_I t 19 ((0 : Int32))) fun t_1 => (fb_l (up_I t_1 20 ((0 : Int32))) fun t_2 => (fb_g (¬ (((0 : Int32)) < 0 ∨ 2 ≤ ((0 : Int32)).toNatClampNeg)) (fb_l (up_F t_2 43 (upd (st_F t_2 43) ((0 : Int32)).toNatClampNeg (st_I t_2 12))) fun t_3 => (fb_g (¬ (((1 : Int32)) < 0 ∨ 2 ≤ ((1 : Int32)).toNatClampNeg)) (fb_l (up_F t_3 43 (upd (st_F t_3 43) ((1 : Int32)).toNatClampNeg (st_I t_3 13))) fun t_4 => (fb_v (f_M_X11_moves__0_53 t_4 x1) fun t_5 => (fb_g (¬ (((0 : Int32)) < 0 ∨ 2 ≤ ((0 : Int32)).toNatClampNeg)) (fb_l (up_I t_5 12 (st_F t_5 43 ((0 : Int32)).toNatClampNeg)) fun t_6 => (fb_g (¬ (((1 : Int32)) < 0 ∨ 2 ≤ ((1 : Int32)).toNatClampNeg)) (fb_l (up_I t_6 13 (st_F t_6 43 ((1 : Int32)).toNatClampNeg)) fun t_7 => (fb_v (f_M_X11_moves__0_1 t_7 x1) fun t_8 => (fb_v (f_M_X11_moves__0_2 t_8 x1) fun t_9 => (fb_v (f_M_X11_moves__0_3 t_9 x1) fun t_10 => (fb_v (f_M_X11_moves__0_4 t_10 x1) fun t_11 => (fb_v (f_M_X11_moves__0_5 t_11 x1) fun t_12 => (fb_v (f_M_X11_moves__0_6 t_12 x1) fun t_13 => (fb_v (f_M_X11_moves__0_8 t_13 x1) fun t_14 => (fb_v (f_M_X11_moves___0_9 t_14 x1) fun t_15 => (fb_v (f_M_X11_moves___0_10 t_15 x1) fun t_16 => (fb_v (f_M_X11_moves__0_36 t_16 x1) fun t_17 => (fb_v (f_M_X11_moves__0_37 t_17 x1) fun t_18 => (fb_v (f_M_X11_moves___0_41 t_18 x1) fun t_19 => (fb_v (f_M_X11_moves__0_38 t_19 x1) fun t_20 => (fb_v (f_M_X11_moves__0_39 t_20 x1) fun t_21 => (fb_v (f_M_X11_moves__0_40 t_21 x1) fun t_22 => (fb_v (f_M_X11_moves____0_7 t_22 x1) fun t_23 => (fb_v (f_M_X11_moves____0_42 t_23 x1) fun t_24 => (fb_v (f_M_X11_moves____0_43 t_24 x1) fun t_25 => (fb_v (f_M_X11_moves____0_44 t_25 x1) fun t_26 => (b_M_X11_movesAll__0_232 3000 t_26 x1 ((0 : Int32))))))))))))))))))))))))))))))))) = some u := hf
  refine lv_aload_n hx hb dX11_movesAll_0 rfl (lv_at hl 0 rfl) ?_
  refine lv_iconst (v := 0) hx hb dX11_movesAll_1 (by decide) ?_
  refine va_put (D := D) (ci := 11) (v := .int ((0 : Int32))) (ty := .int) (C := RX11) (T := TX11) (N := 76) hx hb hts inX11 tyX11 tyX11_ok nmX11 hown hK hP (hD t) hS 0 (heM_0 ca a t) rfl 68 (by decide) (hts _ kw_1260) (fun _ h9 => h9) rfl (by decide +kernel) rfl rfl (Nat.le_of_ble_eq_true rfl) dX11_movesAll_2 (fun H locs hP _ hS => ?_)
  rw [suM_0_68] at hP
  obtain ⟨t_1, e_2, hf⟩ := fb_ls hf
  rw [← e_2] at hP
  refine lv_aload_n hx hb dX11_movesAll_5 rfl (lv_at hl 0 rfl) ?_
  refine lv_iconst (v := 0) hx hb dX11_movesAll_6 (by decide) ?_
  refine va_put (D := D) (ci := 11) (v := .int ((0 : Int32))) (ty := .int) (C := RX11) (T := TX11) (N := 76) hx hb hts inX11 tyX11 tyX11_ok nmX11 hown hK hP (hD t_1) hS 0 (heM_0 ca a t_1) rfl 69 (by decide) (hts _ kw_1261) (fun _ h9 => h9) rfl (by decide +kernel) rfl rfl (Nat.le_of_ble_eq_true rfl) dX11_movesAll_7 (fun H locs hP _ hS => ?_)
  rw [suM_0_69] at hP
  obtain ⟨t_2, e_7, hf⟩ := fb_ls hf
  rw [← e_7] at hP
  refine lv_aload_n hx hb dX11_movesAll_10 rfl (lv_at hl 0 rfl) ?_
  refine va_get (D := D) (ci := 11) (v := .ref (a 53)) (C := RX11) (T := TX11) (N := 76) hx hb hts inX11 hown hK hP 0 (heM_0 ca a t_2) rfl 75 (by decide) (hts _ kw_1267) (fun _ h9 => h9) rfl dX11_movesAll_11 ?_
  refine lv_iconst (v := 0) hx hb dX11_movesAll_14 (by decide) ?_
  refine lv_aload_n hx hb dX11_movesAll_15 rfl (lv_at hl 0 rfl) ?_
  refine va_get (D := D) (ci := 11) (v := .int (st_I t_2 12)) (C := RX11) (T := TX11) (N := 76) hx hb hts inX11 hown hK hP 0 (heM_0 ca a t_2) rfl 47 (by decide) (hts _ kw_1239) (fun _ h9 => h9) rfl dX11_movesAll_16 ?_
  obtain ⟨h_19, hf⟩ := fb_if hf
  refine va_iast hx hb hK hP (hD t_2) hS 53 0 (haM_53 ca a t_2) rfl h_19 dX11_movesAll_19 (fun H locs hP _ hS => ?_)
  rw [saM_53] at hP
  obtain ⟨t_3, e_19, hf⟩ := fb_ls hf
  rw [← e_19] at hP
  refine lv_aload_n hx hb dX11_movesAll_20 rfl (lv_at hl 0 rfl) ?_
  refine va_get (D := D) (ci := 11) (v := .ref (a 53)) (C := RX11) (T := TX11) (N := 76) hx hb hts inX11 hown hK hP 0 (heM_0 ca a t_3) rfl 75 (by decide) (hts _ kw_1267) (fun _ h9 => h9) rfl dX11_movesAll_21 ?_
  refine lv_iconst (v := 1) hx hb dX11_movesAll_24 (by decide) ?_
  refine lv_aload_n hx hb dX11_movesAll_25 rfl (lv_at hl 0 rfl) ?_
  refine va_get (D := D) (ci := 11) (v := .int (st_I t_3 13)) (C := RX11) (T := TX11) (N := 76) hx hb hts inX11 hown hK hP 0 (heM_0 ca a t_3) rfl 48 (by decide) (hts _ kw_1240) (fun _ h9 => h9) rfl dX11_movesAll_26 ?_
  obtain ⟨h_29, hf⟩ := fb_if hf
  refine va_iast hx hb hK hP (hD t_3) hS 53 0 (haM_53 ca a t_3) rfl h_29 dX11_movesAll_29 (fun H locs hP _ hS => ?_)
  rw [saM_53] at hP
  obtain ⟨t_4, e_29, hf⟩ := fb_ls hf
  rw [← e_29] at hP
  refine lv_aload_n hx hb dX11_movesAll_30 rfl (lv_at hl 0 rfl) ?_
  refine lv_aload_n hx hb dX11_movesAll_31 rfl (lv_at hl 0 rfl) ?_
  refine va_get (D := D) (ci := 11) (v := .ref (a 53)) (C := RX11) (T := TX11) (N := 76) hx hb hts inX11 hown hK hP 0 (heM_0 ca a t_4) rfl 75 (by decide) (hts _ kw_1267) (fun _ h9 => h9) rfl dX11_movesAll_32 ?_
  refine lv_iload_n hx hb dX11_movesAll_35 rfl (lv_at hl 1 rfl) ?_
  obtain ⟨t_5, g_36, hf⟩ := fb_vs hf
  refine fw_V1 (As := [.ref (a 53), .int x1]) (rest := []) (n := 2) (q0 := 0) C (c_M_X11_moves__0_53 (l := l) (D := D) (ca := ca) (a := a) g_36) kw_1768 kw_1770 kw_102 kw_1771 kw_87 hP hS hl (heM_0 ca a t_4) rfl rfl rfl (by decide) (by decide +kernel) ⟨Nat.le_of_ble_eq_true rfl, Nat.le_of_ble_eq_true rfl⟩ rfl rfl (Nat.le_of_ble_eq_true rfl) dX11_movesAll_36 (fun H locs hP hS => ?_)
  refine W.eq (g2 := F0 m 39 ls []) rfl ?_
  refine lv_aload_n hx hb dX11_movesAll_39 rfl (lv_at hl 0 rfl) ?_
  refine lv_aload_n hx hb dX11_movesAll_40 rfl (lv_at hl 0 rfl) ?_
  refine va_get (D := D) (ci := 11) (v := .ref (a 53)) (C := RX11) (T := TX11) (N := 76) hx hb hts inX11 hown hK hP 0 (heM_0 ca a t_5) rfl 75 (by decide) (hts _ kw_1267) (fun _ h9 => h9) rfl dX11_movesAll_41 ?_
  refine lv_iconst (v := 0) hx hb dX11_movesAll_44 (by decide) ?_
  obtain ⟨h_45, hf⟩ := fb_if hf
  refine va_iald hx hb hK hP 53 0 (haM_53 ca a t_5) rfl h_45 dX11_movesAll_45 ?_
  refine va_put (D := D) (ci := 11) (v := .int (st_F t_5 43 ((0 : Int32)).toNatClampNeg)) (ty := .int) (C := RX11) (T := TX11) (N := 76) hx hb hts inX11 tyX11 tyX11_ok nmX11 hown hK hP (hD t_5) hS 0 (heM_0 ca a t_5) rfl 47 (by decide) (hts _ kw_1239) (fun _ h9 => h9) rfl (by decide +kernel) rfl rfl (Nat.le_of_ble_eq_true rfl) dX11_movesAll_46 (fun H locs hP _ hS => ?_)
  rw [suM_0_47] at hP
  obtain ⟨t_6, e_46, hf⟩ := fb_ls hf
  rw [← e_46] at hP
  refine lv_aload_n hx hb dX11_movesAll_49 rfl (lv_at hl 0 rfl) ?_
  refine lv_aload_n hx hb dX11_movesAll_50 rfl (lv_at hl 0 rfl) ?_
  refine va_get (D := D) (ci := 11) (v := .ref (a 53)) (C := RX11) (T := TX11) (N := 76) hx hb hts inX11 hown hK hP 0 (heM_0 ca a t_6) rfl 75 (by decide) (hts _ kw_1267) (fun _ h9 => h9) rfl dX11_movesAll_51 ?_
  refine lv_iconst (v := 1) hx hb dX11_movesAll_54 (by decide) ?_
  obtain ⟨h_55, hf⟩ := fb_if hf
  refine va_iald hx hb hK hP 53 0 (haM_53 ca a t_6) rfl h_55 dX11_movesAll_55 ?_
  refine va_put (D := D) (ci := 11) (v := .int (st_F t_6 43 ((1 : Int32)).toNatClampNeg)) (ty := .int) (C := RX11) (T := TX11) (N := 76) hx hb hts inX11 tyX11 tyX11_ok nmX11 hown hK hP (hD t_6) hS 0 (heM_0 ca a t_6) rfl 48 (by decide) (hts _ kw_1240) (fun _ h9 => h9) rfl (by decide +kernel) rfl rfl (Nat.le_of_ble_eq_true rfl) dX11_movesAll_56 (fun H locs hP _ hS => ?_)
  rw [suM_0_48] at hP
  obtain ⟨t_7, e_56, hf⟩ := fb_ls hf
  rw [← e_56] at hP
  refine lv_aload_n hx hb dX11_movesAll_59 rfl (lv_at hl 0 rfl) ?_
  refine lv_aload_n hx hb dX11_movesAll_60 rfl (lv_at hl 0 rfl) ?_
  refine va_get (D := D) (ci := 11) (v := .ref (a 1)) (C := RX11) (T := TX11) (N := 76) hx hb hts inX11 hown hK hP 0 (heM_0 ca a t_7) rfl 0 (by decide) (hts _ kw_1192) (fun _ h9 => h9) rfl dX11_movesAll_61 ?_
  refine lv_iload_n hx hb dX11_movesAll_64 rfl (lv_at hl 1 rfl) ?_
  obtain ⟨t_8, g_65, hf⟩ := fb_vs hf
  refine fw_V1 (As := [.ref (a 1), .int x1]) (rest := []) (n := 2) (q0 := 0) C (c_M_X11_moves__0_1 (l := l) (D := D) (ca := ca) (a := a) g_65) kw_1768 kw_1770 kw_102 kw_1771 kw_87 hP hS hl (heM_0 ca a t_7) rfl rfl rfl (by decide) (by decide +kernel) ⟨Nat.le_of_ble_eq_true rfl, Nat.le_of_ble_eq_true rfl⟩ rfl rfl (Nat.le_of_ble_eq_true rfl) dX11_movesAll_65 (fun H locs hP hS => ?_)
  refine W.eq (g2 := F0 m 68 ls []) rfl ?_
  refine lv_aload_n hx hb dX11_movesAll_68 rfl (lv_at hl 0 rfl) ?_
  refine lv_aload_n hx hb dX11_movesAll_69 rfl (lv_at hl 0 rfl) ?_
  refine va_get (D := D) (ci := 11) (v := .ref (a 2)) (C := RX11) (T := TX11) (N := 76) hx hb hts inX11 hown hK hP 0 (heM_0 ca a t_8) rfl 1 (by decide) (hts _ kw_1193) (fun _ h9 => h9) rfl dX11_movesAll_70 ?_
  refine lv_iload_n hx hb dX11_movesAll_73 rfl (lv_at hl 1 rfl) ?_
  obtain ⟨t_9, g_74, hf⟩ := fb_vs hf
  refine fw_V1 (As := [.ref (a 2), .int x1]) (rest := []) (n := 2) (q0 := 0) C (c_M_X11_moves__0_2 (l := l) (D := D) (ca := ca) (a := a) g_74) kw_1768 kw_1770 kw_102 kw_1771 kw_87 hP hS hl (heM_0 ca a t_8) rfl rfl rfl (by decide) (by decide +kernel) ⟨Nat.le_of_ble_eq_true rfl, Nat.le_of_ble_eq_true rfl⟩ rfl rfl (Nat.le_of_ble_eq_true rfl) dX11_movesAll_74 (fun H locs hP hS => ?_)
  refine W.eq (g2 := F0 m 77 ls []) rfl ?_
  refine lv_aload_n hx hb dX11_movesAll_77 rfl (lv_at hl 0 rfl) ?_
  refine lv_aload_n hx hb dX11_movesAll_78 rfl (lv_at hl 0 rfl) ?_
  refine va_get (D := D) (ci := 11) (v := .ref (a 3)) (C := RX11) (T := TX11) (N := 76) hx hb hts inX11 hown hK hP 0 (heM_0 ca a t_9) rfl 2 (by decide) (hts _ kw_1194) (fun _ h9 => h9) rfl dX11_movesAll_79 ?_
  refine lv_iload_n hx hb dX11_movesAll_82 rfl (lv_at hl 1 rfl) ?_
  obtain ⟨t_10, g_83, hf⟩ := fb_vs hf
  refine fw_V1 (As := [.ref (a 3), .int x1]) (rest := []) (n := 2) (q0 := 0) C (c_M_X11_moves__0_3 (l := l) (D := D) (ca := ca) (a := a) g_83) kw_1768 kw_1770 kw_102 kw_1771 kw_87 hP hS hl (heM_0 ca a t_9) rfl rfl rfl (by decide) (by decide +kernel) ⟨Nat.le_of_ble_eq_true rfl, Nat.le_of_ble_eq_true rfl⟩ rfl rfl (Nat.le_of_ble_eq_true rfl) dX11_movesAll_83 (fun H locs hP hS => ?_)
  refine W.eq (g2 := F0 m 86 ls []) rfl ?_
  refine lv_aload_n hx hb dX11_movesAll_86 rfl (lv_at hl 0 rfl) ?_
  refine lv_aload_n hx hb dX11_movesAll_87 rfl (lv_at hl 0 rfl) ?_
  refine va_get (D := D) (ci := 11) (v := .ref (a 4)) (C := RX11) (T := TX11) (N := 76) hx hb hts inX11 hown hK hP 0 (heM_0 ca a t_10) rfl 3 (by decide) (hts _ kw_1195) (fun _ h9 => h9) rfl dX11_movesAll_88 ?_
  refine lv_iload_n hx hb dX11_movesAll_91 rfl (lv_at hl 1 rfl) ?_
  obtain ⟨t_11, g_92, hf⟩ := fb_vs hf
  refine fw_V1 (As := [.ref (a 4), .int x1]) (rest := []) (n := 2) (q0 := 0) C (c_M_X11_moves__0_4 (l := l) (D := D) (ca := ca) (a := a) g_92) kw_1768 kw_1770 kw_102 kw_1771 kw_87 hP hS hl (heM_0 ca a t_10) rfl rfl rfl (by decide) (by decide +kernel) ⟨Nat.le_of_ble_eq_true rfl, Nat.le_of_ble_eq_true rfl⟩ rfl rfl (Nat.le_of_ble_eq_true rfl) dX11_movesAll_92 (fun H locs hP hS => ?_)
  refine W.eq (g2 := F0 m 95 ls []) rfl ?_
  refine lv_aload_n hx hb dX11_movesAll_95 rfl (lv_at hl 0 rfl) ?_
  refine lv_aload_n hx hb dX11_movesAll_96 rfl (lv_at hl 0 rfl) ?_
  refine va_get (D := D) (ci := 11) (v := .ref (a 5)) (C := RX11) (T := TX11) (N := 76) hx hb hts inX11 hown hK hP 0 (heM_0 ca a t_11) rfl 4 (by decide) (hts _ kw_1196) (fun _ h9 => h9) rfl dX11_movesAll_97 ?_
  refine lv_iload_n hx hb dX11_movesAll_100 rfl (lv_at hl 1 rfl) ?_
  obtain ⟨t_12, g_101, hf⟩ := fb_vs hf
  refine fw_V1 (As := [.ref (a 5), .int x1]) (rest := []) (n := 2) (q0 := 0) C (c_M_X11_moves__0_5 (l := l) (D := D) (ca := ca) (a := a) g_101) kw_1768 kw_1770 kw_102 kw_1771 kw_87 hP hS hl (heM_0 ca a t_11) rfl rfl rfl (by decide) (by decide +kernel) ⟨Nat.le_of_ble_eq_true rfl, Nat.le_of_ble_eq_true rfl⟩ rfl rfl (Nat.le_of_ble_eq_true rfl) dX11_movesAll_101 (fun H locs hP hS => ?_)
  refine W.eq (g2 := F0 m 104 ls []) rfl ?_
  refine lv_aload_n hx hb dX11_movesAll_104 rfl (lv_at hl 0 rfl) ?_
  refine lv_aload_n hx hb dX11_movesAll_105 rfl (lv_at hl 0 rfl) ?_
  refine va_get (D := D) (ci := 11) (v := .ref (a 6)) (C := RX11) (T := TX11) (N := 76) hx hb hts inX11 hown hK hP 0 (heM_0 ca a t_12) rfl 5 (by decide) (hts _ kw_1197) (fun _ h9 => h9) rfl dX11_movesAll_106 ?_
  refine lv_iload_n hx hb dX11_movesAll_109 rfl (lv_at hl 1 rfl) ?_
  obtain ⟨t_13, g_110, hf⟩ := fb_vs hf
  refine fw_V1 (As := [.ref (a 6), .int x1]) (rest := []) (n := 2) (q0 := 0) C (c_M_X11_moves__0_6 (l := l) (D := D) (ca := ca) (a := a) g_110) kw_1768 kw_1770 kw_102 kw_1771 kw_87 hP hS hl (heM_0 ca a t_12) rfl rfl rfl (by decide) (by decide +kernel) ⟨Nat.le_of_ble_eq_true rfl, Nat.le_of_ble_eq_true rfl⟩ rfl rfl (Nat.le_of_ble_eq_true rfl) dX11_movesAll_110 (fun H locs hP hS => ?_)
  refine W.eq (g2 := F0 m 113 ls []) rfl ?_
  refine lv_aload_n hx hb dX11_movesAll_113 rfl (lv_at hl 0 rfl) ?_
  refine lv_aload_n hx hb dX11_movesAll_114 rfl (lv_at hl 0 rfl) ?_
  refine va_get (D := D) (ci := 11) (v := .ref (a 8)) (C := RX11) (T := TX11) (N := 76) hx hb hts inX11 hown hK hP 0 (heM_0 ca a t_13) rfl 7 (by decide) (hts _ kw_1199) (fun _ h9 => h9) rfl dX11_movesAll_115 ?_
  refine lv_iload_n hx hb dX11_movesAll_118 rfl (lv_at hl 1 rfl) ?_
  obtain ⟨t_14, g_119, hf⟩ := fb_vs hf
  refine fw_V1 (As := [.ref (a 8), .int x1]) (rest := []) (n := 2) (q0 := 0) C (c_M_X11_moves__0_8 (l := l) (D := D) (ca := ca) (a := a) g_119) kw_1768 kw_1770 kw_102 kw_1771 kw_87 hP hS hl (heM_0 ca a t_13) rfl rfl rfl (by decide) (by decide +kernel) ⟨Nat.le_of_ble_eq_true rfl, Nat.le_of_ble_eq_true rfl⟩ rfl rfl (Nat.le_of_ble_eq_true rfl) dX11_movesAll_119 (fun H locs hP hS => ?_)
  refine W.eq (g2 := F0 m 122 ls []) rfl ?_
  refine lv_aload_n hx hb dX11_movesAll_122 rfl (lv_at hl 0 rfl) ?_
  refine lv_aload_n hx hb dX11_movesAll_123 rfl (lv_at hl 0 rfl) ?_
  refine va_get (D := D) (ci := 11) (v := .ref (a 9)) (C := RX11) (T := TX11) (N := 76) hx hb hts inX11 hown hK hP 0 (heM_0 ca a t_14) rfl 8 (by decide) (hts _ kw_1200) (fun _ h9 => h9) rfl dX11_movesAll_124 ?_
  refine lv_iload_n hx hb dX11_movesAll_127 rfl (lv_at hl 1 rfl) ?_
  obtain ⟨t_15, g_128, hf⟩ := fb_vs hf
  refine fw_V1 (As := [.ref (a 9), .int x1]) (rest := []) (n := 2) (q0 := 0) C (c_M_X11_moves___0_9 (l := l) (D := D) (ca := ca) (a := a) g_128) kw_1772 kw_1774 kw_102 kw_1775 kw_88 hP hS hl (heM_0 ca a t_14) rfl rfl rfl (by decide) (by decide +kernel) ⟨Nat.le_of_ble_eq_true rfl, Nat.le_of_ble_eq_true rfl⟩ rfl rfl (Nat.le_of_ble_eq_true rfl) dX11_movesAll_128 (fun H locs hP hS => ?_)
  refine W.eq (g2 := F0 m 131 ls []) rfl ?_
  refine lv_aload_n hx hb dX11_movesAll_131 rfl (lv_at hl 0 rfl) ?_
  refine lv_aload_n hx hb dX11_movesAll_132 rfl (lv_at hl 0 rfl) ?_
  refine va_get (D := D) (ci := 11) (v := .ref (a 10)) (C := RX11) (T := TX11) (N := 76) hx hb hts inX11 hown hK hP 0 (heM_0 ca a t_15) rfl 9 (by decide) (hts _ kw_1201) (fun _ h9 => h9) rfl dX11_movesAll_133 ?_
  refine lv_iload_n hx hb dX11_movesAll_136 rfl (lv_at hl 1 rfl) ?_
  obtain ⟨t_16, g_137, hf⟩ := fb_vs hf
  refine fw_V1 (As := [.ref (a 10), .int x1]) (rest := []) (n := 2) (q0 := 0) C (c_M_X11_moves___0_10 (l := l) (D := D) (ca := ca) (a := a) g_137) kw_1772 kw_1774 kw_102 kw_1775 kw_88 hP hS hl (heM_0 ca a t_15) rfl rfl rfl (by decide) (by decide +kernel) ⟨Nat.le_of_ble_eq_true rfl, Nat.le_of_ble_eq_true rfl⟩ rfl rfl (Nat.le_of_ble_eq_true rfl) dX11_movesAll_137 (fun H locs hP hS => ?_)
  refine W.eq (g2 := F0 m 140 ls []) rfl ?_
  refine lv_aload_n hx hb dX11_movesAll_140 rfl (lv_at hl 0 rfl) ?_
  refine lv_aload_n hx hb dX11_movesAll_141 rfl (lv_at hl 0 rfl) ?_
  refine va_get (D := D) (ci := 11) (v := .ref (a 36)) (C := RX11) (T := TX11) (N := 76) hx hb hts inX11 hown hK hP 0 (heM_0 ca a t_16) rfl 53 (by decide) (hts _ kw_1245) (fun _ h9 => h9) rfl dX11_movesAll_142 ?_
  refine lv_iload_n hx hb dX11_movesAll_145 rfl (lv_at hl 1 rfl) ?_
  obtain ⟨t_17, g_146, hf⟩ := fb_vs hf
  refine fw_V1 (As := [.ref (a 36), .int x1]) (rest := []) (n := 2) (q0 := 0) C (c_M_X11_moves__0_36 (l := l) (D := D) (ca := ca) (a := a) g_146) kw_1768 kw_1770 kw_102 kw_1771 kw_87 hP hS hl (heM_0 ca a t_16) rfl rfl rfl (by decide) (by decide +kernel) ⟨Nat.le_of_ble_eq_true rfl, Nat.le_of_ble_eq_true rfl⟩ rfl rfl (Nat.le_of_ble_eq_true rfl) dX11_movesAll_146 (fun H locs hP hS => ?_)
  refine W.eq (g2 := F0 m 149 ls []) rfl ?_
  refine lv_aload_n hx hb dX11_movesAll_149 rfl (lv_at hl 0 rfl) ?_
  refine lv_aload_n hx hb dX11_movesAll_150 rfl (lv_at hl 0 rfl) ?_
  refine va_get (D := D) (ci := 11) (v := .ref (a 37)) (C := RX11) (T := TX11) (N := 76) hx hb hts inX11 hown hK hP 0 (heM_0 ca a t_17) rfl 54 (by decide) (hts _ kw_1246) (fun _ h9 => h9) rfl dX11_movesAll_151 ?_
  refine lv_iload_n hx hb dX11_movesAll_154 rfl (lv_at hl 1 rfl) ?_
  obtain ⟨t_18, g_155, hf⟩ := fb_vs hf
  refine fw_V1 (As := [.ref (a 37), .int x1]) (rest := []) (n := 2) (q0 := 0) C (c_M_X11_moves__0_37 (l := l) (D := D) (ca := ca) (a := a) g_155) kw_1768 kw_1770 kw_102 kw_1771 kw_87 hP hS hl (heM_0 ca a t_17) rfl rfl rfl (by decide) (by decide +kernel) ⟨Nat.le_of_ble_eq_true rfl, Nat.le_of_ble_eq_true rfl⟩ rfl rfl (Nat.le_of_ble_eq_true rfl) dX11_movesAll_155 (fun H locs hP hS => ?_)
  refine W.eq (g2 := F0 m 158 ls []) rfl ?_
  refine lv_aload_n hx hb dX11_movesAll_158 rfl (lv_at hl 0 rfl) ?_
  refine lv_aload_n hx hb dX11_movesAll_159 rfl (lv_at hl 0 rfl) ?_
  refine va_get (D := D) (ci := 11) (v := .ref (a 41)) (C := RX11) (T := TX11) (N := 76) hx hb hts inX11 hown hK hP 0 (heM_0 ca a t_18) rfl 58 (by decide) (hts _ kw_1250) (fun _ h9 => h9) rfl dX11_movesAll_160 ?_
  refine lv_iload_n hx hb dX11_movesAll_163 rfl (lv_at hl 1 rfl) ?_
  obtain ⟨t_19, g_164, hf⟩ := fb_vs hf
  refine fw_V1 (As := [.ref (a 41), .int x1]) (rest := []) (n := 2) (q0 := 0) C (c_M_X11_moves___0_41 (l := l) (D := D) (ca := ca) (a := a) g_164) kw_1772 kw_1774 kw_102 kw_1775 kw_88 hP hS hl (heM_0 ca a t_18) rfl rfl rfl (by decide) (by decide +kernel) ⟨Nat.le_of_ble_eq_true rfl, Nat.le_of_ble_eq_true rfl⟩ rfl rfl (Nat.le_of_ble_eq_true rfl) dX11_movesAll_164 (fun H locs hP hS => ?_)
  refine W.eq (g2 := F0 m 167 ls []) rfl ?_
  refine lv_aload_n hx hb dX11_movesAll_167 rfl (lv_at hl 0 rfl) ?_
  refine lv_aload_n hx hb dX11_movesAll_168 rfl (lv_at hl 0 rfl) ?_
  refine va_get (D := D) (ci := 11) (v := .ref (a 38)) (C := RX11) (T := TX11) (N := 76) hx hb hts inX11 hown hK hP 0 (heM_0 ca a t_19) rfl 55 (by decide) (hts _ kw_1247) (fun _ h9 => h9) rfl dX11_movesAll_169 ?_
  refine lv_iload_n hx hb dX11_movesAll_172 rfl (lv_at hl 1 rfl) ?_
  obtain ⟨t_20, g_173, hf⟩ := fb_vs hf
  refine fw_V1 (As := [.ref (a 38), .int x1]) (rest := []) (n := 2) (q0 := 0) C (c_M_X11_moves__0_38 (l := l) (D := D) (ca := ca) (a := a) g_173) kw_1768 kw_1770 kw_102 kw_1771 kw_87 hP hS hl (heM_0 ca a t_19) rfl rfl rfl (by decide) (by decide +kernel) ⟨Nat.le_of_ble_eq_true rfl, Nat.le_of_ble_eq_true rfl⟩ rfl rfl (Nat.le_of_ble_eq_true rfl) dX11_movesAll_173 (fun H locs hP hS => ?_)
  refine W.eq (g2 := F0 m 176 ls []) rfl ?_
  refine lv_aload_n hx hb dX11_movesAll_176 rfl (lv_at hl 0 rfl) ?_
  refine lv_aload_n hx hb dX11_movesAll_177 rfl (lv_at hl 0 rfl) ?_
  refine va_get (D := D) (ci := 11) (v := .ref (a 39)) (C := RX11) (T := TX11) (N := 76) hx hb hts inX11 hown hK hP 0 (heM_0 ca a t_20) rfl 56 (by decide) (hts _ kw_1248) (fun _ h9 => h9) rfl dX11_movesAll_178 ?_
  refine lv_iload_n hx hb dX11_movesAll_181 rfl (lv_at hl 1 rfl) ?_
  obtain ⟨t_21, g_182, hf⟩ := fb_vs hf
  refine fw_V1 (As := [.ref (a 39), .int x1]) (rest := []) (n := 2) (q0 := 0) C (c_M_X11_moves__0_39 (l := l) (D := D) (ca := ca) (a := a) g_182) kw_1768 kw_1770 kw_102 kw_1771 kw_87 hP hS hl (heM_0 ca a t_20) rfl rfl rfl (by decide) (by decide +kernel) ⟨Nat.le_of_ble_eq_true rfl, Nat.le_of_ble_eq_true rfl⟩ rfl rfl (Nat.le_of_ble_eq_true rfl) dX11_movesAll_182 (fun H locs hP hS => ?_)
  refine W.eq (g2 := F0 m 185 ls []) rfl ?_
  refine lv_aload_n hx hb dX11_movesAll_185 rfl (lv_at hl 0 rfl) ?_
  refine lv_aload_n hx hb dX11_movesAll_186 rfl (lv_at hl 0 rfl) ?_
  refine va_get (D := D) (ci := 11) (v := .ref (a 40)) (C := RX11) (T := TX11) (N := 76) hx hb hts inX11 hown hK hP 0 (heM_0 ca a t_21) rfl 57 (by decide) (hts _ kw_1249) (fun _ h9 => h9) rfl dX11_movesAll_187 ?_
  refine lv_iload_n hx hb dX11_movesAll_190 rfl (lv_at hl 1 rfl) ?_
  obtain ⟨t_22, g_191, hf⟩ := fb_vs hf
  refine fw_V1 (As := [.ref (a 40), .int x1]) (rest := []) (n := 2) (q0 := 0) C (c_M_X11_moves__0_40 (l := l) (D := D) (ca := ca) (a := a) g_191) kw_1768 kw_1770 kw_102 kw_1771 kw_87 hP hS hl (heM_0 ca a t_21) rfl rfl rfl (by decide) (by decide +kernel) ⟨Nat.le_of_ble_eq_true rfl, Nat.le_of_ble_eq_true rfl⟩ rfl rfl (Nat.le_of_ble_eq_true rfl) dX11_movesAll_191 (fun H locs hP hS => ?_)
  refine W.eq (g2 := F0 m 194 ls []) rfl ?_
  refine lv_aload_n hx hb dX11_movesAll_194 rfl (lv_at hl 0 rfl) ?_
  refine lv_aload_n hx hb dX11_movesAll_195 rfl (lv_at hl 0 rfl) ?_
  refine va_get (D := D) (ci := 11) (v := .ref (a 7)) (C := RX11) (T := TX11) (N := 76) hx hb hts inX11 hown hK hP 0 (heM_0 ca a t_22) rfl 6 (by decide) (hts _ kw_1198) (fun _ h9 => h9) rfl dX11_movesAll_196 ?_
  refine lv_iload_n hx hb dX11_movesAll_199 rfl (lv_at hl 1 rfl) ?_
  obtain ⟨t_23, g_200, hf⟩ := fb_vs hf
  refine fw_V1 (As := [.ref (a 7), .int x1]) (rest := []) (n := 2) (q0 := 0) C (c_M_X11_moves____0_7 (l := l) (D := D) (ca := ca) (a := a) g_200) kw_1776 kw_1778 kw_102 kw_1779 kw_89 hP hS hl (heM_0 ca a t_22) rfl rfl rfl (by decide) (by decide +kernel) ⟨Nat.le_of_ble_eq_true rfl, Nat.le_of_ble_eq_true rfl⟩ rfl rfl (Nat.le_of_ble_eq_true rfl) dX11_movesAll_200 (fun H locs hP hS => ?_)
  refine W.eq (g2 := F0 m 203 ls []) rfl ?_
  refine lv_aload_n hx hb dX11_movesAll_203 rfl (lv_at hl 0 rfl) ?_
  refine lv_aload_n hx hb dX11_movesAll_204 rfl (lv_at hl 0 rfl) ?_
  refine va_get (D := D) (ci := 11) (v := .ref (a 42)) (C := RX11) (T := TX11) (N := 76) hx hb hts inX11 hown hK hP 0 (heM_0 ca a t_23) rfl 59 (by decide) (hts _ kw_1251) (fun _ h9 => h9) rfl dX11_movesAll_205 ?_
  refine lv_iload_n hx hb dX11_movesAll_208 rfl (lv_at hl 1 rfl) ?_
  obtain ⟨t_24, g_209, hf⟩ := fb_vs hf
  refine fw_V1 (As := [.ref (a 42), .int x1]) (rest := []) (n := 2) (q0 := 0) C (c_M_X11_moves____0_42 (l := l) (D := D) (ca := ca) (a := a) g_209) kw_1776 kw_1778 kw_102 kw_1779 kw_89 hP hS hl (heM_0 ca a t_23) rfl rfl rfl (by decide) (by decide +kernel) ⟨Nat.le_of_ble_eq_true rfl, Nat.le_of_ble_eq_true rfl⟩ rfl rfl (Nat.le_of_ble_eq_true rfl) dX11_movesAll_209 (fun H locs hP hS => ?_)
  refine W.eq (g2 := F0 m 212 ls []) rfl ?_
  refine lv_aload_n hx hb dX11_movesAll_212 rfl (lv_at hl 0 rfl) ?_
  refine lv_aload_n hx hb dX11_movesAll_213 rfl (lv_at hl 0 rfl) ?_
  refine va_get (D := D) (ci := 11) (v := .ref (a 43)) (C := RX11) (T := TX11) (N := 76) hx hb hts inX11 hown hK hP 0 (heM_0 ca a t_24) rfl 60 (by decide) (hts _ kw_1252) (fun _ h9 => h9) rfl dX11_movesAll_214 ?_
  refine lv_iload_n hx hb dX11_movesAll_217 rfl (lv_at hl 1 rfl) ?_
  obtain ⟨t_25, g_218, hf⟩ := fb_vs hf
  refine fw_V1 (As := [.ref (a 43), .int x1]) (rest := []) (n := 2) (q0 := 0) C (c_M_X11_moves____0_43 (l := l) (D := D) (ca := ca) (a := a) g_218) kw_1776 kw_1778 kw_102 kw_1779 kw_89 hP hS hl (heM_0 ca a t_24) rfl rfl rfl (by decide) (by decide +kernel) ⟨Nat.le_of_ble_eq_true rfl, Nat.le_of_ble_eq_true rfl⟩ rfl rfl (Nat.le_of_ble_eq_true rfl) dX11_movesAll_218 (fun H locs hP hS => ?_)
  refine W.eq (g2 := F0 m 221 ls []) rfl ?_
  refine lv_aload_n hx hb dX11_movesAll_221 rfl (lv_at hl 0 rfl) ?_
  refine lv_aload_n hx hb dX11_movesAll_222 rfl (lv_at hl 0 rfl) ?_
  refine va_get (D := D) (ci := 11) (v := .ref (a 44)) (C := RX11) (T := TX11) (N := 76) hx hb hts inX11 hown hK hP 0 (heM_0 ca a t_25) rfl 61 (by decide) (hts _ kw_1253) (fun _ h9 => h9) rfl dX11_movesAll_223 ?_
  refine lv_iload_n hx hb dX11_movesAll_226 rfl (lv_at hl 1 rfl) ?_
  obtain ⟨t_26, g_227, hf⟩ := fb_vs hf
  refine fw_V1 (As := [.ref (a 44), .int x1]) (rest := []) (n := 2) (q0 := 0) C (c_M_X11_moves____0_44 (l := l) (D := D) (ca := ca) (a := a) g_227) kw_1776 kw_1778 kw_102 kw_1779 kw_89 hP hS hl (heM_0 ca a t_25) rfl rfl rfl (by decide) (by decide +kernel) ⟨Nat.le_of_ble_eq_true rfl, Nat.le_of_ble_eq_true rfl⟩ rfl rfl (Nat.le_of_ble_eq_true rfl) dX11_movesAll_227 (fun H locs hP hS => ?_)
  refine W.eq (g2 := F0 m 230 ls []) rfl ?_
  refine lv_iconst (v := 0) hx hb dX11_movesAll_230 (by decide) ?_
  refine lv_istore_n (lv' := [(2, .int ((0 : Int32))), (0, .ref (a 0)), (1, .int x1)]) hx hb dX11_movesAll_231 rfl hl (by decide) rfl (fun ls hl => ?_)
  exact w_M_X11_movesAll__0_232 C hr 3000 t_26 x1 ((0 : Int32)) _ _ _ hf hP hS (lv_sub hl [1, 2, 0] rfl)
set_option maxRecDepth 20000 in
theorem c_M_X11_movesAll__0 {l : Launch} {D : va_G} {ca : Nat → ClassId} {a : Nat → Nat} {t : fw_S} {x1 : Int32} {u : fw_S} (hf : f_M_X11_movesAll__0 t x1 = some u) : MC (WM ca a) D (tyv ca) l yX11_movesAll (.code yX11_movesAll prog_13_method_91_code 3 none :: lw_gd) rm_M_X11_movesAll__0 [.ref (a 0), .int x1] none t u := by
  refine fw_met (okM ca a) (by decide +kernel) rfl rfl (Nat.le_of_ble_eq_true rfl) ?_
  intro p e s m args below meth c A Q ls C hr hk hP hS hl hQ
  exact w_M_X11_movesAll__0_0 C (fun _ => fw_rv C hr hk hQ) hf hP hS (lv_sub hl [0, 1] rfl)
/-! ReactiveSheetModel.present()I ['m'] -/
abbrev rm_M_X11_present__0 : Room := { frames := 0, cells := 0, slots := 0, locals := 0 }
def b_M_X11_present__0_33  (t : fw_S) (x1 : Int32) : Option (Int32 × fw_S) := some (x1, t)
def b_M_X11_present__0_25 (k4 : fw_S → Int32 → Int32 → Option (Int32 × fw_S)) (t : fw_S) (x2 : Int32) (z0 : Int32) (z1 : Int32) : Option (Int32 × fw_S) := k4 t (z0 + z1) (x2 + 1)
def b_M_X11_present__0_24 (k4 : fw_S → Int32 → Int32 → Option (Int32 × fw_S)) (t : fw_S) (x2 : Int32) (z0 : Int32) : Option (Int32 × fw_S) := b_M_X11_present__0_25 k4 t x2 z0 ((0 : Int32))
def b_M_X11_present__0_20 (k4 : fw_S → Int32 → Int32 → Option (Int32 × fw_S)) (t : fw_S) (x2 : Int32) (z0 : Int32) : Option (Int32 × fw_S) := b_M_X11_present__0_25 k4 t x2 z0 ((1 : Int32))
def b_M_X11_present__0_10 (k4 : fw_S → Int32 → Int32 → Option (Int32 × fw_S)) (t : fw_S) (x1 : Int32) (x2 : Int32) : Option (Int32 × fw_S) := fb_g (¬ (x2 < 0 ∨ 32 ≤ x2.toNatClampNeg)) (if (st_F t 0 x2.toNatClampNeg) = 0 then b_M_X11_present__0_24 k4 t x2 x1 else b_M_X11_present__0_20 k4 t x2 x1)
def b_M_X11_present__0_4  : Nat → (fw_S → Int32 → Int32 → Option (Int32 × fw_S))
  | 0 => fun _ _ _ => none
  | n + 1 => fun t x1 x2 => if ((32 : Int32)) ≤ x2 then b_M_X11_present__0_33 t x1 else b_M_X11_present__0_10 (b_M_X11_present__0_4 n) t x1 x2
def b_M_X11_present__0_0  (t : fw_S)  : Option (Int32 × fw_S) := b_M_X11_present__0_4 3000 t ((0 : Int32)) ((0 : Int32))
def f_M_X11_present__0 (t : fw_S)  : Option (Int32 × fw_S) := b_M_X11_present__0_0 t 
set_option maxRecDepth 20000 in
theorem w_M_X11_present__0_33 {p : Program} {l : Launch} {e : Env} {s : State} {m : MethodId} {args : Array Value} {below : List Frame} {meth : Method} {c : Code} {A : Nat → Prop} {Q : State → Prop} {D : va_G} {ca : Nat → ClassId} {a : Nat → Nat} {u : fw_S} {r : Int32}  (C : CX (WM ca a) D (tyv ca) p s m args c A prog_13_method_87_code 3 RX11) (hr : True → RX (WM ca a) D p l e rm_M_X11_present__0 s m args below meth c A prog_13_method_87_code Q .ireturn [.int r] u) {t : fw_S} {x1 : Int32} {H : Heap} {locs : List Loc} {ls : Array Slot} (hf : b_M_X11_present__0_33  t x1 = some (r, u)) (hP : va_P D classes (WM ca a t) H) (hS : va_S A s.heap H locs) (hl : lv_has ls 3 [(1, .int x1)]) : W p l e rm_M_X11_present__0 s m args below meth c H locs 0 0 Q (F0 m 33 ls []) := by
  obtain ⟨hx, hb, hml, hown, hts, hN, hK, hD, hA⟩ := id C
  have hf : (some (x1, t)) = some (r, u) := hf
  refine lv_iload_n hx hb dX11_present_33 rfl (lv_at hl 0 rfl) ?_
  obtain ⟨e_34, e2_34⟩ := fb_e hf
  subst e_34; subst e2_34
  exact hr trivial _ _ _ _ hP hS dX11_present_34
set_option maxRecDepth 20000 in
theorem w_M_X11_present__0_25 {p : Program} {l : Launch} {e : Env} {s : State} {m : MethodId} {args : Array Value} {below : List Frame} {meth : Method} {c : Code} {A : Nat → Prop} {Q : State → Prop} {D : va_G} {ca : Nat → ClassId} {a : Nat → Nat} {u : fw_S} {r : Int32} {k4 : fw_S → Int32 → Int32 → Option (Int32 × fw_S)} (C : CX (WM ca a) D (tyv ca) p s m args c A prog_13_method_87_code 3 RX11) (hr : True → RX (WM ca a) D p l e rm_M_X11_present__0 s m args below meth c A prog_13_method_87_code Q .ireturn [.int r] u) (hk4 : ∀ (t : fw_S) (x1 : Int32) (x2 : Int32) (H : Heap) (locs : List Loc) (ls : Array Slot), k4 t x1 x2 = some (r, u) → va_P D classes (WM ca a t) H → va_S A s.heap H locs → lv_has ls 3 [(0, .ref (a 0)), (1, .int x1), (2, .int x2)] → W p l e rm_M_X11_present__0 s m args below meth c H locs 0 0 Q (F0 m 4 ls [])) {t : fw_S} {x2 : Int32} {z0 : Int32} {z1 : Int32} {H : Heap} {locs : List Loc} {ls : Array Slot} (hf : b_M_X11_present__0_25 k4 t x2 z0 z1 = some (r, u)) (hP : va_P D classes (WM ca a t) H) (hS : va_S A s.heap H locs) (hl : lv_has ls 3 [(0, .ref (a 0)), (2, .int x2)]) : W p l e rm_M_X11_present__0 s m args below meth c H locs 0 0 Q (F0 m 25 ls [.int z1, .int z0]) := by
  obtain ⟨hx, hb, hml, hown, hts, hN, hK, hD, hA⟩ := id C
  have hf : (k4 t (z0 + z1) (x2 + 1)) = some (r, u) := hf
  refine lv_iadd hx hb dX11_present_25 ?_
  refine lv_istore_n (lv' := [(1, .int (z0 + z1)), (0, .ref (a 0)), (2, .int x2)]) hx hb dX11_present_26 rfl hl (by decide) rfl (fun ls hl => ?_)
  refine lv_iinc (v := x2 + 1) (lv' := [(2, .int (x2 + 1)), (1, .int (z0 + z1)), (0, .ref (a 0))]) hx hb dX11_present_27 hl (k := 2) rfl rfl (by decide) rfl (fun ls hl => ?_)
  refine lv_goto (tgt := 4) hx hb dX11_present_30 (by decide) ?_
  exact hk4 t (z0 + z1) (x2 + 1) _ _ _ hf hP hS (lv_sub hl [2, 1, 0] rfl)
set_option maxRecDepth 20000 in
theorem w_M_X11_present__0_24 {p : Program} {l : Launch} {e : Env} {s : State} {m : MethodId} {args : Array Value} {below : List Frame} {meth : Method} {c : Code} {A : Nat → Prop} {Q : State → Prop} {D : va_G} {ca : Nat → ClassId} {a : Nat → Nat} {u : fw_S} {r : Int32} {k4 : fw_S → Int32 → Int32 → Option (Int32 × fw_S)} (C : CX (WM ca a) D (tyv ca) p s m args c A prog_13_method_87_code 3 RX11) (hr : True → RX (WM ca a) D p l e rm_M_X11_present__0 s m args below meth c A prog_13_method_87_code Q .ireturn [.int r] u) (hk4 : ∀ (t : fw_S) (x1 : Int32) (x2 : Int32) (H : Heap) (locs : List Loc) (ls : Array Slot), k4 t x1 x2 = some (r, u) → va_P D classes (WM ca a t) H → va_S A s.heap H locs → lv_has ls 3 [(0, .ref (a 0)), (1, .int x1), (2, .int x2)] → W p l e rm_M_X11_present__0 s m args below meth c H locs 0 0 Q (F0 m 4 ls [])) {t : fw_S} {x2 : Int32} {z0 : Int32} {H : Heap} {locs : List Loc} {ls : Array Slot} (hf : b_M_X11_present__0_24 k4 t x2 z0 = some (r, u)) (hP : va_P D classes (WM ca a t) H) (hS : va_S A s.heap H locs) (hl : lv_has ls 3 [(0, .ref (a 0)), (2, .int x2)]) : W p l e rm_M_X11_present__0 s m args below meth c H locs 0 0 Q (F0 m 24 ls [.int z0]) := by
  obtain ⟨hx, hb, hml, hown, hts, hN, hK, hD, hA⟩ := id C
  have hf : (b_M_X11_present__0_25 k4 t x2 z0 ((0 : Int32))) = some (r, u) := hf
  refine lv_iconst (v := 0) hx hb dX11_present_24 (by decide) ?_
  exact w_M_X11_present__0_25 C hr hk4 hf hP hS (lv_sub hl [0, 1] rfl)
set_option maxRecDepth 20000 in
theorem w_M_X11_present__0_20 {p : Program} {l : Launch} {e : Env} {s : State} {m : MethodId} {args : Array Value} {below : List Frame} {meth : Method} {c : Code} {A : Nat → Prop} {Q : State → Prop} {D : va_G} {ca : Nat → ClassId} {a : Nat → Nat} {u : fw_S} {r : Int32} {k4 : fw_S → Int32 → Int32 → Option (Int32 × fw_S)} (C : CX (WM ca a) D (tyv ca) p s m args c A prog_13_method_87_code 3 RX11) (hr : True → RX (WM ca a) D p l e rm_M_X11_present__0 s m args below meth c A prog_13_method_87_code Q .ireturn [.int r] u) (hk4 : ∀ (t : fw_S) (x1 : Int32) (x2 : Int32) (H : Heap) (locs : List Loc) (ls : Array Slot), k4 t x1 x2 = some (r, u) → va_P D classes (WM ca a t) H → va_S A s.heap H locs → lv_has ls 3 [(0, .ref (a 0)), (1, .int x1), (2, .int x2)] → W p l e rm_M_X11_present__0 s m args below meth c H locs 0 0 Q (F0 m 4 ls [])) {t : fw_S} {x2 : Int32} {z0 : Int32} {H : Heap} {locs : List Loc} {ls : Array Slot} (hf : b_M_X11_present__0_20 k4 t x2 z0 = some (r, u)) (hP : va_P D classes (WM ca a t) H) (hS : va_S A s.heap H locs) (hl : lv_has ls 3 [(0, .ref (a 0)), (2, .int x2)]) : W p l e rm_M_X11_present__0 s m args below meth c H locs 0 0 Q (F0 m 20 ls [.int z0]) := by
  obtain ⟨hx, hb, hml, hown, hts, hN, hK, hD, hA⟩ := id C
  have hf : (b_M_X11_present__0_25 k4 t x2 z0 ((1 : Int32))) = some (r, u) := hf
  refine lv_iconst (v := 1) hx hb dX11_present_20 (by decide) ?_
  refine lv_goto (tgt := 25) hx hb dX11_present_21 (by decide) ?_
  exact w_M_X11_present__0_25 C hr hk4 hf hP hS (lv_sub hl [0, 1] rfl)
set_option maxRecDepth 20000 in
theorem w_M_X11_present__0_10 {p : Program} {l : Launch} {e : Env} {s : State} {m : MethodId} {args : Array Value} {below : List Frame} {meth : Method} {c : Code} {A : Nat → Prop} {Q : State → Prop} {D : va_G} {ca : Nat → ClassId} {a : Nat → Nat} {u : fw_S} {r : Int32} {k4 : fw_S → Int32 → Int32 → Option (Int32 × fw_S)} (C : CX (WM ca a) D (tyv ca) p s m args c A prog_13_method_87_code 3 RX11) (hr : True → RX (WM ca a) D p l e rm_M_X11_present__0 s m args below meth c A prog_13_method_87_code Q .ireturn [.int r] u) (hk4 : ∀ (t : fw_S) (x1 : Int32) (x2 : Int32) (H : Heap) (locs : List Loc) (ls : Array Slot), k4 t x1 x2 = some (r, u) → va_P D classes (WM ca a t) H → va_S A s.heap H locs → lv_has ls 3 [(0, .ref (a 0)), (1, .int x1), (2, .int x2)] → W p l e rm_M_X11_present__0 s m args below meth c H locs 0 0 Q (F0 m 4 ls [])) {t : fw_S} {x1 : Int32} {x2 : Int32} {H : Heap} {locs : List Loc} {ls : Array Slot} (hf : b_M_X11_present__0_10 k4 t x1 x2 = some (r, u)) (hP : va_P D classes (WM ca a t) H) (hS : va_S A s.heap H locs) (hl : lv_has ls 3 [(0, .ref (a 0)), (1, .int x1), (2, .int x2)]) : W p l e rm_M_X11_present__0 s m args below meth c H locs 0 0 Q (F0 m 10 ls []) := by
  obtain ⟨hx, hb, hml, hown, hts, hN, hK, hD, hA⟩ := id C
  have hf : (fb_g (¬ (x2 < 0 ∨ 32 ≤ x2.toNatClampNeg)) (if (st_F t 0 x2.toNatClampNeg) = 0 then b_M_X11_present__0_24 k4 t x2 x1 else b_M_X11_present__0_20 k4 t x2 x1)) = some (r, u) := hf
  refine lv_iload_n hx hb dX11_present_10 rfl (lv_at hl 1 rfl) ?_
  refine lv_aload_n hx hb dX11_present_11 rfl (lv_at hl 0 rfl) ?_
  refine va_get (D := D) (ci := 11) (v := .ref (a 1)) (C := RX11) (T := TX11) (N := 76) hx hb hts inX11 hown hK hP 0 (heM_0 ca a t) rfl 0 (by decide) (hts _ kw_1192) (fun _ h9 => h9) rfl dX11_present_12 ?_
  refine lv_iload_n hx hb dX11_present_15 rfl (lv_at hl 2 rfl) ?_
  obtain ⟨h_16, hf⟩ := fb_if hf
  refine va_iald hx hb hK hP 1 0 (haM_1 ca a t) rfl h_16 dX11_present_16 ?_
  refine lv_if_eq (tgt := 24) hx hb dX11_present_17 (by decide) (fun h_17 => ?_) (fun h_17 => ?_)
  · have hf := fb_t h_17 hf
    exact w_M_X11_present__0_24 C hr hk4 hf hP hS (lv_sub hl [0, 2] rfl)
  · have hf := fb_f h_17 hf
    exact w_M_X11_present__0_20 C hr hk4 hf hP hS (lv_sub hl [0, 2] rfl)
set_option maxRecDepth 20000 in
theorem w_M_X11_present__0_4 {p : Program} {l : Launch} {e : Env} {s : State} {m : MethodId} {args : Array Value} {below : List Frame} {meth : Method} {c : Code} {A : Nat → Prop} {Q : State → Prop} {D : va_G} {ca : Nat → ClassId} {a : Nat → Nat} {u : fw_S} {r : Int32}  (C : CX (WM ca a) D (tyv ca) p s m args c A prog_13_method_87_code 3 RX11) (hr : True → RX (WM ca a) D p l e rm_M_X11_present__0 s m args below meth c A prog_13_method_87_code Q .ireturn [.int r] u) : ∀ (n : Nat) (t : fw_S) (x1 : Int32) (x2 : Int32) (H : Heap) (locs : List Loc) (ls : Array Slot), b_M_X11_present__0_4  n t x1 x2 = some (r, u) → va_P D classes (WM ca a t) H → va_S A s.heap H locs → lv_has ls 3 [(0, .ref (a 0)), (1, .int x1), (2, .int x2)] → W p l e rm_M_X11_present__0 s m args below meth c H locs 0 0 Q (F0 m 4 ls []) := by
  obtain ⟨hx, hb, hml, hown, hts, hN, hK, hD, hA⟩ := id C
  intro n
  induction n with
  | zero => intro t x1 x2 H locs ls hf; cases hf
  | succ n hk4 =>
    intro t x1 x2 H locs ls hf hP hS hl
    have hf : (if ((32 : Int32)) ≤ x2 then b_M_X11_present__0_33 t x1 else b_M_X11_present__0_10 (b_M_X11_present__0_4 n) t x1 x2) = some (r, u) := hf
    refine lv_iload_n hx hb dX11_present_4 rfl (lv_at hl 2 rfl) ?_
    refine lv_bipush (v := 32) hx hb dX11_present_5 (by decide) ?_
    refine lv_icmp_ge (tgt := 33) hx hb dX11_present_7 (by decide) (fun h_7 => ?_) (fun h_7 => ?_)
    · have hf := fb_t h_7 hf
      exact w_M_X11_present__0_33 C hr hf hP hS (lv_sub hl [1] rfl)
    · have hf := fb_f h_7 hf
      exact w_M_X11_present__0_10 C hr hk4 hf hP hS (lv_sub hl [0, 1, 2] rfl)
set_option maxRecDepth 20000 in
theorem w_M_X11_present__0_0 {p : Program} {l : Launch} {e : Env} {s : State} {m : MethodId} {args : Array Value} {below : List Frame} {meth : Method} {c : Code} {A : Nat → Prop} {Q : State → Prop} {D : va_G} {ca : Nat → ClassId} {a : Nat → Nat} {u : fw_S} {r : Int32}  (C : CX (WM ca a) D (tyv ca) p s m args c A prog_13_method_87_code 3 RX11) (hr : True → RX (WM ca a) D p l e rm_M_X11_present__0 s m args below meth c A prog_13_method_87_code Q .ireturn [.int r] u) {t : fw_S}  {H : Heap} {locs : List Loc} {ls : Array Slot} (hf : b_M_X11_present__0_0  t  = some (r, u)) (hP : va_P D classes (WM ca a t) H) (hS : va_S A s.heap H locs) (hl : lv_has ls 3 [(0, .ref (a 0))]) : W p l e rm_M_X11_present__0 s m args below meth c H locs 0 0 Q (F0 m 0 ls []) := by
  obtain ⟨hx, hb, hml, hown, hts, hN, hK, hD, hA⟩ := id C
  have hf : (b_M_X11_present__0_4 3000 t ((0 : Int32)) ((0 : Int32))) = some (r, u) := hf
  refine lv_iconst (v := 0) hx hb dX11_present_0 (by decide) ?_
  refine lv_istore_n (lv' := [(1, .int ((0 : Int32))), (0, .ref (a 0))]) hx hb dX11_present_1 rfl hl (by decide) rfl (fun ls hl => ?_)
  refine lv_iconst (v := 0) hx hb dX11_present_2 (by decide) ?_
  refine lv_istore_n (lv' := [(2, .int ((0 : Int32))), (1, .int ((0 : Int32))), (0, .ref (a 0))]) hx hb dX11_present_3 rfl hl (by decide) rfl (fun ls hl => ?_)
  exact w_M_X11_present__0_4 C hr 3000 t ((0 : Int32)) ((0 : Int32)) _ _ _ hf hP hS (lv_sub hl [2, 1, 0] rfl)
set_option maxRecDepth 20000 in
theorem c_M_X11_present__0 {l : Launch} {D : va_G} {ca : Nat → ClassId} {a : Nat → Nat} {t : fw_S}  {u : fw_S} {r : Int32} (hf : f_M_X11_present__0 t  = some (r, u)) : MC (WM ca a) D (tyv ca) l yX11_present (.code yX11_present prog_13_method_87_code 3 (some .int) :: lw_gd) rm_M_X11_present__0 [.ref (a 0)] (some (.int r)) t u := by
  refine fw_met (okM ca a) (by decide +kernel) rfl rfl (Nat.le_of_ble_eq_true rfl) ?_
  intro p e s m args below meth c A Q ls C hr hk hP hS hl hQ
  exact w_M_X11_present__0_0 C (fun _ => fw_ri C hr hk hQ) hf hP hS (lv_sub hl [0] rfl)
/-! ReactiveSheetModel.image()I ['m'] -/
abbrev rm_M_X11_image__0 : Room := { frames := 2, cells := 0, slots := 0, locals := 45 }
def b_M_X11_image__0_10  (t : fw_S)  : Option (Int32 × fw_S) := fb_g (((1 : Int32)) = 0 ∨ ((1 : Int32)) = 1) (fb_l (up_I t 18 ((1 : Int32))) fun t_1 => (fb_v (f_M_X11_movesAll__0 t_1 ((1 : Int32))) fun t_2 => (fb_b (f_M_X11_present__0 t_2) fun v_4 t_3 => (some (v_4, t_3)))))
def b_M_X11_image__0_7  (t : fw_S)  : Option (Int32 × fw_S) := some ((-3 : Int32), t)
def b_M_X11_image__0_0  (t : fw_S)  : Option (Int32 × fw_S) := if (st_I t 0) = 0 then b_M_X11_image__0_10 t else b_M_X11_image__0_7 t
def f_M_X11_image__0 (t : fw_S)  : Option (Int32 × fw_S) := b_M_X11_image__0_0 t 
set_option maxRecDepth 20000 in
theorem w_M_X11_image__0_10 {p : Program} {l : Launch} {e : Env} {s : State} {m : MethodId} {args : Array Value} {below : List Frame} {meth : Method} {c : Code} {A : Nat → Prop} {Q : State → Prop} {D : va_G} {ca : Nat → ClassId} {a : Nat → Nat} {u : fw_S} {r : Int32}  (C : CX (WM ca a) D (tyv ca) p s m args c A prog_13_method_92_code 1 RX11) (hr : True → RX (WM ca a) D p l e rm_M_X11_image__0 s m args below meth c A prog_13_method_92_code Q .ireturn [.int r] u) {t : fw_S}  {H : Heap} {locs : List Loc} {ls : Array Slot} (hf : b_M_X11_image__0_10  t  = some (r, u)) (hP : va_P D classes (WM ca a t) H) (hS : va_S A s.heap H locs) (hl : lv_has ls 1 [(0, .ref (a 0))]) : W p l e rm_M_X11_image__0 s m args below meth c H locs 0 0 Q (F0 m 10 ls []) := by
  obtain ⟨hx, hb, hml, hown, hts, hN, hK, hD, hA⟩ := id C
  have hf : (fb_g (((1 : Int32)) = 0 ∨ ((1 : Int32)) = 1) (fb_l (up_I t 18 ((1 : Int32))) fun t_1 => (fb_v (f_M_X11_movesAll__0 t_1 ((1 : Int32))) fun t_2 => (fb_b (f_M_X11_present__0 t_2) fun v_4 t_3 => (some (v_4, t_3)))))) = some (r, u) := hf
  refine lv_aload_n hx hb dX11_image_10 rfl (lv_at hl 0 rfl) ?_
  refine lv_iconst (v := 1) hx hb dX11_image_11 (by decide) ?_
  obtain ⟨h_12, hf⟩ := fb_if hf
  refine va_put (D := D) (ci := 11) (v := .int ((1 : Int32))) (ty := .boolean) (C := RX11) (T := TX11) (N := 76) hx hb hts inX11 tyX11 tyX11_ok nmX11 hown hK hP (hD t) hS 0 (heM_0 ca a t) rfl 65 (by decide) (hts _ kw_1257) (fun _ h9 => h9) rfl (by decide +kernel) (fb_z h_12).1 (fb_z h_12).2 (Nat.le_of_ble_eq_true rfl) dX11_image_12 (fun H locs hP _ hS => ?_)
  rw [suM_0_65] at hP
  obtain ⟨t_1, e_12, hf⟩ := fb_ls hf
  rw [← e_12] at hP
  refine lv_aload_n hx hb dX11_image_15 rfl (lv_at hl 0 rfl) ?_
  refine lv_iconst (v := 1) hx hb dX11_image_16 (by decide) ?_
  obtain ⟨t_2, g_17, hf⟩ := fb_vs hf
  refine fw_V1 (As := [.int ((1 : Int32))]) (rest := []) (n := 1) (q0 := 0) C (c_M_X11_movesAll__0 (l := l) (D := D) (ca := ca) (a := a) g_17) kw_1764 kw_1766 kw_102 kw_1767 kw_86 hP hS hl (heM_0 ca a t_1) rfl rfl rfl (by decide) (by decide +kernel) ⟨Nat.le_of_ble_eq_true rfl, Nat.le_of_ble_eq_true rfl⟩ rfl rfl (Nat.le_of_ble_eq_true rfl) dX11_image_17 (fun H locs hP hS => ?_)
  refine W.eq (g2 := F0 m 20 ls []) rfl ?_
  refine lv_aload_n hx hb dX11_image_20 rfl (lv_at hl 0 rfl) ?_
  obtain ⟨v_4, t_3, g_21, hf⟩ := fb_bs hf
  refine fw_V1 (As := []) (rest := []) (n := 0) (q0 := 0) C (c_M_X11_present__0 (l := l) (D := D) (ca := ca) (a := a) g_21) kw_1783 kw_1785 kw_102 kw_1786 kw_90 hP hS hl (heM_0 ca a t_2) rfl rfl rfl (by decide) (by decide +kernel) ⟨Nat.le_of_ble_eq_true rfl, Nat.le_of_ble_eq_true rfl⟩ rfl rfl (Nat.le_of_ble_eq_true rfl) dX11_image_21 (fun H locs hP hS => ?_)
  refine W.eq (g2 := F0 m 24 ls [.int v_4]) rfl ?_
  obtain ⟨e_24, e2_24⟩ := fb_e hf
  subst e_24; subst e2_24
  exact hr trivial _ _ _ _ hP hS dX11_image_24
set_option maxRecDepth 20000 in
theorem w_M_X11_image__0_7 {p : Program} {l : Launch} {e : Env} {s : State} {m : MethodId} {args : Array Value} {below : List Frame} {meth : Method} {c : Code} {A : Nat → Prop} {Q : State → Prop} {D : va_G} {ca : Nat → ClassId} {a : Nat → Nat} {u : fw_S} {r : Int32}  (C : CX (WM ca a) D (tyv ca) p s m args c A prog_13_method_92_code 1 RX11) (hr : True → RX (WM ca a) D p l e rm_M_X11_image__0 s m args below meth c A prog_13_method_92_code Q .ireturn [.int r] u) {t : fw_S}  {H : Heap} {locs : List Loc} {ls : Array Slot} (hf : b_M_X11_image__0_7  t  = some (r, u)) (hP : va_P D classes (WM ca a t) H) (hS : va_S A s.heap H locs) (hl : lv_has ls 1 []) : W p l e rm_M_X11_image__0 s m args below meth c H locs 0 0 Q (F0 m 7 ls []) := by
  obtain ⟨hx, hb, hml, hown, hts, hN, hK, hD, hA⟩ := id C
  have hf : (some ((-3 : Int32), t)) = some (r, u) := hf
  refine lv_bipush (v := (-3)) hx hb dX11_image_7 (by decide) ?_
  obtain ⟨e_9, e2_9⟩ := fb_e hf
  subst e_9; subst e2_9
  exact hr trivial _ _ _ _ hP hS dX11_image_9
set_option maxRecDepth 20000 in
theorem w_M_X11_image__0_0 {p : Program} {l : Launch} {e : Env} {s : State} {m : MethodId} {args : Array Value} {below : List Frame} {meth : Method} {c : Code} {A : Nat → Prop} {Q : State → Prop} {D : va_G} {ca : Nat → ClassId} {a : Nat → Nat} {u : fw_S} {r : Int32}  (C : CX (WM ca a) D (tyv ca) p s m args c A prog_13_method_92_code 1 RX11) (hr : True → RX (WM ca a) D p l e rm_M_X11_image__0 s m args below meth c A prog_13_method_92_code Q .ireturn [.int r] u) {t : fw_S}  {H : Heap} {locs : List Loc} {ls : Array Slot} (hf : b_M_X11_image__0_0  t  = some (r, u)) (hP : va_P D classes (WM ca a t) H) (hS : va_S A s.heap H locs) (hl : lv_has ls 1 [(0, .ref (a 0))]) : W p l e rm_M_X11_image__0 s m args below meth c H locs 0 0 Q (F0 m 0 ls []) := by
  obtain ⟨hx, hb, hml, hown, hts, hN, hK, hD, hA⟩ := id C
  have hf : (if (st_I t 0) = 0 then b_M_X11_image__0_10 t else b_M_X11_image__0_7 t) = some (r, u) := hf
  refine lv_aload_n hx hb dX11_image_0 rfl (lv_at hl 0 rfl) ?_
  refine va_get (D := D) (ci := 11) (v := .int (st_I t 0)) (C := RX11) (T := TX11) (N := 76) hx hb hts inX11 hown hK hP 0 (heM_0 ca a t) rfl 22 (by decide) (hts _ kw_1214) (fun _ h9 => h9) rfl dX11_image_1 ?_
  refine lv_if_eq (tgt := 10) hx hb dX11_image_4 (by decide) (fun h_4 => ?_) (fun h_4 => ?_)
  · have hf := fb_t h_4 hf
    exact w_M_X11_image__0_10 C hr hf hP hS (lv_sub hl [0] rfl)
  · have hf := fb_f h_4 hf
    exact w_M_X11_image__0_7 C hr hf hP hS (lv_sub hl [] rfl)
set_option maxRecDepth 20000 in
theorem c_M_X11_image__0 {l : Launch} {D : va_G} {ca : Nat → ClassId} {a : Nat → Nat} {t : fw_S}  {u : fw_S} {r : Int32} (hf : f_M_X11_image__0 t  = some (r, u)) : MC (WM ca a) D (tyv ca) l yX11_image (.code yX11_image prog_13_method_92_code 1 (some .int) :: lw_gd) rm_M_X11_image__0 [.ref (a 0)] (some (.int r)) t u := by
  refine fw_met (okM ca a) (by decide +kernel) rfl rfl (Nat.le_of_ble_eq_true rfl) ?_
  intro p e s m args below meth c A Q ls C hr hk hP hS hl hQ
  exact w_M_X11_image__0_0 C (fun _ => fw_ri C hr hk hQ) hf hP hS (lv_sub hl [0] rfl)
/-! ReactiveSheetModel.undo()I ['m'] -/
abbrev rm_M_X11_undo__0 : Room := { frames := 2, cells := 0, slots := 0, locals := 45 }
def b_M_X11_undo__0_14  (t : fw_S)  : Option (Int32 × fw_S) := some ((-3 : Int32), t)
def b_M_X11_undo__0_17  (t : fw_S)  : Option (Int32 × fw_S) := fb_v (f_M_X11_movesAll__0 t ((0 : Int32))) fun t_1 => (fb_b (f_M_X11_present__0 t_1) fun v_3 t_2 => (some (v_3, t_2)))
def b_M_X11_undo__0_7  (t : fw_S)  : Option (Int32 × fw_S) := if (st_I t 0) = 0 then b_M_X11_undo__0_17 t else b_M_X11_undo__0_14 t
def b_M_X11_undo__0_0  (t : fw_S)  : Option (Int32 × fw_S) := if (st_I t 18) = 0 then b_M_X11_undo__0_14 t else b_M_X11_undo__0_7 t
def f_M_X11_undo__0 (t : fw_S)  : Option (Int32 × fw_S) := b_M_X11_undo__0_0 t 
set_option maxRecDepth 20000 in
theorem w_M_X11_undo__0_14 {p : Program} {l : Launch} {e : Env} {s : State} {m : MethodId} {args : Array Value} {below : List Frame} {meth : Method} {c : Code} {A : Nat → Prop} {Q : State → Prop} {D : va_G} {ca : Nat → ClassId} {a : Nat → Nat} {u : fw_S} {r : Int32}  (C : CX (WM ca a) D (tyv ca) p s m args c A prog_13_method_93_code 1 RX11) (hr : True → RX (WM ca a) D p l e rm_M_X11_undo__0 s m args below meth c A prog_13_method_93_code Q .ireturn [.int r] u) {t : fw_S}  {H : Heap} {locs : List Loc} {ls : Array Slot} (hf : b_M_X11_undo__0_14  t  = some (r, u)) (hP : va_P D classes (WM ca a t) H) (hS : va_S A s.heap H locs) (hl : lv_has ls 1 []) : W p l e rm_M_X11_undo__0 s m args below meth c H locs 0 0 Q (F0 m 14 ls []) := by
  obtain ⟨hx, hb, hml, hown, hts, hN, hK, hD, hA⟩ := id C
  have hf : (some ((-3 : Int32), t)) = some (r, u) := hf
  refine lv_bipush (v := (-3)) hx hb dX11_undo_14 (by decide) ?_
  obtain ⟨e_16, e2_16⟩ := fb_e hf
  subst e_16; subst e2_16
  exact hr trivial _ _ _ _ hP hS dX11_undo_16
set_option maxRecDepth 20000 in
theorem w_M_X11_undo__0_17 {p : Program} {l : Launch} {e : Env} {s : State} {m : MethodId} {args : Array Value} {below : List Frame} {meth : Method} {c : Code} {A : Nat → Prop} {Q : State → Prop} {D : va_G} {ca : Nat → ClassId} {a : Nat → Nat} {u : fw_S} {r : Int32}  (C : CX (WM ca a) D (tyv ca) p s m args c A prog_13_method_93_code 1 RX11) (hr : True → RX (WM ca a) D p l e rm_M_X11_undo__0 s m args below meth c A prog_13_method_93_code Q .ireturn [.int r] u) {t : fw_S}  {H : Heap} {locs : List Loc} {ls : Array Slot} (hf : b_M_X11_undo__0_17  t  = some (r, u)) (hP : va_P D classes (WM ca a t) H) (hS : va_S A s.heap H locs) (hl : lv_has ls 1 [(0, .ref (a 0))]) : W p l e rm_M_X11_undo__0 s m args below meth c H locs 0 0 Q (F0 m 17 ls []) := by
  obtain ⟨hx, hb, hml, hown, hts, hN, hK, hD, hA⟩ := id C
  have hf : (fb_v (f_M_X11_movesAll__0 t ((0 : Int32))) fun t_1 => (fb_b (f_M_X11_present__0 t_1) fun v_3 t_2 => (some (v_3, t_2)))) = some (r, u) := hf
  refine lv_aload_n hx hb dX11_undo_17 rfl (lv_at hl 0 rfl) ?_
  refine lv_iconst (v := 0) hx hb dX11_undo_18 (by decide) ?_
  obtain ⟨t_1, g_19, hf⟩ := fb_vs hf
  refine fw_V1 (As := [.int ((0 : Int32))]) (rest := []) (n := 1) (q0 := 0) C (c_M_X11_movesAll__0 (l := l) (D := D) (ca := ca) (a := a) g_19) kw_1764 kw_1766 kw_102 kw_1767 kw_86 hP hS hl (heM_0 ca a t) rfl rfl rfl (by decide) (by decide +kernel) ⟨Nat.le_of_ble_eq_true rfl, Nat.le_of_ble_eq_true rfl⟩ rfl rfl (Nat.le_of_ble_eq_true rfl) dX11_undo_19 (fun H locs hP hS => ?_)
  refine W.eq (g2 := F0 m 22 ls []) rfl ?_
  refine lv_aload_n hx hb dX11_undo_22 rfl (lv_at hl 0 rfl) ?_
  obtain ⟨v_3, t_2, g_23, hf⟩ := fb_bs hf
  refine fw_V1 (As := []) (rest := []) (n := 0) (q0 := 0) C (c_M_X11_present__0 (l := l) (D := D) (ca := ca) (a := a) g_23) kw_1783 kw_1785 kw_102 kw_1786 kw_90 hP hS hl (heM_0 ca a t_1) rfl rfl rfl (by decide) (by decide +kernel) ⟨Nat.le_of_ble_eq_true rfl, Nat.le_of_ble_eq_true rfl⟩ rfl rfl (Nat.le_of_ble_eq_true rfl) dX11_undo_23 (fun H locs hP hS => ?_)
  refine W.eq (g2 := F0 m 26 ls [.int v_3]) rfl ?_
  obtain ⟨e_26, e2_26⟩ := fb_e hf
  subst e_26; subst e2_26
  exact hr trivial _ _ _ _ hP hS dX11_undo_26
set_option maxRecDepth 20000 in
theorem w_M_X11_undo__0_7 {p : Program} {l : Launch} {e : Env} {s : State} {m : MethodId} {args : Array Value} {below : List Frame} {meth : Method} {c : Code} {A : Nat → Prop} {Q : State → Prop} {D : va_G} {ca : Nat → ClassId} {a : Nat → Nat} {u : fw_S} {r : Int32}  (C : CX (WM ca a) D (tyv ca) p s m args c A prog_13_method_93_code 1 RX11) (hr : True → RX (WM ca a) D p l e rm_M_X11_undo__0 s m args below meth c A prog_13_method_93_code Q .ireturn [.int r] u) {t : fw_S}  {H : Heap} {locs : List Loc} {ls : Array Slot} (hf : b_M_X11_undo__0_7  t  = some (r, u)) (hP : va_P D classes (WM ca a t) H) (hS : va_S A s.heap H locs) (hl : lv_has ls 1 [(0, .ref (a 0))]) : W p l e rm_M_X11_undo__0 s m args below meth c H locs 0 0 Q (F0 m 7 ls []) := by
  obtain ⟨hx, hb, hml, hown, hts, hN, hK, hD, hA⟩ := id C
  have hf : (if (st_I t 0) = 0 then b_M_X11_undo__0_17 t else b_M_X11_undo__0_14 t) = some (r, u) := hf
  refine lv_aload_n hx hb dX11_undo_7 rfl (lv_at hl 0 rfl) ?_
  refine va_get (D := D) (ci := 11) (v := .int (st_I t 0)) (C := RX11) (T := TX11) (N := 76) hx hb hts inX11 hown hK hP 0 (heM_0 ca a t) rfl 22 (by decide) (hts _ kw_1214) (fun _ h9 => h9) rfl dX11_undo_8 ?_
  refine lv_if_eq (tgt := 17) hx hb dX11_undo_11 (by decide) (fun h_11 => ?_) (fun h_11 => ?_)
  · have hf := fb_t h_11 hf
    exact w_M_X11_undo__0_17 C hr hf hP hS (lv_sub hl [0] rfl)
  · have hf := fb_f h_11 hf
    exact w_M_X11_undo__0_14 C hr hf hP hS (lv_sub hl [] rfl)
set_option maxRecDepth 20000 in
theorem w_M_X11_undo__0_0 {p : Program} {l : Launch} {e : Env} {s : State} {m : MethodId} {args : Array Value} {below : List Frame} {meth : Method} {c : Code} {A : Nat → Prop} {Q : State → Prop} {D : va_G} {ca : Nat → ClassId} {a : Nat → Nat} {u : fw_S} {r : Int32}  (C : CX (WM ca a) D (tyv ca) p s m args c A prog_13_method_93_code 1 RX11) (hr : True → RX (WM ca a) D p l e rm_M_X11_undo__0 s m args below meth c A prog_13_method_93_code Q .ireturn [.int r] u) {t : fw_S}  {H : Heap} {locs : List Loc} {ls : Array Slot} (hf : b_M_X11_undo__0_0  t  = some (r, u)) (hP : va_P D classes (WM ca a t) H) (hS : va_S A s.heap H locs) (hl : lv_has ls 1 [(0, .ref (a 0))]) : W p l e rm_M_X11_undo__0 s m args below meth c H locs 0 0 Q (F0 m 0 ls []) := by
  obtain ⟨hx, hb, hml, hown, hts, hN, hK, hD, hA⟩ := id C
  have hf : (if (st_I t 18) = 0 then b_M_X11_undo__0_14 t else b_M_X11_undo__0_7 t) = some (r, u) := hf
  refine lv_aload_n hx hb dX11_undo_0 rfl (lv_at hl 0 rfl) ?_
  refine va_get (D := D) (ci := 11) (v := .int (st_I t 18)) (C := RX11) (T := TX11) (N := 76) hx hb hts inX11 hown hK hP 0 (heM_0 ca a t) rfl 65 (by decide) (hts _ kw_1257) (fun _ h9 => h9) rfl dX11_undo_1 ?_
  refine lv_if_eq (tgt := 14) hx hb dX11_undo_4 (by decide) (fun h_4 => ?_) (fun h_4 => ?_)
  · have hf := fb_t h_4 hf
    exact w_M_X11_undo__0_14 C hr hf hP hS (lv_sub hl [] rfl)
  · have hf := fb_f h_4 hf
    exact w_M_X11_undo__0_7 C hr hf hP hS (lv_sub hl [0] rfl)
set_option maxRecDepth 20000 in
theorem c_M_X11_undo__0 {l : Launch} {D : va_G} {ca : Nat → ClassId} {a : Nat → Nat} {t : fw_S}  {u : fw_S} {r : Int32} (hf : f_M_X11_undo__0 t  = some (r, u)) : MC (WM ca a) D (tyv ca) l yX11_undo (.code yX11_undo prog_13_method_93_code 1 (some .int) :: lw_gd) rm_M_X11_undo__0 [.ref (a 0)] (some (.int r)) t u := by
  refine fw_met (okM ca a) (by decide +kernel) rfl rfl (Nat.le_of_ble_eq_true rfl) ?_
  intro p e s m args below meth c A Q ls C hr hk hP hS hl hQ
  exact w_M_X11_undo__0_0 C (fun _ => fw_ri C hr hk hQ) hf hP hS (lv_sub hl [0] rfl)
