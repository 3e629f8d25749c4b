theorem dJ9_min_7cf53_0 : decode prog_16_method_69_code 0 = .ok (.iload_n 0, 1) := by decide +kernel
theorem dJ9_min_7cf53_1 : decode prog_16_method_69_code 1 = .ok (.iload_n 1, 1) := by decide +kernel
theorem dJ9_min_7cf53_2 : decode prog_16_method_69_code 2 = .ok (.if_icmp .gt 7, 3) := by decide +kernel
theorem dJ9_min_7cf53_5 : decode prog_16_method_69_code 5 = .ok (.iload_n 0, 1) := by decide +kernel
theorem dJ9_min_7cf53_6 : decode prog_16_method_69_code 6 = .ok (.goto 4, 3) := by decide +kernel
theorem dJ9_min_7cf53_9 : decode prog_16_method_69_code 9 = .ok (.iload_n 1, 1) := by decide +kernel
theorem dJ9_min_7cf53_10 : decode prog_16_method_69_code 10 = .ok (.ireturn, 1) := by decide +kernel
theorem dX11_goes_0 : decode prog_13_method_35_code 0 = .ok (.aload_n 0, 1) := by decide +kernel
theorem dX11_goes_1 : decode prog_13_method_35_code 1 = .ok (.invokevirtual 300, 3) := by decide +kernel
theorem dX11_goes_4 : decode prog_13_method_35_code 4 = .ok (.aload_n 0, 1) := by decide +kernel
theorem dX11_goes_5 : decode prog_13_method_35_code 5 = .ok (.invokevirtual 303, 3) := by decide +kernel
theorem dX11_goes_8 : decode prog_13_method_35_code 8 = .ok (.aload_n 0, 1) := by decide +kernel
theorem dX11_goes_9 : decode prog_13_method_35_code 9 = .ok (.iconst 0, 1) := by decide +kernel
theorem dX11_goes_10 : decode prog_13_method_35_code 10 = .ok (.putfield 242, 3) := by decide +kernel
theorem dX11_goes_13 : decode prog_13_method_35_code 13 = .ok (.aload_n 0, 1) := by decide +kernel
theorem dX11_goes_14 : decode prog_13_method_35_code 14 = .ok (.iconst 0, 1) := by decide +kernel
theorem dX11_goes_15 : decode prog_13_method_35_code 15 = .ok (.putfield 236, 3) := by decide +kernel
theorem dX11_goes_18 : decode prog_13_method_35_code 18 = .ok (.aload_n 0, 1) := by decide +kernel
theorem dX11_goes_19 : decode prog_13_method_35_code 19 = .ok (.iconst 0, 1) := by decide +kernel
theorem dX11_goes_20 : decode prog_13_method_35_code 20 = .ok (.putfield 250, 3) := by decide +kernel
theorem dX11_goes_23 : decode prog_13_method_35_code 23 = .ok (.aload_n 0, 1) := by decide +kernel
theorem dX11_goes_24 : decode prog_13_method_35_code 24 = .ok (.iconst 0, 1) := by decide +kernel
theorem dX11_goes_25 : decode prog_13_method_35_code 25 = .ok (.putfield 290, 3) := by decide +kernel
theorem dX11_goes_28 : decode prog_13_method_35_code 28 = .ok (.iconst 0, 1) := by decide +kernel
theorem dX11_goes_29 : decode prog_13_method_35_code 29 = .ok (.istore_n 1, 1) := by decide +kernel
theorem dX11_goes_30 : decode prog_13_method_35_code 30 = .ok (.iload_n 1, 1) := by decide +kernel
theorem dX11_goes_31 : decode prog_13_method_35_code 31 = .ok (.bipush 32, 2) := by decide +kernel
theorem dX11_goes_33 : decode prog_13_method_35_code 33 = .ok (.if_icmp .ge 38, 3) := by decide +kernel
theorem dX11_goes_36 : decode prog_13_method_35_code 36 = .ok (.aload_n 0, 1) := by decide +kernel
theorem dX11_goes_37 : decode prog_13_method_35_code 37 = .ok (.getfield 37, 3) := by decide +kernel
theorem dX11_goes_40 : decode prog_13_method_35_code 40 = .ok (.iload_n 1, 1) := by decide +kernel
theorem dX11_goes_41 : decode prog_13_method_35_code 41 = .ok (.iconst 0, 1) := by decide +kernel
theorem dX11_goes_42 : decode prog_13_method_35_code 42 = .ok (.bastore, 1) := by decide +kernel
theorem dX11_goes_43 : decode prog_13_method_35_code 43 = .ok (.aload_n 0, 1) := by decide +kernel
theorem dX11_goes_44 : decode prog_13_method_35_code 44 = .ok (.getfield 41, 3) := by decide +kernel
theorem dX11_goes_47 : decode prog_13_method_35_code 47 = .ok (.iload_n 1, 1) := by decide +kernel
theorem dX11_goes_48 : decode prog_13_method_35_code 48 = .ok (.iconst 0, 1) := by decide +kernel
theorem dX11_goes_49 : decode prog_13_method_35_code 49 = .ok (.bastore, 1) := by decide +kernel
theorem dX11_goes_50 : decode prog_13_method_35_code 50 = .ok (.aload_n 0, 1) := by decide +kernel
theorem dX11_goes_51 : decode prog_13_method_35_code 51 = .ok (.getfield 24, 3) := by decide +kernel
theorem dX11_goes_54 : decode prog_13_method_35_code 54 = .ok (.iload_n 1, 1) := by decide +kernel
theorem dX11_goes_55 : decode prog_13_method_35_code 55 = .ok (.bipush (-5), 2) := by decide +kernel
theorem dX11_goes_57 : decode prog_13_method_35_code 57 = .ok (.iastore, 1) := by decide +kernel
theorem dX11_goes_58 : decode prog_13_method_35_code 58 = .ok (.aload_n 0, 1) := by decide +kernel
theorem dX11_goes_59 : decode prog_13_method_35_code 59 = .ok (.getfield 110, 3) := by decide +kernel
theorem dX11_goes_62 : decode prog_13_method_35_code 62 = .ok (.iload_n 1, 1) := by decide +kernel
theorem dX11_goes_63 : decode prog_13_method_35_code 63 = .ok (.iconst 0, 1) := by decide +kernel
theorem dX11_goes_64 : decode prog_13_method_35_code 64 = .ok (.iastore, 1) := by decide +kernel
theorem dX11_goes_65 : decode prog_13_method_35_code 65 = .ok (.iinc 1 1, 3) := by decide +kernel
theorem dX11_goes_68 : decode prog_13_method_35_code 68 = .ok (.goto (-38), 3) := by decide +kernel
theorem dX11_goes_71 : decode prog_13_method_35_code 71 = .ok (.iconst 0, 1) := by decide +kernel
theorem dX11_goes_72 : decode prog_13_method_35_code 72 = .ok (.istore_n 1, 1) := by decide +kernel
theorem dX11_goes_73 : decode prog_13_method_35_code 73 = .ok (.iload_n 1, 1) := by decide +kernel
theorem dX11_goes_74 : decode prog_13_method_35_code 74 = .ok (.bipush 32, 2) := by decide +kernel
theorem dX11_goes_76 : decode prog_13_method_35_code 76 = .ok (.if_icmp .ge 137, 3) := by decide +kernel
theorem dX11_goes_79 : decode prog_13_method_35_code 79 = .ok (.aload_n 0, 1) := by decide +kernel
theorem dX11_goes_80 : decode prog_13_method_35_code 80 = .ok (.getfield 56, 3) := by decide +kernel
theorem dX11_goes_83 : decode prog_13_method_35_code 83 = .ok (.iload_n 1, 1) := by decide +kernel
theorem dX11_goes_84 : decode prog_13_method_35_code 84 = .ok (.baload, 1) := by decide +kernel
theorem dX11_goes_85 : decode prog_13_method_35_code 85 = .ok (.ifCond .ne 6, 3) := by decide +kernel
theorem dX11_goes_88 : decode prog_13_method_35_code 88 = .ok (.goto 119, 3) := by decide +kernel
theorem dX11_goes_91 : decode prog_13_method_35_code 91 = .ok (.aload_n 0, 1) := by decide +kernel
theorem dX11_goes_92 : decode prog_13_method_35_code 92 = .ok (.getfield 11, 3) := by decide +kernel
theorem dX11_goes_95 : decode prog_13_method_35_code 95 = .ok (.iload_n 1, 1) := by decide +kernel
theorem dX11_goes_96 : decode prog_13_method_35_code 96 = .ok (.aload_n 0, 1) := by decide +kernel
theorem dX11_goes_97 : decode prog_13_method_35_code 97 = .ok (.getfield 62, 3) := by decide +kernel
theorem dX11_goes_100 : decode prog_13_method_35_code 100 = .ok (.iload_n 1, 1) := by decide +kernel
theorem dX11_goes_101 : decode prog_13_method_35_code 101 = .ok (.iaload, 1) := by decide +kernel
theorem dX11_goes_102 : decode prog_13_method_35_code 102 = .ok (.iastore, 1) := by decide +kernel
theorem dX11_goes_103 : decode prog_13_method_35_code 103 = .ok (.aload_n 0, 1) := by decide +kernel
theorem dX11_goes_104 : decode prog_13_method_35_code 104 = .ok (.getfield 27, 3) := by decide +kernel
theorem dX11_goes_107 : decode prog_13_method_35_code 107 = .ok (.iload_n 1, 1) := by decide +kernel
theorem dX11_goes_108 : decode prog_13_method_35_code 108 = .ok (.aload_n 0, 1) := by decide +kernel
theorem dX11_goes_109 : decode prog_13_method_35_code 109 = .ok (.getfield 65, 3) := by decide +kernel
theorem dX11_goes_112 : decode prog_13_method_35_code 112 = .ok (.iload_n 1, 1) := by decide +kernel
theorem dX11_goes_113 : decode prog_13_method_35_code 113 = .ok (.iaload, 1) := by decide +kernel
theorem dX11_goes_114 : decode prog_13_method_35_code 114 = .ok (.iastore, 1) := by decide +kernel
theorem dX11_goes_115 : decode prog_13_method_35_code 115 = .ok (.aload_n 0, 1) := by decide +kernel
theorem dX11_goes_116 : decode prog_13_method_35_code 116 = .ok (.getfield 18, 3) := by decide +kernel
theorem dX11_goes_119 : decode prog_13_method_35_code 119 = .ok (.iload_n 1, 1) := by decide +kernel
theorem dX11_goes_120 : decode prog_13_method_35_code 120 = .ok (.iconst 0, 1) := by decide +kernel
theorem dX11_goes_121 : decode prog_13_method_35_code 121 = .ok (.iastore, 1) := by decide +kernel
theorem dX11_goes_122 : decode prog_13_method_35_code 122 = .ok (.aload_n 0, 1) := by decide +kernel
theorem dX11_goes_123 : decode prog_13_method_35_code 123 = .ok (.getfield 21, 3) := by decide +kernel
theorem dX11_goes_126 : decode prog_13_method_35_code 126 = .ok (.iload_n 1, 1) := by decide +kernel
theorem dX11_goes_127 : decode prog_13_method_35_code 127 = .ok (.iconst 0, 1) := by decide +kernel
theorem dX11_goes_128 : decode prog_13_method_35_code 128 = .ok (.iastore, 1) := by decide +kernel
theorem dX11_goes_129 : decode prog_13_method_35_code 129 = .ok (.aload_n 0, 1) := by decide +kernel
theorem dX11_goes_130 : decode prog_13_method_35_code 130 = .ok (.getfield 11, 3) := by decide +kernel
theorem dX11_goes_133 : decode prog_13_method_35_code 133 = .ok (.iload_n 1, 1) := by decide +kernel
theorem dX11_goes_134 : decode prog_13_method_35_code 134 = .ok (.iaload, 1) := by decide +kernel
theorem dX11_goes_135 : decode prog_13_method_35_code 135 = .ok (.iconst 2, 1) := by decide +kernel
theorem dX11_goes_136 : decode prog_13_method_35_code 136 = .ok (.if_icmp .ne 6, 3) := by decide +kernel
theorem dX11_goes_139 : decode prog_13_method_35_code 139 = .ok (.goto 68, 3) := by decide +kernel
theorem dX11_goes_142 : decode prog_13_method_35_code 142 = .ok (.aload_n 0, 1) := by decide +kernel
theorem dX11_goes_143 : decode prog_13_method_35_code 143 = .ok (.getfield 30, 3) := by decide +kernel
theorem dX11_goes_146 : decode prog_13_method_35_code 146 = .ok (.iload_n 1, 1) := by decide +kernel
theorem dX11_goes_147 : decode prog_13_method_35_code 147 = .ok (.aload_n 0, 1) := by decide +kernel
theorem dX11_goes_148 : decode prog_13_method_35_code 148 = .ok (.getfield 11, 3) := by decide +kernel
theorem dX11_goes_151 : decode prog_13_method_35_code 151 = .ok (.iload_n 1, 1) := by decide +kernel
theorem dX11_goes_152 : decode prog_13_method_35_code 152 = .ok (.iaload, 1) := by decide +kernel
theorem dX11_goes_153 : decode prog_13_method_35_code 153 = .ok (.iconst 1, 1) := by decide +kernel
theorem dX11_goes_154 : decode prog_13_method_35_code 154 = .ok (.if_icmp .ne 12, 3) := by decide +kernel
theorem dX11_goes_157 : decode prog_13_method_35_code 157 = .ok (.aload_n 0, 1) := by decide +kernel
theorem dX11_goes_158 : decode prog_13_method_35_code 158 = .ok (.getfield 74, 3) := by decide +kernel
theorem dX11_goes_161 : decode prog_13_method_35_code 161 = .ok (.iload_n 1, 1) := by decide +kernel
theorem dX11_goes_162 : decode prog_13_method_35_code 162 = .ok (.laload, 1) := by decide +kernel
theorem dX11_goes_163 : decode prog_13_method_35_code 163 = .ok (.goto 4, 3) := by decide +kernel
theorem dX11_goes_166 : decode prog_13_method_35_code 166 = .ok (.lconst 0, 1) := by decide +kernel
theorem dX11_goes_167 : decode prog_13_method_35_code 167 = .ok (.lastore, 1) := by decide +kernel
theorem dX11_goes_168 : decode prog_13_method_35_code 168 = .ok (.aload_n 0, 1) := by decide +kernel
theorem dX11_goes_169 : decode prog_13_method_35_code 169 = .ok (.getfield 15, 3) := by decide +kernel
theorem dX11_goes_172 : decode prog_13_method_35_code 172 = .ok (.iload_n 1, 1) := by decide +kernel
theorem dX11_goes_173 : decode prog_13_method_35_code 173 = .ok (.aload_n 0, 1) := by decide +kernel
theorem dX11_goes_174 : decode prog_13_method_35_code 174 = .ok (.getfield 11, 3) := by decide +kernel
theorem dX11_goes_177 : decode prog_13_method_35_code 177 = .ok (.iload_n 1, 1) := by decide +kernel
theorem dX11_goes_178 : decode prog_13_method_35_code 178 = .ok (.iaload, 1) := by decide +kernel
theorem dX11_goes_179 : decode prog_13_method_35_code 179 = .ok (.iconst 1, 1) := by decide +kernel
theorem dX11_goes_180 : decode prog_13_method_35_code 180 = .ok (.if_icmp .ne 7, 3) := by decide +kernel
theorem dX11_goes_183 : decode prog_13_method_35_code 183 = .ok (.iconst 0, 1) := by decide +kernel
theorem dX11_goes_184 : decode prog_13_method_35_code 184 = .ok (.goto 4, 3) := by decide +kernel
theorem dX11_goes_187 : decode prog_13_method_35_code 187 = .ok (.iconst 3, 1) := by decide +kernel
theorem dX11_goes_188 : decode prog_13_method_35_code 188 = .ok (.iastore, 1) := by decide +kernel
theorem dX11_goes_189 : decode prog_13_method_35_code 189 = .ok (.aload_n 0, 1) := by decide +kernel
theorem dX11_goes_190 : decode prog_13_method_35_code 190 = .ok (.getfield 37, 3) := by decide +kernel
theorem dX11_goes_193 : decode prog_13_method_35_code 193 = .ok (.iload_n 1, 1) := by decide +kernel
theorem dX11_goes_194 : decode prog_13_method_35_code 194 = .ok (.aload_n 0, 1) := by decide +kernel
theorem dX11_goes_195 : decode prog_13_method_35_code 195 = .ok (.iload_n 1, 1) := by decide +kernel
theorem dX11_goes_196 : decode prog_13_method_35_code 196 = .ok (.invokevirtual 287, 3) := by decide +kernel
theorem dX11_goes_199 : decode prog_13_method_35_code 199 = .ok (.bastore, 1) := by decide +kernel
theorem dX11_goes_200 : decode prog_13_method_35_code 200 = .ok (.aload_n 0, 1) := by decide +kernel
theorem dX11_goes_201 : decode prog_13_method_35_code 201 = .ok (.getfield 110, 3) := by decide +kernel
theorem dX11_goes_204 : decode prog_13_method_35_code 204 = .ok (.iload_n 1, 1) := by decide +kernel
theorem dX11_goes_205 : decode prog_13_method_35_code 205 = .ok (.iconst 2, 1) := by decide +kernel
theorem dX11_goes_206 : decode prog_13_method_35_code 206 = .ok (.iastore, 1) := by decide +kernel
theorem dX11_goes_207 : decode prog_13_method_35_code 207 = .ok (.iinc 1 1, 3) := by decide +kernel
theorem dX11_goes_210 : decode prog_13_method_35_code 210 = .ok (.goto (-137), 3) := by decide +kernel
theorem dX11_goes_213 : decode prog_13_method_35_code 213 = .ok (.iconst 0, 1) := by decide +kernel
theorem dX11_goes_214 : decode prog_13_method_35_code 214 = .ok (.istore_n 1, 1) := by decide +kernel
theorem dX11_goes_215 : decode prog_13_method_35_code 215 = .ok (.iload_n 1, 1) := by decide +kernel
theorem dX11_goes_216 : decode prog_13_method_35_code 216 = .ok (.bipush 32, 2) := by decide +kernel
theorem dX11_goes_218 : decode prog_13_method_35_code 218 = .ok (.if_icmp .ge 14, 3) := by decide +kernel
theorem dX11_goes_221 : decode prog_13_method_35_code 221 = .ok (.aload_n 0, 1) := by decide +kernel
theorem dX11_goes_222 : decode prog_13_method_35_code 222 = .ok (.iload_n 1, 1) := by decide +kernel
theorem dX11_goes_223 : decode prog_13_method_35_code 223 = .ok (.invokevirtual 239, 3) := by decide +kernel
theorem dX11_goes_226 : decode prog_13_method_35_code 226 = .ok (.iinc 1 1, 3) := by decide +kernel
theorem dX11_goes_229 : decode prog_13_method_35_code 229 = .ok (.goto (-14), 3) := by decide +kernel
theorem dX11_goes_232 : decode prog_13_method_35_code 232 = .ok (.aload_n 0, 1) := by decide +kernel
theorem dX11_goes_233 : decode prog_13_method_35_code 233 = .ok (.getfield 242, 3) := by decide +kernel
theorem dX11_goes_236 : decode prog_13_method_35_code 236 = .ok (.ifCond .ne 7, 3) := by decide +kernel
theorem dX11_goes_239 : decode prog_13_method_35_code 239 = .ok (.iconst 1, 1) := by decide +kernel
theorem dX11_goes_240 : decode prog_13_method_35_code 240 = .ok (.goto 4, 3) := by decide +kernel
theorem dX11_goes_243 : decode prog_13_method_35_code 243 = .ok (.iconst 0, 1) := by decide +kernel
theorem dX11_goes_244 : decode prog_13_method_35_code 244 = .ok (.ireturn, 1) := by decide +kernel
theorem dX11_isCell_0 : decode prog_13_method_3_code 0 = .ok (.iload_n 0, 1) := by decide +kernel
theorem dX11_isCell_1 : decode prog_13_method_3_code 1 = .ok (.iconst 0, 1) := by decide +kernel
theorem dX11_isCell_2 : decode prog_13_method_3_code 2 = .ok (.bipush 31, 2) := by decide +kernel
theorem dX11_isCell_4 : decode prog_13_method_3_code 4 = .ok (.invokestatic 173, 3) := by decide +kernel
theorem dX11_isCell_7 : decode prog_13_method_3_code 7 = .ok (.ireturn, 1) := by decide +kernel
theorem dX11_isIn_0 : decode prog_13_method_2_code 0 = .ok (.iload_n 0, 1) := by decide +kernel
theorem dX11_isIn_1 : decode prog_13_method_2_code 1 = .ok (.iload_n 1, 1) := by decide +kernel
theorem dX11_isIn_2 : decode prog_13_method_2_code 2 = .ok (.if_icmp .lt 12, 3) := by decide +kernel
theorem dX11_isIn_5 : decode prog_13_method_2_code 5 = .ok (.iload_n 0, 1) := by decide +kernel
theorem dX11_isIn_6 : decode prog_13_method_2_code 6 = .ok (.iload_n 2, 1) := by decide +kernel
theorem dX11_isIn_7 : decode prog_13_method_2_code 7 = .ok (.if_icmp .gt 7, 3) := by decide +kernel
theorem dX11_isIn_10 : decode prog_13_method_2_code 10 = .ok (.iconst 1, 1) := by decide +kernel
theorem dX11_isIn_11 : decode prog_13_method_2_code 11 = .ok (.goto 4, 3) := by decide +kernel
theorem dX11_isIn_14 : decode prog_13_method_2_code 14 = .ok (.iconst 0, 1) := by decide +kernel
theorem dX11_isIn_15 : decode prog_13_method_2_code 15 = .ok (.ireturn, 1) := by decide +kernel
theorem dX11_isOther_0 : decode prog_13_method_30_code 0 = .ok (.aload_n 0, 1) := by decide +kernel
theorem dX11_isOther_1 : decode prog_13_method_30_code 1 = .ok (.getfield 15, 3) := by decide +kernel
theorem dX11_isOther_4 : decode prog_13_method_30_code 4 = .ok (.iload_n 1, 1) := by decide +kernel
theorem dX11_isOther_5 : decode prog_13_method_30_code 5 = .ok (.iaload, 1) := by decide +kernel
theorem dX11_isOther_6 : decode prog_13_method_30_code 6 = .ok (.aload_n 0, 1) := by decide +kernel
theorem dX11_isOther_7 : decode prog_13_method_30_code 7 = .ok (.getfield 83, 3) := by decide +kernel
theorem dX11_isOther_10 : decode prog_13_method_30_code 10 = .ok (.iload_n 1, 1) := by decide +kernel
theorem dX11_isOther_11 : decode prog_13_method_30_code 11 = .ok (.iaload, 1) := by decide +kernel
theorem dX11_isOther_12 : decode prog_13_method_30_code 12 = .ok (.if_icmp .ne 28, 3) := by decide +kernel
theorem dX11_isOther_15 : decode prog_13_method_30_code 15 = .ok (.aload_n 0, 1) := by decide +kernel
theorem dX11_isOther_16 : decode prog_13_method_30_code 16 = .ok (.getfield 15, 3) := by decide +kernel
theorem dX11_isOther_19 : decode prog_13_method_30_code 19 = .ok (.iload_n 1, 1) := by decide +kernel
theorem dX11_isOther_20 : decode prog_13_method_30_code 20 = .ok (.iaload, 1) := by decide +kernel
theorem dX11_isOther_21 : decode prog_13_method_30_code 21 = .ok (.ifCond .ne 23, 3) := by decide +kernel
theorem dX11_isOther_24 : decode prog_13_method_30_code 24 = .ok (.aload_n 0, 1) := by decide +kernel
theorem dX11_isOther_25 : decode prog_13_method_30_code 25 = .ok (.getfield 30, 3) := by decide +kernel
theorem dX11_isOther_28 : decode prog_13_method_30_code 28 = .ok (.iload_n 1, 1) := by decide +kernel
theorem dX11_isOther_29 : decode prog_13_method_30_code 29 = .ok (.laload, 1) := by decide +kernel
theorem dX11_isOther_30 : decode prog_13_method_30_code 30 = .ok (.aload_n 0, 1) := by decide +kernel
theorem dX11_isOther_31 : decode prog_13_method_30_code 31 = .ok (.getfield 101, 3) := by decide +kernel
theorem dX11_isOther_34 : decode prog_13_method_30_code 34 = .ok (.iload_n 1, 1) := by decide +kernel
theorem dX11_isOther_35 : decode prog_13_method_30_code 35 = .ok (.laload, 1) := by decide +kernel
theorem dX11_isOther_36 : decode prog_13_method_30_code 36 = .ok (.lcmp, 1) := by decide +kernel
theorem dX11_isOther_37 : decode prog_13_method_30_code 37 = .ok (.ifCond .eq 7, 3) := by decide +kernel
theorem dX11_isOther_40 : decode prog_13_method_30_code 40 = .ok (.iconst 1, 1) := by decide +kernel
theorem dX11_isOther_41 : decode prog_13_method_30_code 41 = .ok (.goto 4, 3) := by decide +kernel
theorem dX11_isOther_44 : decode prog_13_method_30_code 44 = .ok (.iconst 0, 1) := by decide +kernel
theorem dX11_isOther_45 : decode prog_13_method_30_code 45 = .ok (.ireturn, 1) := by decide +kernel
theorem dX11_keepsAhead_0 : decode prog_13_method_31_code 0 = .ok (.iconst 0, 1) := by decide +kernel
theorem dX11_keepsAhead_1 : decode prog_13_method_31_code 1 = .ok (.istore_n 1, 1) := by decide +kernel
theorem dX11_keepsAhead_2 : decode prog_13_method_31_code 2 = .ok (.iload_n 1, 1) := by decide +kernel
theorem dX11_keepsAhead_3 : decode prog_13_method_31_code 3 = .ok (.bipush 32, 2) := by decide +kernel
theorem dX11_keepsAhead_5 : decode prog_13_method_31_code 5 = .ok (.if_icmp .ge 117, 3) := by decide +kernel
theorem dX11_keepsAhead_8 : decode prog_13_method_31_code 8 = .ok (.aload_n 0, 1) := by decide +kernel
theorem dX11_keepsAhead_9 : decode prog_13_method_31_code 9 = .ok (.getfield 80, 3) := by decide +kernel
theorem dX11_keepsAhead_12 : decode prog_13_method_31_code 12 = .ok (.iload_n 1, 1) := by decide +kernel
theorem dX11_keepsAhead_13 : decode prog_13_method_31_code 13 = .ok (.aload_n 0, 1) := by decide +kernel
theorem dX11_keepsAhead_14 : decode prog_13_method_31_code 14 = .ok (.getfield 11, 3) := by decide +kernel
theorem dX11_keepsAhead_17 : decode prog_13_method_31_code 17 = .ok (.iload_n 1, 1) := by decide +kernel
theorem dX11_keepsAhead_18 : decode prog_13_method_31_code 18 = .ok (.iaload, 1) := by decide +kernel
theorem dX11_keepsAhead_19 : decode prog_13_method_31_code 19 = .ok (.iastore, 1) := by decide +kernel
theorem dX11_keepsAhead_20 : decode prog_13_method_31_code 20 = .ok (.aload_n 0, 1) := by decide +kernel
theorem dX11_keepsAhead_21 : decode prog_13_method_31_code 21 = .ok (.getfield 83, 3) := by decide +kernel
theorem dX11_keepsAhead_24 : decode prog_13_method_31_code 24 = .ok (.iload_n 1, 1) := by decide +kernel
theorem dX11_keepsAhead_25 : decode prog_13_method_31_code 25 = .ok (.aload_n 0, 1) := by decide +kernel
theorem dX11_keepsAhead_26 : decode prog_13_method_31_code 26 = .ok (.getfield 15, 3) := by decide +kernel
theorem dX11_keepsAhead_29 : decode prog_13_method_31_code 29 = .ok (.iload_n 1, 1) := by decide +kernel
theorem dX11_keepsAhead_30 : decode prog_13_method_31_code 30 = .ok (.iaload, 1) := by decide +kernel
theorem dX11_keepsAhead_31 : decode prog_13_method_31_code 31 = .ok (.iastore, 1) := by decide +kernel
theorem dX11_keepsAhead_32 : decode prog_13_method_31_code 32 = .ok (.aload_n 0, 1) := by decide +kernel
theorem dX11_keepsAhead_33 : decode prog_13_method_31_code 33 = .ok (.getfield 86, 3) := by decide +kernel
theorem dX11_keepsAhead_36 : decode prog_13_method_31_code 36 = .ok (.iload_n 1, 1) := by decide +kernel
theorem dX11_keepsAhead_37 : decode prog_13_method_31_code 37 = .ok (.aload_n 0, 1) := by decide +kernel
theorem dX11_keepsAhead_38 : decode prog_13_method_31_code 38 = .ok (.getfield 18, 3) := by decide +kernel
theorem dX11_keepsAhead_41 : decode prog_13_method_31_code 41 = .ok (.iload_n 1, 1) := by decide +kernel
theorem dX11_keepsAhead_42 : decode prog_13_method_31_code 42 = .ok (.iaload, 1) := by decide +kernel
theorem dX11_keepsAhead_43 : decode prog_13_method_31_code 43 = .ok (.iastore, 1) := by decide +kernel
theorem dX11_keepsAhead_44 : decode prog_13_method_31_code 44 = .ok (.aload_n 0, 1) := by decide +kernel
theorem dX11_keepsAhead_45 : decode prog_13_method_31_code 45 = .ok (.getfield 89, 3) := by decide +kernel
theorem dX11_keepsAhead_48 : decode prog_13_method_31_code 48 = .ok (.iload_n 1, 1) := by decide +kernel
theorem dX11_keepsAhead_49 : decode prog_13_method_31_code 49 = .ok (.aload_n 0, 1) := by decide +kernel
theorem dX11_keepsAhead_50 : decode prog_13_method_31_code 50 = .ok (.getfield 21, 3) := by decide +kernel
theorem dX11_keepsAhead_53 : decode prog_13_method_31_code 53 = .ok (.iload_n 1, 1) := by decide +kernel
theorem dX11_keepsAhead_54 : decode prog_13_method_31_code 54 = .ok (.iaload, 1) := by decide +kernel
theorem dX11_keepsAhead_55 : decode prog_13_method_31_code 55 = .ok (.iastore, 1) := by decide +kernel
theorem dX11_keepsAhead_56 : decode prog_13_method_31_code 56 = .ok (.aload_n 0, 1) := by decide +kernel
theorem dX11_keepsAhead_57 : decode prog_13_method_31_code 57 = .ok (.getfield 92, 3) := by decide +kernel
theorem dX11_keepsAhead_60 : decode prog_13_method_31_code 60 = .ok (.iload_n 1, 1) := by decide +kernel
theorem dX11_keepsAhead_61 : decode prog_13_method_31_code 61 = .ok (.aload_n 0, 1) := by decide +kernel
theorem dX11_keepsAhead_62 : decode prog_13_method_31_code 62 = .ok (.getfield 24, 3) := by decide +kernel
theorem dX11_keepsAhead_65 : decode prog_13_method_31_code 65 = .ok (.iload_n 1, 1) := by decide +kernel
theorem dX11_keepsAhead_66 : decode prog_13_method_31_code 66 = .ok (.iaload, 1) := by decide +kernel
theorem dX11_keepsAhead_67 : decode prog_13_method_31_code 67 = .ok (.iastore, 1) := by decide +kernel
theorem dX11_keepsAhead_68 : decode prog_13_method_31_code 68 = .ok (.aload_n 0, 1) := by decide +kernel
theorem dX11_keepsAhead_69 : decode prog_13_method_31_code 69 = .ok (.getfield 95, 3) := by decide +kernel
theorem dX11_keepsAhead_72 : decode prog_13_method_31_code 72 = .ok (.iload_n 1, 1) := by decide +kernel
theorem dX11_keepsAhead_73 : decode prog_13_method_31_code 73 = .ok (.aload_n 0, 1) := by decide +kernel
theorem dX11_keepsAhead_74 : decode prog_13_method_31_code 74 = .ok (.getfield 27, 3) := by decide +kernel
theorem dX11_keepsAhead_77 : decode prog_13_method_31_code 77 = .ok (.iload_n 1, 1) := by decide +kernel
theorem dX11_keepsAhead_78 : decode prog_13_method_31_code 78 = .ok (.iaload, 1) := by decide +kernel
theorem dX11_keepsAhead_79 : decode prog_13_method_31_code 79 = .ok (.iastore, 1) := by decide +kernel
theorem dX11_keepsAhead_80 : decode prog_13_method_31_code 80 = .ok (.aload_n 0, 1) := by decide +kernel
theorem dX11_keepsAhead_81 : decode prog_13_method_31_code 81 = .ok (.getfield 101, 3) := by decide +kernel
theorem dX11_keepsAhead_84 : decode prog_13_method_31_code 84 = .ok (.iload_n 1, 1) := by decide +kernel
theorem dX11_keepsAhead_85 : decode prog_13_method_31_code 85 = .ok (.aload_n 0, 1) := by decide +kernel
theorem dX11_keepsAhead_86 : decode prog_13_method_31_code 86 = .ok (.getfield 30, 3) := by decide +kernel
theorem dX11_keepsAhead_89 : decode prog_13_method_31_code 89 = .ok (.iload_n 1, 1) := by decide +kernel
theorem dX11_keepsAhead_90 : decode prog_13_method_31_code 90 = .ok (.laload, 1) := by decide +kernel
theorem dX11_keepsAhead_91 : decode prog_13_method_31_code 91 = .ok (.lastore, 1) := by decide +kernel
theorem dX11_keepsAhead_92 : decode prog_13_method_31_code 92 = .ok (.aload_n 0, 1) := by decide +kernel
theorem dX11_keepsAhead_93 : decode prog_13_method_31_code 93 = .ok (.getfield 104, 3) := by decide +kernel
theorem dX11_keepsAhead_96 : decode prog_13_method_31_code 96 = .ok (.iload_n 1, 1) := by decide +kernel
theorem dX11_keepsAhead_97 : decode prog_13_method_31_code 97 = .ok (.aload_n 0, 1) := by decide +kernel
theorem dX11_keepsAhead_98 : decode prog_13_method_31_code 98 = .ok (.getfield 37, 3) := by decide +kernel
theorem dX11_keepsAhead_101 : decode prog_13_method_31_code 101 = .ok (.iload_n 1, 1) := by decide +kernel
theorem dX11_keepsAhead_102 : decode prog_13_method_31_code 102 = .ok (.baload, 1) := by decide +kernel
theorem dX11_keepsAhead_103 : decode prog_13_method_31_code 103 = .ok (.bastore, 1) := by decide +kernel
theorem dX11_keepsAhead_104 : decode prog_13_method_31_code 104 = .ok (.aload_n 0, 1) := by decide +kernel
theorem dX11_keepsAhead_105 : decode prog_13_method_31_code 105 = .ok (.getfield 107, 3) := by decide +kernel
theorem dX11_keepsAhead_108 : decode prog_13_method_31_code 108 = .ok (.iload_n 1, 1) := by decide +kernel
theorem dX11_keepsAhead_109 : decode prog_13_method_31_code 109 = .ok (.aload_n 0, 1) := by decide +kernel
theorem dX11_keepsAhead_110 : decode prog_13_method_31_code 110 = .ok (.getfield 41, 3) := by decide +kernel
theorem dX11_keepsAhead_113 : decode prog_13_method_31_code 113 = .ok (.iload_n 1, 1) := by decide +kernel
theorem dX11_keepsAhead_114 : decode prog_13_method_31_code 114 = .ok (.baload, 1) := by decide +kernel
theorem dX11_keepsAhead_115 : decode prog_13_method_31_code 115 = .ok (.bastore, 1) := by decide +kernel
theorem dX11_keepsAhead_116 : decode prog_13_method_31_code 116 = .ok (.iinc 1 1, 3) := by decide +kernel
theorem dX11_keepsAhead_119 : decode prog_13_method_31_code 119 = .ok (.goto (-117), 3) := by decide +kernel
theorem dX11_keepsAhead_122 : decode prog_13_method_31_code 122 = .ok (.iconst 0, 1) := by decide +kernel
theorem dX11_keepsAhead_123 : decode prog_13_method_31_code 123 = .ok (.istore_n 1, 1) := by decide +kernel
theorem dX11_keepsAhead_124 : decode prog_13_method_31_code 124 = .ok (.iload_n 1, 1) := by decide +kernel
theorem dX11_keepsAhead_125 : decode prog_13_method_31_code 125 = .ok (.aload_n 0, 1) := by decide +kernel
theorem dX11_keepsAhead_126 : decode prog_13_method_31_code 126 = .ok (.getfield 34, 3) := by decide +kernel
theorem dX11_keepsAhead_129 : decode prog_13_method_31_code 129 = .ok (.arraylength, 1) := by decide +kernel
theorem dX11_keepsAhead_130 : decode prog_13_method_31_code 130 = .ok (.if_icmp .ge 21, 3) := by decide +kernel
theorem dX11_keepsAhead_133 : decode prog_13_method_31_code 133 = .ok (.aload_n 0, 1) := by decide +kernel
theorem dX11_keepsAhead_134 : decode prog_13_method_31_code 134 = .ok (.getfield 98, 3) := by decide +kernel
theorem dX11_keepsAhead_137 : decode prog_13_method_31_code 137 = .ok (.iload_n 1, 1) := by decide +kernel
theorem dX11_keepsAhead_138 : decode prog_13_method_31_code 138 = .ok (.aload_n 0, 1) := by decide +kernel
theorem dX11_keepsAhead_139 : decode prog_13_method_31_code 139 = .ok (.getfield 34, 3) := by decide +kernel
theorem dX11_keepsAhead_142 : decode prog_13_method_31_code 142 = .ok (.iload_n 1, 1) := by decide +kernel
theorem dX11_keepsAhead_143 : decode prog_13_method_31_code 143 = .ok (.iaload, 1) := by decide +kernel
theorem dX11_keepsAhead_144 : decode prog_13_method_31_code 144 = .ok (.iastore, 1) := by decide +kernel
theorem dX11_keepsAhead_145 : decode prog_13_method_31_code 145 = .ok (.iinc 1 1, 3) := by decide +kernel
theorem dX11_keepsAhead_148 : decode prog_13_method_31_code 148 = .ok (.goto (-24), 3) := by decide +kernel
theorem dX11_keepsAhead_151 : decode prog_13_method_31_code 151 = .ok (.return_, 1) := by decide +kernel
theorem dX11_laysBack_0 : decode prog_13_method_32_code 0 = .ok (.iconst 0, 1) := by decide +kernel
theorem dX11_laysBack_1 : decode prog_13_method_32_code 1 = .ok (.istore_n 1, 1) := by decide +kernel
theorem dX11_laysBack_2 : decode prog_13_method_32_code 2 = .ok (.iload_n 1, 1) := by decide +kernel
theorem dX11_laysBack_3 : decode prog_13_method_32_code 3 = .ok (.bipush 32, 2) := by decide +kernel
theorem dX11_laysBack_5 : decode prog_13_method_32_code 5 = .ok (.if_icmp .ge 117, 3) := by decide +kernel
theorem dX11_laysBack_8 : decode prog_13_method_32_code 8 = .ok (.aload_n 0, 1) := by decide +kernel
theorem dX11_laysBack_9 : decode prog_13_method_32_code 9 = .ok (.getfield 11, 3) := by decide +kernel
theorem dX11_laysBack_12 : decode prog_13_method_32_code 12 = .ok (.iload_n 1, 1) := by decide +kernel
theorem dX11_laysBack_13 : decode prog_13_method_32_code 13 = .ok (.aload_n 0, 1) := by decide +kernel
theorem dX11_laysBack_14 : decode prog_13_method_32_code 14 = .ok (.getfield 80, 3) := by decide +kernel
theorem dX11_laysBack_17 : decode prog_13_method_32_code 17 = .ok (.iload_n 1, 1) := by decide +kernel
theorem dX11_laysBack_18 : decode prog_13_method_32_code 18 = .ok (.iaload, 1) := by decide +kernel
theorem dX11_laysBack_19 : decode prog_13_method_32_code 19 = .ok (.iastore, 1) := by decide +kernel
theorem dX11_laysBack_20 : decode prog_13_method_32_code 20 = .ok (.aload_n 0, 1) := by decide +kernel
theorem dX11_laysBack_21 : decode prog_13_method_32_code 21 = .ok (.getfield 15, 3) := by decide +kernel
theorem dX11_laysBack_24 : decode prog_13_method_32_code 24 = .ok (.iload_n 1, 1) := by decide +kernel
theorem dX11_laysBack_25 : decode prog_13_method_32_code 25 = .ok (.aload_n 0, 1) := by decide +kernel
theorem dX11_laysBack_26 : decode prog_13_method_32_code 26 = .ok (.getfield 83, 3) := by decide +kernel
theorem dX11_laysBack_29 : decode prog_13_method_32_code 29 = .ok (.iload_n 1, 1) := by decide +kernel
theorem dX11_laysBack_30 : decode prog_13_method_32_code 30 = .ok (.iaload, 1) := by decide +kernel
theorem dX11_laysBack_31 : decode prog_13_method_32_code 31 = .ok (.iastore, 1) := by decide +kernel
theorem dX11_laysBack_32 : decode prog_13_method_32_code 32 = .ok (.aload_n 0, 1) := by decide +kernel
theorem dX11_laysBack_33 : decode prog_13_method_32_code 33 = .ok (.getfield 18, 3) := by decide +kernel
theorem dX11_laysBack_36 : decode prog_13_method_32_code 36 = .ok (.iload_n 1, 1) := by decide +kernel
theorem dX11_laysBack_37 : decode prog_13_method_32_code 37 = .ok (.aload_n 0, 1) := by decide +kernel
theorem dX11_laysBack_38 : decode prog_13_method_32_code 38 = .ok (.getfield 86, 3) := by decide +kernel
theorem dX11_laysBack_41 : decode prog_13_method_32_code 41 = .ok (.iload_n 1, 1) := by decide +kernel
theorem dX11_laysBack_42 : decode prog_13_method_32_code 42 = .ok (.iaload, 1) := by decide +kernel
theorem dX11_laysBack_43 : decode prog_13_method_32_code 43 = .ok (.iastore, 1) := by decide +kernel
theorem dX11_laysBack_44 : decode prog_13_method_32_code 44 = .ok (.aload_n 0, 1) := by decide +kernel
theorem dX11_laysBack_45 : decode prog_13_method_32_code 45 = .ok (.getfield 21, 3) := by decide +kernel
theorem dX11_laysBack_48 : decode prog_13_method_32_code 48 = .ok (.iload_n 1, 1) := by decide +kernel
theorem dX11_laysBack_49 : decode prog_13_method_32_code 49 = .ok (.aload_n 0, 1) := by decide +kernel
theorem dX11_laysBack_50 : decode prog_13_method_32_code 50 = .ok (.getfield 89, 3) := by decide +kernel
theorem dX11_laysBack_53 : decode prog_13_method_32_code 53 = .ok (.iload_n 1, 1) := by decide +kernel
theorem dX11_laysBack_54 : decode prog_13_method_32_code 54 = .ok (.iaload, 1) := by decide +kernel
theorem dX11_laysBack_55 : decode prog_13_method_32_code 55 = .ok (.iastore, 1) := by decide +kernel
theorem dX11_laysBack_56 : decode prog_13_method_32_code 56 = .ok (.aload_n 0, 1) := by decide +kernel
theorem dX11_laysBack_57 : decode prog_13_method_32_code 57 = .ok (.getfield 24, 3) := by decide +kernel
theorem dX11_laysBack_60 : decode prog_13_method_32_code 60 = .ok (.iload_n 1, 1) := by decide +kernel
theorem dX11_laysBack_61 : decode prog_13_method_32_code 61 = .ok (.aload_n 0, 1) := by decide +kernel
theorem dX11_laysBack_62 : decode prog_13_method_32_code 62 = .ok (.getfield 92, 3) := by decide +kernel
theorem dX11_laysBack_65 : decode prog_13_method_32_code 65 = .ok (.iload_n 1, 1) := by decide +kernel
theorem dX11_laysBack_66 : decode prog_13_method_32_code 66 = .ok (.iaload, 1) := by decide +kernel
theorem dX11_laysBack_67 : decode prog_13_method_32_code 67 = .ok (.iastore, 1) := by decide +kernel
theorem dX11_laysBack_68 : decode prog_13_method_32_code 68 = .ok (.aload_n 0, 1) := by decide +kernel
theorem dX11_laysBack_69 : decode prog_13_method_32_code 69 = .ok (.getfield 27, 3) := by decide +kernel
theorem dX11_laysBack_72 : decode prog_13_method_32_code 72 = .ok (.iload_n 1, 1) := by decide +kernel
theorem dX11_laysBack_73 : decode prog_13_method_32_code 73 = .ok (.aload_n 0, 1) := by decide +kernel
theorem dX11_laysBack_74 : decode prog_13_method_32_code 74 = .ok (.getfield 95, 3) := by decide +kernel
theorem dX11_laysBack_77 : decode prog_13_method_32_code 77 = .ok (.iload_n 1, 1) := by decide +kernel
theorem dX11_laysBack_78 : decode prog_13_method_32_code 78 = .ok (.iaload, 1) := by decide +kernel
theorem dX11_laysBack_79 : decode prog_13_method_32_code 79 = .ok (.iastore, 1) := by decide +kernel
theorem dX11_laysBack_80 : decode prog_13_method_32_code 80 = .ok (.aload_n 0, 1) := by decide +kernel
theorem dX11_laysBack_81 : decode prog_13_method_32_code 81 = .ok (.getfield 30, 3) := by decide +kernel
theorem dX11_laysBack_84 : decode prog_13_method_32_code 84 = .ok (.iload_n 1, 1) := by decide +kernel
theorem dX11_laysBack_85 : decode prog_13_method_32_code 85 = .ok (.aload_n 0, 1) := by decide +kernel
theorem dX11_laysBack_86 : decode prog_13_method_32_code 86 = .ok (.getfield 101, 3) := by decide +kernel
theorem dX11_laysBack_89 : decode prog_13_method_32_code 89 = .ok (.iload_n 1, 1) := by decide +kernel
theorem dX11_laysBack_90 : decode prog_13_method_32_code 90 = .ok (.laload, 1) := by decide +kernel
theorem dX11_laysBack_91 : decode prog_13_method_32_code 91 = .ok (.lastore, 1) := by decide +kernel
theorem dX11_laysBack_92 : decode prog_13_method_32_code 92 = .ok (.aload_n 0, 1) := by decide +kernel
theorem dX11_laysBack_93 : decode prog_13_method_32_code 93 = .ok (.getfield 37, 3) := by decide +kernel
theorem dX11_laysBack_96 : decode prog_13_method_32_code 96 = .ok (.iload_n 1, 1) := by decide +kernel
theorem dX11_laysBack_97 : decode prog_13_method_32_code 97 = .ok (.aload_n 0, 1) := by decide +kernel
theorem dX11_laysBack_98 : decode prog_13_method_32_code 98 = .ok (.getfield 104, 3) := by decide +kernel
theorem dX11_laysBack_101 : decode prog_13_method_32_code 101 = .ok (.iload_n 1, 1) := by decide +kernel
theorem dX11_laysBack_102 : decode prog_13_method_32_code 102 = .ok (.baload, 1) := by decide +kernel
theorem dX11_laysBack_103 : decode prog_13_method_32_code 103 = .ok (.bastore, 1) := by decide +kernel
theorem dX11_laysBack_104 : decode prog_13_method_32_code 104 = .ok (.aload_n 0, 1) := by decide +kernel
theorem dX11_laysBack_105 : decode prog_13_method_32_code 105 = .ok (.getfield 41, 3) := by decide +kernel
theorem dX11_laysBack_108 : decode prog_13_method_32_code 108 = .ok (.iload_n 1, 1) := by decide +kernel
theorem dX11_laysBack_109 : decode prog_13_method_32_code 109 = .ok (.aload_n 0, 1) := by decide +kernel
theorem dX11_laysBack_110 : decode prog_13_method_32_code 110 = .ok (.getfield 107, 3) := by decide +kernel
theorem dX11_laysBack_113 : decode prog_13_method_32_code 113 = .ok (.iload_n 1, 1) := by decide +kernel
theorem dX11_laysBack_114 : decode prog_13_method_32_code 114 = .ok (.baload, 1) := by decide +kernel
theorem dX11_laysBack_115 : decode prog_13_method_32_code 115 = .ok (.bastore, 1) := by decide +kernel
theorem dX11_laysBack_116 : decode prog_13_method_32_code 116 = .ok (.iinc 1 1, 3) := by decide +kernel
theorem dX11_laysBack_119 : decode prog_13_method_32_code 119 = .ok (.goto (-117), 3) := by decide +kernel
theorem dX11_laysBack_122 : decode prog_13_method_32_code 122 = .ok (.iconst 0, 1) := by decide +kernel
theorem dX11_laysBack_123 : decode prog_13_method_32_code 123 = .ok (.istore_n 1, 1) := by decide +kernel
theorem dX11_laysBack_124 : decode prog_13_method_32_code 124 = .ok (.iload_n 1, 1) := by decide +kernel
theorem dX11_laysBack_125 : decode prog_13_method_32_code 125 = .ok (.aload_n 0, 1) := by decide +kernel
theorem dX11_laysBack_126 : decode prog_13_method_32_code 126 = .ok (.getfield 34, 3) := by decide +kernel
theorem dX11_laysBack_129 : decode prog_13_method_32_code 129 = .ok (.arraylength, 1) := by decide +kernel
theorem dX11_laysBack_130 : decode prog_13_method_32_code 130 = .ok (.if_icmp .ge 21, 3) := by decide +kernel
theorem dX11_laysBack_133 : decode prog_13_method_32_code 133 = .ok (.aload_n 0, 1) := by decide +kernel
theorem dX11_laysBack_134 : decode prog_13_method_32_code 134 = .ok (.getfield 34, 3) := by decide +kernel
theorem dX11_laysBack_137 : decode prog_13_method_32_code 137 = .ok (.iload_n 1, 1) := by decide +kernel
theorem dX11_laysBack_138 : decode prog_13_method_32_code 138 = .ok (.aload_n 0, 1) := by decide +kernel
theorem dX11_laysBack_139 : decode prog_13_method_32_code 139 = .ok (.getfield 98, 3) := by decide +kernel
theorem dX11_laysBack_142 : decode prog_13_method_32_code 142 = .ok (.iload_n 1, 1) := by decide +kernel
theorem dX11_laysBack_143 : decode prog_13_method_32_code 143 = .ok (.iaload, 1) := by decide +kernel
theorem dX11_laysBack_144 : decode prog_13_method_32_code 144 = .ok (.iastore, 1) := by decide +kernel
theorem dX11_laysBack_145 : decode prog_13_method_32_code 145 = .ok (.iinc 1 1, 3) := by decide +kernel
theorem dX11_laysBack_148 : decode prog_13_method_32_code 148 = .ok (.goto (-24), 3) := by decide +kernel
theorem dX11_laysBack_151 : decode prog_13_method_32_code 151 = .ok (.return_, 1) := by decide +kernel
theorem dX11_ofCell_0 : decode prog_13_method_19_code 0 = .ok (.iload_n 0, 1) := by decide +kernel
theorem dX11_ofCell_1 : decode prog_13_method_19_code 1 = .ok (.sipush 128, 3) := by decide +kernel
theorem dX11_ofCell_4 : decode prog_13_method_19_code 4 = .ok (.imul, 1) := by decide +kernel
theorem dX11_ofCell_5 : decode prog_13_method_19_code 5 = .ok (.ireturn, 1) := by decide +kernel
theorem dX11_ofTold_0 : decode prog_13_method_21_code 0 = .ok (.bipush 64, 2) := by decide +kernel
theorem dX11_ofTold_2 : decode prog_13_method_21_code 2 = .ok (.iload_n 0, 1) := by decide +kernel
theorem dX11_ofTold_3 : decode prog_13_method_21_code 3 = .ok (.iadd, 1) := by decide +kernel
theorem dX11_ofTold_4 : decode prog_13_method_21_code 4 = .ok (.sipush 128, 3) := by decide +kernel
theorem dX11_ofTold_7 : decode prog_13_method_21_code 7 = .ok (.imul, 1) := by decide +kernel
theorem dX11_ofTold_8 : decode prog_13_method_21_code 8 = .ok (.ireturn, 1) := by decide +kernel
theorem dX11_settle_0 : decode prog_13_method_28_code 0 = .ok (.aload_n 0, 1) := by decide +kernel
theorem dX11_settle_1 : decode prog_13_method_28_code 1 = .ok (.getfield 242, 3) := by decide +kernel
theorem dX11_settle_4 : decode prog_13_method_28_code 4 = .ok (.ifCond .ne 13, 3) := by decide +kernel
theorem dX11_settle_7 : decode prog_13_method_28_code 7 = .ok (.aload_n 0, 1) := by decide +kernel
theorem dX11_settle_8 : decode prog_13_method_28_code 8 = .ok (.getfield 110, 3) := by decide +kernel
theorem dX11_settle_11 : decode prog_13_method_28_code 11 = .ok (.iload_n 1, 1) := by decide +kernel
theorem dX11_settle_12 : decode prog_13_method_28_code 12 = .ok (.iaload, 1) := by decide +kernel
theorem dX11_settle_13 : decode prog_13_method_28_code 13 = .ok (.iconst 2, 1) := by decide +kernel
theorem dX11_settle_14 : decode prog_13_method_28_code 14 = .ok (.if_icmp .ne 4, 3) := by decide +kernel
theorem dX11_settle_17 : decode prog_13_method_28_code 17 = .ok (.return_, 1) := by decide +kernel
theorem dX11_settle_18 : decode prog_13_method_28_code 18 = .ok (.aload_n 0, 1) := by decide +kernel
theorem dX11_settle_19 : decode prog_13_method_28_code 19 = .ok (.getfield 110, 3) := by decide +kernel
theorem dX11_settle_22 : decode prog_13_method_28_code 22 = .ok (.iload_n 1, 1) := by decide +kernel
theorem dX11_settle_23 : decode prog_13_method_28_code 23 = .ok (.iaload, 1) := by decide +kernel
theorem dX11_settle_24 : decode prog_13_method_28_code 24 = .ok (.iconst 1, 1) := by decide +kernel
theorem dX11_settle_25 : decode prog_13_method_28_code 25 = .ok (.if_icmp .ne 9, 3) := by decide +kernel
theorem dX11_settle_28 : decode prog_13_method_28_code 28 = .ok (.aload_n 0, 1) := by decide +kernel
theorem dX11_settle_29 : decode prog_13_method_28_code 29 = .ok (.iconst 1, 1) := by decide +kernel
theorem dX11_settle_30 : decode prog_13_method_28_code 30 = .ok (.putfield 242, 3) := by decide +kernel
theorem dX11_settle_33 : decode prog_13_method_28_code 33 = .ok (.return_, 1) := by decide +kernel
theorem dX11_settle_34 : decode prog_13_method_28_code 34 = .ok (.aload_n 0, 1) := by decide +kernel
theorem dX11_settle_35 : decode prog_13_method_28_code 35 = .ok (.getfield 110, 3) := by decide +kernel
theorem dX11_settle_38 : decode prog_13_method_28_code 38 = .ok (.iload_n 1, 1) := by decide +kernel
theorem dX11_settle_39 : decode prog_13_method_28_code 39 = .ok (.iconst 1, 1) := by decide +kernel
theorem dX11_settle_40 : decode prog_13_method_28_code 40 = .ok (.iastore, 1) := by decide +kernel
theorem dX11_settle_41 : decode prog_13_method_28_code 41 = .ok (.aload_n 0, 1) := by decide +kernel
theorem dX11_settle_42 : decode prog_13_method_28_code 42 = .ok (.getfield 11, 3) := by decide +kernel
theorem dX11_settle_45 : decode prog_13_method_28_code 45 = .ok (.iload_n 1, 1) := by decide +kernel
theorem dX11_settle_46 : decode prog_13_method_28_code 46 = .ok (.iaload, 1) := by decide +kernel
theorem dX11_settle_47 : decode prog_13_method_28_code 47 = .ok (.iconst 2, 1) := by decide +kernel
theorem dX11_settle_48 : decode prog_13_method_28_code 48 = .ok (.if_icmp .ne 101, 3) := by decide +kernel
theorem dX11_settle_51 : decode prog_13_method_28_code 51 = .ok (.aload_n 0, 1) := by decide +kernel
theorem dX11_settle_52 : decode prog_13_method_28_code 52 = .ok (.getfield 56, 3) := by decide +kernel
theorem dX11_settle_55 : decode prog_13_method_28_code 55 = .ok (.iload_n 1, 1) := by decide +kernel
theorem dX11_settle_56 : decode prog_13_method_28_code 56 = .ok (.baload, 1) := by decide +kernel
theorem dX11_settle_57 : decode prog_13_method_28_code 57 = .ok (.istore_n 2, 1) := by decide +kernel
theorem dX11_settle_58 : decode prog_13_method_28_code 58 = .ok (.iconst 0, 1) := by decide +kernel
theorem dX11_settle_59 : decode prog_13_method_28_code 59 = .ok (.istore_n 3, 1) := by decide +kernel
theorem dX11_settle_60 : decode prog_13_method_28_code 60 = .ok (.iload_n 3, 1) := by decide +kernel
theorem dX11_settle_61 : decode prog_13_method_28_code 61 = .ok (.aload_n 0, 1) := by decide +kernel
theorem dX11_settle_62 : decode prog_13_method_28_code 62 = .ok (.getfield 21, 3) := by decide +kernel
theorem dX11_settle_65 : decode prog_13_method_28_code 65 = .ok (.iload_n 1, 1) := by decide +kernel
theorem dX11_settle_66 : decode prog_13_method_28_code 66 = .ok (.iaload, 1) := by decide +kernel
theorem dX11_settle_67 : decode prog_13_method_28_code 67 = .ok (.if_icmp .ge 66, 3) := by decide +kernel
theorem dX11_settle_70 : decode prog_13_method_28_code 70 = .ok (.iload_n 2, 1) := by decide +kernel
theorem dX11_settle_71 : decode prog_13_method_28_code 71 = .ok (.ifCond .ne 62, 3) := by decide +kernel
theorem dX11_settle_74 : decode prog_13_method_28_code 74 = .ok (.aload_n 0, 1) := by decide +kernel
theorem dX11_settle_75 : decode prog_13_method_28_code 75 = .ok (.getfield 242, 3) := by decide +kernel
theorem dX11_settle_78 : decode prog_13_method_28_code 78 = .ok (.ifCond .ne 55, 3) := by decide +kernel
theorem dX11_settle_81 : decode prog_13_method_28_code 81 = .ok (.aload_n 0, 1) := by decide +kernel
theorem dX11_settle_82 : decode prog_13_method_28_code 82 = .ok (.getfield 34, 3) := by decide +kernel
theorem dX11_settle_85 : decode prog_13_method_28_code 85 = .ok (.bipush 32, 2) := by decide +kernel
theorem dX11_settle_87 : decode prog_13_method_28_code 87 = .ok (.iload_n 1, 1) := by decide +kernel
theorem dX11_settle_88 : decode prog_13_method_28_code 88 = .ok (.imul, 1) := by decide +kernel
theorem dX11_settle_89 : decode prog_13_method_28_code 89 = .ok (.iload_n 3, 1) := by decide +kernel
theorem dX11_settle_90 : decode prog_13_method_28_code 90 = .ok (.iadd, 1) := by decide +kernel
theorem dX11_settle_91 : decode prog_13_method_28_code 91 = .ok (.iaload, 1) := by decide +kernel
theorem dX11_settle_92 : decode prog_13_method_28_code 92 = .ok (.istore 4, 2) := by decide +kernel
theorem dX11_settle_94 : decode prog_13_method_28_code 94 = .ok (.aload_n 0, 1) := by decide +kernel
theorem dX11_settle_95 : decode prog_13_method_28_code 95 = .ok (.iload 4, 2) := by decide +kernel
theorem dX11_settle_97 : decode prog_13_method_28_code 97 = .ok (.invokevirtual 239, 3) := by decide +kernel
theorem dX11_settle_133 : decode prog_13_method_28_code 133 = .ok (.iload_n 2, 1) := by decide +kernel
theorem dX11_settle_134 : decode prog_13_method_28_code 134 = .ok (.ifCond .eq 15, 3) := by decide +kernel
theorem dX11_settle_137 : decode prog_13_method_28_code 137 = .ok (.aload_n 0, 1) := by decide +kernel
theorem dX11_settle_138 : decode prog_13_method_28_code 138 = .ok (.getfield 242, 3) := by decide +kernel
theorem dX11_settle_141 : decode prog_13_method_28_code 141 = .ok (.ifCond .ne 8, 3) := by decide +kernel
theorem dX11_settle_144 : decode prog_13_method_28_code 144 = .ok (.aload_n 0, 1) := by decide +kernel
theorem dX11_settle_145 : decode prog_13_method_28_code 145 = .ok (.iload_n 1, 1) := by decide +kernel
theorem dX11_settle_146 : decode prog_13_method_28_code 146 = .ok (.invokevirtual 281, 3) := by decide +kernel
theorem dX11_settle_149 : decode prog_13_method_28_code 149 = .ok (.aload_n 0, 1) := by decide +kernel
theorem dX11_settle_150 : decode prog_13_method_28_code 150 = .ok (.getfield 110, 3) := by decide +kernel
theorem dX11_settle_153 : decode prog_13_method_28_code 153 = .ok (.iload_n 1, 1) := by decide +kernel
theorem dX11_settle_154 : decode prog_13_method_28_code 154 = .ok (.iconst 2, 1) := by decide +kernel
theorem dX11_settle_155 : decode prog_13_method_28_code 155 = .ok (.iastore, 1) := by decide +kernel
theorem dX11_settle_156 : decode prog_13_method_28_code 156 = .ok (.return_, 1) := by decide +kernel
theorem dX11_swaps_0 : decode prog_13_method_34_code 0 = .ok (.iconst 0, 1) := by decide +kernel
theorem dX11_swaps_1 : decode prog_13_method_34_code 1 = .ok (.istore_n 1, 1) := by decide +kernel
theorem dX11_swaps_2 : decode prog_13_method_34_code 2 = .ok (.iload_n 1, 1) := by decide +kernel
theorem dX11_swaps_3 : decode prog_13_method_34_code 3 = .ok (.bipush 32, 2) := by decide +kernel
theorem dX11_swaps_5 : decode prog_13_method_34_code 5 = .ok (.if_icmp .ge 40, 3) := by decide +kernel
theorem dX11_swaps_8 : decode prog_13_method_34_code 8 = .ok (.aload_n 0, 1) := by decide +kernel
theorem dX11_swaps_9 : decode prog_13_method_34_code 9 = .ok (.getfield 56, 3) := by decide +kernel
theorem dX11_swaps_12 : decode prog_13_method_34_code 12 = .ok (.iload_n 1, 1) := by decide +kernel
theorem dX11_swaps_13 : decode prog_13_method_34_code 13 = .ok (.baload, 1) := by decide +kernel
theorem dX11_swaps_14 : decode prog_13_method_34_code 14 = .ok (.ifCond .eq 25, 3) := by decide +kernel
theorem dX11_swaps_17 : decode prog_13_method_34_code 17 = .ok (.aload_n 0, 1) := by decide +kernel
theorem dX11_swaps_18 : decode prog_13_method_34_code 18 = .ok (.getfield 62, 3) := by decide +kernel
theorem dX11_swaps_21 : decode prog_13_method_34_code 21 = .ok (.iload_n 1, 1) := by decide +kernel
theorem dX11_swaps_22 : decode prog_13_method_34_code 22 = .ok (.iaload, 1) := by decide +kernel
theorem dX11_swaps_23 : decode prog_13_method_34_code 23 = .ok (.iconst 2, 1) := by decide +kernel
theorem dX11_swaps_24 : decode prog_13_method_34_code 24 = .ok (.if_icmp .ne 15, 3) := by decide +kernel
theorem dX11_swaps_27 : decode prog_13_method_34_code 27 = .ok (.aload_n 0, 1) := by decide +kernel
theorem dX11_swaps_28 : decode prog_13_method_34_code 28 = .ok (.iload_n 1, 1) := by decide +kernel
theorem dX11_swaps_29 : decode prog_13_method_34_code 29 = .ok (.invokestatic 283, 3) := by decide +kernel
theorem dX11_swaps_32 : decode prog_13_method_34_code 32 = .ok (.iload_n 1, 1) := by decide +kernel
theorem dX11_swaps_33 : decode prog_13_method_34_code 33 = .ok (.invokestatic 293, 3) := by decide +kernel
theorem dX11_swaps_36 : decode prog_13_method_34_code 36 = .ok (.invokevirtual 296, 3) := by decide +kernel
theorem dX11_swaps_39 : decode prog_13_method_34_code 39 = .ok (.iinc 1 1, 3) := by decide +kernel
theorem dX11_swaps_42 : decode prog_13_method_34_code 42 = .ok (.goto (-40), 3) := by decide +kernel
theorem dX11_swaps_45 : decode prog_13_method_34_code 45 = .ok (.return_, 1) := by decide +kernel
theorem dX11_tell_0 : decode prog_13_method_38_code 0 = .ok (.aload_n 0, 1) := by decide +kernel
theorem dX11_tell_1 : decode prog_13_method_38_code 1 = .ok (.getfield 56, 3) := by decide +kernel
theorem dX11_tell_4 : decode prog_13_method_38_code 4 = .ok (.iload_n 1, 1) := by decide +kernel
theorem dX11_tell_5 : decode prog_13_method_38_code 5 = .ok (.iconst 1, 1) := by decide +kernel
theorem dX11_tell_6 : decode prog_13_method_38_code 6 = .ok (.bastore, 1) := by decide +kernel
theorem dX11_tell_7 : decode prog_13_method_38_code 7 = .ok (.aload_n 0, 1) := by decide +kernel
theorem dX11_tell_8 : decode prog_13_method_38_code 8 = .ok (.getfield 62, 3) := by decide +kernel
theorem dX11_tell_11 : decode prog_13_method_38_code 11 = .ok (.iload_n 1, 1) := by decide +kernel
theorem dX11_tell_12 : decode prog_13_method_38_code 12 = .ok (.iload_n 2, 1) := by decide +kernel
theorem dX11_tell_13 : decode prog_13_method_38_code 13 = .ok (.iastore, 1) := by decide +kernel
theorem dX11_tell_14 : decode prog_13_method_38_code 14 = .ok (.aload_n 0, 1) := by decide +kernel
theorem dX11_tell_15 : decode prog_13_method_38_code 15 = .ok (.getfield 74, 3) := by decide +kernel
theorem dX11_tell_18 : decode prog_13_method_38_code 18 = .ok (.iload_n 1, 1) := by decide +kernel
theorem dX11_tell_19 : decode prog_13_method_38_code 19 = .ok (.lload_n 3, 1) := by decide +kernel
theorem dX11_tell_20 : decode prog_13_method_38_code 20 = .ok (.lastore, 1) := by decide +kernel
theorem dX11_tell_21 : decode prog_13_method_38_code 21 = .ok (.aload_n 0, 1) := by decide +kernel
theorem dX11_tell_22 : decode prog_13_method_38_code 22 = .ok (.getfield 65, 3) := by decide +kernel
theorem dX11_tell_25 : decode prog_13_method_38_code 25 = .ok (.iload_n 1, 1) := by decide +kernel
theorem dX11_tell_26 : decode prog_13_method_38_code 26 = .ok (.iload 5, 2) := by decide +kernel
theorem dX11_tell_28 : decode prog_13_method_38_code 28 = .ok (.iastore, 1) := by decide +kernel
theorem dX11_tell_29 : decode prog_13_method_38_code 29 = .ok (.return_, 1) := by decide +kernel
theorem dX11_tellsNothing_0 : decode prog_13_method_37_code 0 = .ok (.iconst 0, 1) := by decide +kernel
theorem dX11_tellsNothing_1 : decode prog_13_method_37_code 1 = .ok (.istore_n 1, 1) := by decide +kernel
theorem dX11_tellsNothing_2 : decode prog_13_method_37_code 2 = .ok (.iload_n 1, 1) := by decide +kernel
theorem dX11_tellsNothing_3 : decode prog_13_method_37_code 3 = .ok (.bipush 32, 2) := by decide +kernel
theorem dX11_tellsNothing_5 : decode prog_13_method_37_code 5 = .ok (.if_icmp .ge 16, 3) := by decide +kernel
theorem dX11_tellsNothing_8 : decode prog_13_method_37_code 8 = .ok (.aload_n 0, 1) := by decide +kernel
theorem dX11_tellsNothing_9 : decode prog_13_method_37_code 9 = .ok (.getfield 56, 3) := by decide +kernel
theorem dX11_tellsNothing_12 : decode prog_13_method_37_code 12 = .ok (.iload_n 1, 1) := by decide +kernel
theorem dX11_tellsNothing_13 : decode prog_13_method_37_code 13 = .ok (.iconst 0, 1) := by decide +kernel
theorem dX11_tellsNothing_14 : decode prog_13_method_37_code 14 = .ok (.bastore, 1) := by decide +kernel
theorem dX11_tellsNothing_15 : decode prog_13_method_37_code 15 = .ok (.iinc 1 1, 3) := by decide +kernel
theorem dX11_tellsNothing_18 : decode prog_13_method_37_code 18 = .ok (.goto (-16), 3) := by decide +kernel
theorem dX11_tellsNothing_21 : decode prog_13_method_37_code 21 = .ok (.return_, 1) := by decide +kernel
theorem dX11_undoes_0 : decode prog_13_method_36_code 0 = .ok (.aload_n 0, 1) := by decide +kernel
theorem dX11_undoes_1 : decode prog_13_method_36_code 1 = .ok (.invokevirtual 303, 3) := by decide +kernel
theorem dX11_undoes_4 : decode prog_13_method_36_code 4 = .ok (.aload_n 0, 1) := by decide +kernel
theorem dX11_undoes_5 : decode prog_13_method_36_code 5 = .ok (.invokevirtual 306, 3) := by decide +kernel
theorem dX11_undoes_8 : decode prog_13_method_36_code 8 = .ok (.return_, 1) := by decide +kernel
/-! ReactiveSheetModel.isIn(III)Z [] -/
abbrev rm_M_X11_isIn : Room := { frames := 0, cells := 0, slots := 0, locals := 0 }
def b_M_X11_isIn_15  (t : fw_S) (z0 : Int32) : Option (Int32 × fw_S) := fb_g (z0 = 0 ∨ z0 = 1) (some (z0, t))
def b_M_X11_isIn_14  (t : fw_S)  : Option (Int32 × fw_S) := b_M_X11_isIn_15 t ((0 : Int32))
def b_M_X11_isIn_10  (t : fw_S)  : Option (Int32 × fw_S) := b_M_X11_isIn_15 t ((1 : Int32))
def b_M_X11_isIn_5  (t : fw_S) (x0 : Int32) (x2 : Int32) : Option (Int32 × fw_S) := if x2 < x0 then b_M_X11_isIn_14 t else b_M_X11_isIn_10 t
def b_M_X11_isIn_0  (t : fw_S) (x0 : Int32) (x1 : Int32) (x2 : Int32) : Option (Int32 × fw_S) := if x0 < x1 then b_M_X11_isIn_14 t else b_M_X11_isIn_5 t x0 x2
def f_M_X11_isIn (t : fw_S) (x0 : Int32) (x1 : Int32) (x2 : Int32) : Option (Int32 × fw_S) := b_M_X11_isIn_0 t x0 x1 x2
set_option maxRecDepth 20000 in
theorem w_M_X11_isIn_15 {p : Program} {l : Launch} {e : Env} {s : State} {m : MethodId} {args : Array Value} {below : List Frame} {meth : Method} {c : Code} {A : Nat → Prop} {Q : State → Prop} {D : va_G} {ca : Nat → ClassId} {a : Nat → Nat} {u : fw_S} {r : Int32}  (C : CX (WM ca a) D (tyv ca) p s m args c A prog_13_method_2_code 3 RX11) (hr : (r = 0 ∨ r = 1) → RX (WM ca a) D p l e rm_M_X11_isIn s m args below meth c A prog_13_method_2_code Q .ireturn [.int r] u) {t : fw_S} {z0 : Int32} {H : Heap} {locs : List Loc} {ls : Array Slot} (hf : b_M_X11_isIn_15  t z0 = some (r, u)) (hP : va_P D classes (WM ca a t) H) (hS : va_S A s.heap H locs) (hl : lv_has ls 3 []) : W p l e rm_M_X11_isIn s m args below meth c H locs 0 0 Q (F0 m 15 ls [.int z0]) := by
  obtain ⟨hx, hb, hml, hown, hts, hN, hK, hD, hA⟩ := id C
  have hf : (fb_g (z0 = 0 ∨ z0 = 1) (some (z0, t))) = some (r, u) := hf
  obtain ⟨h_15, hf⟩ := fb_if hf
  obtain ⟨e_15, e2_15⟩ := fb_e hf
  subst e_15; subst e2_15
  exact hr h_15 _ _ _ _ hP hS dX11_isIn_15
set_option maxRecDepth 20000 in
theorem w_M_X11_isIn_14 {p : Program} {l : Launch} {e : Env} {s : State} {m : MethodId} {args : Array Value} {below : List Frame} {meth : Method} {c : Code} {A : Nat → Prop} {Q : State → Prop} {D : va_G} {ca : Nat → ClassId} {a : Nat → Nat} {u : fw_S} {r : Int32}  (C : CX (WM ca a) D (tyv ca) p s m args c A prog_13_method_2_code 3 RX11) (hr : (r = 0 ∨ r = 1) → RX (WM ca a) D p l e rm_M_X11_isIn s m args below meth c A prog_13_method_2_code Q .ireturn [.int r] u) {t : fw_S}  {H : Heap} {locs : List Loc} {ls : Array Slot} (hf : b_M_X11_isIn_14  t  = some (r, u)) (hP : va_P D classes (WM ca a t) H) (hS : va_S A s.heap H locs) (hl : lv_has ls 3 []) : W p l e rm_M_X11_isIn s m args below meth c H locs 0 0 Q (F0 m 14 ls []) := by
  obtain ⟨hx, hb, hml, hown, hts, hN, hK, hD, hA⟩ := id C
  have hf : (b_M_X11_isIn_15 t ((0 : Int32))) = some (r, u) := hf
  refine lv_iconst (v := 0) hx hb dX11_isIn_14 (by decide) ?_
  exact w_M_X11_isIn_15 C hr hf hP hS (lv_sub hl [] rfl)
set_option maxRecDepth 20000 in
theorem w_M_X11_isIn_10 {p : Program} {l : Launch} {e : Env} {s : State} {m : MethodId} {args : Array Value} {below : List Frame} {meth : Method} {c : Code} {A : Nat → Prop} {Q : State → Prop} {D : va_G} {ca : Nat → ClassId} {a : Nat → Nat} {u : fw_S} {r : Int32}  (C : CX (WM ca a) D (tyv ca) p s m args c A prog_13_method_2_code 3 RX11) (hr : (r = 0 ∨ r = 1) → RX (WM ca a) D p l e rm_M_X11_isIn s m args below meth c A prog_13_method_2_code Q .ireturn [.int r] u) {t : fw_S}  {H : Heap} {locs : List Loc} {ls : Array Slot} (hf : b_M_X11_isIn_10  t  = some (r, u)) (hP : va_P D classes (WM ca a t) H) (hS : va_S A s.heap H locs) (hl : lv_has ls 3 []) : W p l e rm_M_X11_isIn s m args below meth c H locs 0 0 Q (F0 m 10 ls []) := by
  obtain ⟨hx, hb, hml, hown, hts, hN, hK, hD, hA⟩ := id C
  have hf : (b_M_X11_isIn_15 t ((1 : Int32))) = some (r, u) := hf
  refine lv_iconst (v := 1) hx hb dX11_isIn_10 (by decide) ?_
  refine lv_goto (tgt := 15) hx hb dX11_isIn_11 (by decide) ?_
  exact w_M_X11_isIn_15 C hr hf hP hS (lv_sub hl [] rfl)
set_option maxRecDepth 20000 in
theorem w_M_X11_isIn_5 {p : Program} {l : Launch} {e : Env} {s : State} {m : MethodId} {args : Array Value} {below : List Frame} {meth : Method} {c : Code} {A : Nat → Prop} {Q : State → Prop} {D : va_G} {ca : Nat → ClassId} {a : Nat → Nat} {u : fw_S} {r : Int32}  (C : CX (WM ca a) D (tyv ca) p s m args c A prog_13_method_2_code 3 RX11) (hr : (r = 0 ∨ r = 1) → RX (WM ca a) D p l e rm_M_X11_isIn s m args below meth c A prog_13_method_2_code Q .ireturn [.int r] u) {t : fw_S} {x0 : Int32} {x2 : Int32} {H : Heap} {locs : List Loc} {ls : Array Slot} (hf : b_M_X11_isIn_5  t x0 x2 = some (r, u)) (hP : va_P D classes (WM ca a t) H) (hS : va_S A s.heap H locs) (hl : lv_has ls 3 [(0, .int x0), (2, .int x2)]) : W p l e rm_M_X11_isIn s m args below meth c H locs 0 0 Q (F0 m 5 ls []) := by
  obtain ⟨hx, hb, hml, hown, hts, hN, hK, hD, hA⟩ := id C
  have hf : (if x2 < x0 then b_M_X11_isIn_14 t else b_M_X11_isIn_10 t) = some (r, u) := hf
  refine lv_iload_n hx hb dX11_isIn_5 rfl (lv_at hl 0 rfl) ?_
  refine lv_iload_n hx hb dX11_isIn_6 rfl (lv_at hl 1 rfl) ?_
  refine lv_icmp_gt (tgt := 14) hx hb dX11_isIn_7 (by decide) (fun h_7 => ?_) (fun h_7 => ?_)
  · have hf := fb_t h_7 hf
    exact w_M_X11_isIn_14 C hr hf hP hS (lv_sub hl [] rfl)
  · have hf := fb_f h_7 hf
    exact w_M_X11_isIn_10 C hr hf hP hS (lv_sub hl [] rfl)
set_option maxRecDepth 20000 in
theorem w_M_X11_isIn_0 {p : Program} {l : Launch} {e : Env} {s : State} {m : MethodId} {args : Array Value} {below : List Frame} {meth : Method} {c : Code} {A : Nat → Prop} {Q : State → Prop} {D : va_G} {ca : Nat → ClassId} {a : Nat → Nat} {u : fw_S} {r : Int32}  (C : CX (WM ca a) D (tyv ca) p s m args c A prog_13_method_2_code 3 RX11) (hr : (r = 0 ∨ r = 1) → RX (WM ca a) D p l e rm_M_X11_isIn s m args below meth c A prog_13_method_2_code Q .ireturn [.int r] u) {t : fw_S} {x0 : Int32} {x1 : Int32} {x2 : Int32} {H : Heap} {locs : List Loc} {ls : Array Slot} (hf : b_M_X11_isIn_0  t x0 x1 x2 = some (r, u)) (hP : va_P D classes (WM ca a t) H) (hS : va_S A s.heap H locs) (hl : lv_has ls 3 [(0, .int x0), (1, .int x1), (2, .int x2)]) : W p l e rm_M_X11_isIn s m args below meth c H locs 0 0 Q (F0 m 0 ls []) := by
  obtain ⟨hx, hb, hml, hown, hts, hN, hK, hD, hA⟩ := id C
  have hf : (if x0 < x1 then b_M_X11_isIn_14 t else b_M_X11_isIn_5 t x0 x2) = some (r, u) := hf
  refine lv_iload_n hx hb dX11_isIn_0 rfl (lv_at hl 0 rfl) ?_
  refine lv_iload_n hx hb dX11_isIn_1 rfl (lv_at hl 1 rfl) ?_
  refine lv_icmp_lt (tgt := 14) hx hb dX11_isIn_2 (by decide) (fun h_2 => ?_) (fun h_2 => ?_)
  · have hf := fb_t h_2 hf
    exact w_M_X11_isIn_14 C hr hf hP hS (lv_sub hl [] rfl)
  · have hf := fb_f h_2 hf
    exact w_M_X11_isIn_5 C hr hf hP hS (lv_sub hl [0, 2] rfl)
set_option maxRecDepth 20000 in
theorem c_M_X11_isIn {l : Launch} {D : va_G} {ca : Nat → ClassId} {a : Nat → Nat} {t : fw_S} {x0 : Int32} {x1 : Int32} {x2 : Int32} {u : fw_S} {r : Int32} (hf : f_M_X11_isIn t x0 x1 x2 = some (r, u)) : MC (WM ca a) D (tyv ca) l yX11_isIn (.code yX11_isIn prog_13_method_2_code 3 (some .boolean) :: lw_gd) rm_M_X11_isIn [.int x0, .int x1, .int x2] (some (.int r)) t u := by
  refine fw_met (okM ca a) (by decide +kernel) rfl rfl (Nat.le_of_ble_eq_true rfl) ?_
  intro p e s m args below meth c A Q ls C hr hk hP hS hl hQ
  exact w_M_X11_isIn_0 C (fun hz => fw_rz C hr hk hz hQ) hf hP hS (lv_sub hl [0, 1, 2] rfl)
/-! ReactiveSheetModel.isCell(I)Z [] -/
abbrev rm_M_X11_isCell : Room := { frames := 1, cells := 0, slots := 0, locals := 22 }
def b_M_X11_isCell_0  (t : fw_S) (x0 : Int32) : Option (Int32 × fw_S) := fb_b (f_M_X11_isIn t x0 ((0 : Int32)) ((31 : Int32))) fun v_2 t_1 => (fb_g (v_2 = 0 ∨ v_2 = 1) (some (v_2, t_1)))
def f_M_X11_isCell (t : fw_S) (x0 : Int32) : Option (Int32 × fw_S) := b_M_X11_isCell_0 t x0
set_option maxRecDepth 20000 in
theorem w_M_X11_isCell_0 {p : Program} {l : Launch} {e : Env} {s : State} {m : MethodId} {args : Array Value} {below : List Frame} {meth : Method} {c : Code} {A : Nat → Prop} {Q : State → Prop} {D : va_G} {ca : Nat → ClassId} {a : Nat → Nat} {u : fw_S} {r : Int32}  (C : CX (WM ca a) D (tyv ca) p s m args c A prog_13_method_3_code 1 RX11) (hr : (r = 0 ∨ r = 1) → RX (WM ca a) D p l e rm_M_X11_isCell s m args below meth c A prog_13_method_3_code Q .ireturn [.int r] u) {t : fw_S} {x0 : Int32} {H : Heap} {locs : List Loc} {ls : Array Slot} (hf : b_M_X11_isCell_0  t x0 = some (r, u)) (hP : va_P D classes (WM ca a t) H) (hS : va_S A s.heap H locs) (hl : lv_has ls 1 [(0, .int x0)]) : W p l e rm_M_X11_isCell s m args below meth c H locs 0 0 Q (F0 m 0 ls []) := by
  obtain ⟨hx, hb, hml, hown, hts, hN, hK, hD, hA⟩ := id C
  have hf : (fb_b (f_M_X11_isIn t x0 ((0 : Int32)) ((31 : Int32))) fun v_2 t_1 => (fb_g (v_2 = 0 ∨ v_2 = 1) (some (v_2, t_1)))) = some (r, u) := hf
  refine lv_iload_n hx hb dX11_isCell_0 rfl (lv_at hl 0 rfl) ?_
  refine lv_iconst (v := 0) hx hb dX11_isCell_1 (by decide) ?_
  refine lv_bipush (v := 31) hx hb dX11_isCell_2 (by decide) ?_
  obtain ⟨v_2, t_1, g_4, hf⟩ := fb_bs hf
  refine fw_S1 (As := [.int x0, .int ((0 : Int32)), .int ((31 : Int32))]) (rest := []) (n := 3) C (c_M_X11_isIn (l := l) (D := D) (ca := ca) (a := a) g_4) kw_1426 kw_1427 kw_102 kw_1428 hP hS hl rfl rfl (by decide) (by decide +kernel) ⟨Nat.le_of_ble_eq_true rfl, Nat.le_of_ble_eq_true rfl⟩ rfl rfl (Nat.le_of_ble_eq_true rfl) dX11_isCell_4 (fun H locs hP hS => ?_)
  refine W.eq (g2 := F0 m 7 ls [.int v_2]) rfl ?_
  obtain ⟨h_7, hf⟩ := fb_if hf
  obtain ⟨e_7, e2_7⟩ := fb_e hf
  subst e_7; subst e2_7
  exact hr h_7 _ _ _ _ hP hS dX11_isCell_7
set_option maxRecDepth 20000 in
theorem c_M_X11_isCell {l : Launch} {D : va_G} {ca : Nat → ClassId} {a : Nat → Nat} {t : fw_S} {x0 : Int32} {u : fw_S} {r : Int32} (hf : f_M_X11_isCell t x0 = some (r, u)) : MC (WM ca a) D (tyv ca) l yX11_isCell (.code yX11_isCell prog_13_method_3_code 1 (some .boolean) :: lw_gd) rm_M_X11_isCell [.int x0] (some (.int r)) t u := by
  refine fw_met (okM ca a) (by decide +kernel) rfl rfl (Nat.le_of_ble_eq_true rfl) ?_
  intro p e s m args below meth c A Q ls C hr hk hP hS hl hQ
  exact w_M_X11_isCell_0 C (fun hz => fw_rz C hr hk hz hQ) hf hP hS (lv_sub hl [0] rfl)
/-! ReactiveSheetModel.tellsNothing()V ['m'] -/
abbrev rm_M_X11_tellsNothing__0 : Room := { frames := 0, cells := 0, slots := 0, locals := 0 }
def b_M_X11_tellsNothing__0_21  (t : fw_S)  : Option fw_S := some t
def b_M_X11_tellsNothing__0_8 (k2 : fw_S → Int32 → Option fw_S) (t : fw_S) (x1 : Int32) : Option fw_S := fb_g (¬ (x1 < 0 ∨ 32 ≤ x1.toNatClampNeg)) (fb_l (up_F t 13 (upd (st_F t 13) x1.toNatClampNeg (vp_nar .boolean ((0 : Int32))))) fun t_1 => (k2 t_1 (x1 + 1)))
def b_M_X11_tellsNothing__0_2  : Nat → (fw_S → Int32 → Option fw_S)
  | 0 => fun _ _ => none
  | n + 1 => fun t x1 => if ((32 : Int32)) ≤ x1 then b_M_X11_tellsNothing__0_21 t else b_M_X11_tellsNothing__0_8 (b_M_X11_tellsNothing__0_2 n) t x1
def b_M_X11_tellsNothing__0_0  (t : fw_S)  : Option fw_S := b_M_X11_tellsNothing__0_2 3000 t ((0 : Int32))
def f_M_X11_tellsNothing__0 (t : fw_S)  : Option fw_S := b_M_X11_tellsNothing__0_0 t 
set_option maxRecDepth 20000 in
theorem w_M_X11_tellsNothing__0_21 {p : Program} {l : Launch} {e : Env} {s : State} {m : MethodId} {args : Array Value} {below : List Frame} {meth : Method} {c : Code} {A : Nat → Prop} {Q : State → Prop} {D : va_G} {ca : Nat → ClassId} {a : Nat → Nat} {u : fw_S}  (C : CX (WM ca a) D (tyv ca) p s m args c A prog_13_method_37_code 2 RX11) (hr : True → RX (WM ca a) D p l e rm_M_X11_tellsNothing__0 s m args below meth c A prog_13_method_37_code Q .return_ [] u) {t : fw_S}  {H : Heap} {locs : List Loc} {ls : Array Slot} (hf : b_M_X11_tellsNothing__0_21  t  = some u) (hP : va_P D classes (WM ca a t) H) (hS : va_S A s.heap H locs) (hl : lv_has ls 2 []) : W p l e rm_M_X11_tellsNothing__0 s m args below meth c H locs 0 0 Q (F0 m 21 ls []) := by
  obtain ⟨hx, hb, hml, hown, hts, hN, hK, hD, hA⟩ := id C
  have hf : (some t) = some u := hf
  have e_21 := fb_ev hf
  subst e_21
  exact hr trivial _ _ _ _ hP hS dX11_tellsNothing_21
set_option maxRecDepth 20000 in
theorem w_M_X11_tellsNothing__0_8 {p : Program} {l : Launch} {e : Env} {s : State} {m : MethodId} {args : Array Value} {below : List Frame} {meth : Method} {c : Code} {A : Nat → Prop} {Q : State → Prop} {D : va_G} {ca : Nat → ClassId} {a : Nat → Nat} {u : fw_S} {k2 : fw_S → Int32 → Option fw_S} (C : CX (WM ca a) D (tyv ca) p s m args c A prog_13_method_37_code 2 RX11) (hr : True → RX (WM ca a) D p l e rm_M_X11_tellsNothing__0 s m args below meth c A prog_13_method_37_code Q .return_ [] u) (hk2 : ∀ (t : fw_S) (x1 : Int32) (H : Heap) (locs : List Loc) (ls : Array Slot), k2 t x1 = some u → va_P D classes (WM ca a t) H → va_S A s.heap H locs → lv_has ls 2 [(0, .ref (a 0)), (1, .int x1)] → W p l e rm_M_X11_tellsNothing__0 s m args below meth c H locs 0 0 Q (F0 m 2 ls [])) {t : fw_S} {x1 : Int32} {H : Heap} {locs : List Loc} {ls : Array Slot} (hf : b_M_X11_tellsNothing__0_8 k2 t x1 = some u) (hP : va_P D classes (WM ca a t) H) (hS : va_S A s.heap H locs) (hl : lv_has ls 2 [(0, .ref (a 0)), (1, .int x1)]) : W p l e rm_M_X11_tellsNothing__0 s m args below meth c H locs 0 0 Q (F0 m 8 ls []) := by
  obtain ⟨hx, hb, hml, hown, hts, hN, hK, hD, hA⟩ := id C
  have hf : (fb_g (¬ (x1 < 0 ∨ 32 ≤ x1.toNatClampNeg)) (fb_l (up_F t 13 (upd (st_F t 13) x1.toNatClampNeg (vp_nar .boolean ((0 : Int32))))) fun t_1 => (k2 t_1 (x1 + 1)))) = some u := hf
  refine lv_aload_n hx hb dX11_tellsNothing_8 rfl (lv_at hl 0 rfl) ?_
  refine va_get (D := D) (ci := 11) (v := .ref (a 15)) (C := RX11) (T := TX11) (N := 76) hx hb hts inX11 hown hK hP 0 (heM_0 ca a t) rfl 14 (by decide) (hts _ kw_1206) (fun _ h9 => h9) rfl dX11_tellsNothing_9 ?_
  refine lv_iload_n hx hb dX11_tellsNothing_12 rfl (lv_at hl 1 rfl) ?_
  refine lv_iconst (v := 0) hx hb dX11_tellsNothing_13 (by decide) ?_
  obtain ⟨h_14, hf⟩ := fb_if hf
  refine va_zast hx hb hK hP (hD t) hS 15 2 (haM_15 ca a t) rfl h_14 dX11_tellsNothing_14 (fun H locs hP _ hS => ?_)
  rw [saM_15] at hP
  obtain ⟨t_1, e_14, hf⟩ := fb_ls hf
  rw [← e_14] at hP
  refine lv_iinc (v := x1 + 1) (lv' := [(1, .int (x1 + 1)), (0, .ref (a 0))]) hx hb dX11_tellsNothing_15 hl (k := 1) rfl rfl (by decide) rfl (fun ls hl => ?_)
  refine lv_goto (tgt := 2) hx hb dX11_tellsNothing_18 (by decide) ?_
  exact hk2 t_1 (x1 + 1) _ _ _ hf hP hS (lv_sub hl [1, 0] rfl)
set_option maxRecDepth 20000 in
theorem w_M_X11_tellsNothing__0_2 {p : Program} {l : Launch} {e : Env} {s : State} {m : MethodId} {args : Array Value} {below : List Frame} {meth : Method} {c : Code} {A : Nat → Prop} {Q : State → Prop} {D : va_G} {ca : Nat → ClassId} {a : Nat → Nat} {u : fw_S}  (C : CX (WM ca a) D (tyv ca) p s m args c A prog_13_method_37_code 2 RX11) (hr : True → RX (WM ca a) D p l e rm_M_X11_tellsNothing__0 s m args below meth c A prog_13_method_37_code Q .return_ [] u) : ∀ (n : Nat) (t : fw_S) (x1 : Int32) (H : Heap) (locs : List Loc) (ls : Array Slot), b_M_X11_tellsNothing__0_2  n t x1 = some u → va_P D classes (WM ca a t) H → va_S A s.heap H locs → lv_has ls 2 [(0, .ref (a 0)), (1, .int x1)] → W p l e rm_M_X11_tellsNothing__0 s m args below meth c H locs 0 0 Q (F0 m 2 ls []) := by
  obtain ⟨hx, hb, hml, hown, hts, hN, hK, hD, hA⟩ := id C
  intro n
  induction n with
  | zero => intro t x1 H locs ls hf; cases hf
  | succ n hk2 =>
    intro t x1 H locs ls hf hP hS hl
    have hf : (if ((32 : Int32)) ≤ x1 then b_M_X11_tellsNothing__0_21 t else b_M_X11_tellsNothing__0_8 (b_M_X11_tellsNothing__0_2 n) t x1) = some u := hf
    refine lv_iload_n hx hb dX11_tellsNothing_2 rfl (lv_at hl 1 rfl) ?_
    refine lv_bipush (v := 32) hx hb dX11_tellsNothing_3 (by decide) ?_
    refine lv_icmp_ge (tgt := 21) hx hb dX11_tellsNothing_5 (by decide) (fun h_5 => ?_) (fun h_5 => ?_)
    · have hf := fb_t h_5 hf
      exact w_M_X11_tellsNothing__0_21 C hr hf hP hS (lv_sub hl [] rfl)
    · have hf := fb_f h_5 hf
      exact w_M_X11_tellsNothing__0_8 C hr hk2 hf hP hS (lv_sub hl [0, 1] rfl)
set_option maxRecDepth 20000 in
theorem w_M_X11_tellsNothing__0_0 {p : Program} {l : Launch} {e : Env} {s : State} {m : MethodId} {args : Array Value} {below : List Frame} {meth : Method} {c : Code} {A : Nat → Prop} {Q : State → Prop} {D : va_G} {ca : Nat → ClassId} {a : Nat → Nat} {u : fw_S}  (C : CX (WM ca a) D (tyv ca) p s m args c A prog_13_method_37_code 2 RX11) (hr : True → RX (WM ca a) D p l e rm_M_X11_tellsNothing__0 s m args below meth c A prog_13_method_37_code Q .return_ [] u) {t : fw_S}  {H : Heap} {locs : List Loc} {ls : Array Slot} (hf : b_M_X11_tellsNothing__0_0  t  = some u) (hP : va_P D classes (WM ca a t) H) (hS : va_S A s.heap H locs) (hl : lv_has ls 2 [(0, .ref (a 0))]) : W p l e rm_M_X11_tellsNothing__0 s m args below meth c H locs 0 0 Q (F0 m 0 ls []) := by
  obtain ⟨hx, hb, hml, hown, hts, hN, hK, hD, hA⟩ := id C
  have hf : (b_M_X11_tellsNothing__0_2 3000 t ((0 : Int32))) = some u := hf
  refine lv_iconst (v := 0) hx hb dX11_tellsNothing_0 (by decide) ?_
  refine lv_istore_n (lv' := [(1, .int ((0 : Int32))), (0, .ref (a 0))]) hx hb dX11_tellsNothing_1 rfl hl (by decide) rfl (fun ls hl => ?_)
  exact w_M_X11_tellsNothing__0_2 C hr 3000 t ((0 : Int32)) _ _ _ hf hP hS (lv_sub hl [1, 0] rfl)
set_option maxRecDepth 20000 in
theorem c_M_X11_tellsNothing__0 {l : Launch} {D : va_G} {ca : Nat → ClassId} {a : Nat → Nat} {t : fw_S}  {u : fw_S} (hf : f_M_X11_tellsNothing__0 t  = some u) : MC (WM ca a) D (tyv ca) l yX11_tellsNothing (.code yX11_tellsNothing prog_13_method_37_code 2 none :: lw_gd) rm_M_X11_tellsNothing__0 [.ref (a 0)] none t u := by
  refine fw_met (okM ca a) (by decide +kernel) rfl rfl (Nat.le_of_ble_eq_true rfl) ?_
  intro p e s m args below meth c A Q ls C hr hk hP hS hl hQ
  exact w_M_X11_tellsNothing__0_0 C (fun _ => fw_rv C hr hk hQ) hf hP hS (lv_sub hl [0] rfl)
/-! ReactiveSheetModel.tell(IIJI)V ['m'] -/
abbrev rm_M_X11_tell__0 : Room := { frames := 0, cells := 0, slots := 0, locals := 0 }
def b_M_X11_tell__0_0  (t : fw_S) (x1 : Int32) (x2 : Int32) (y3 : Int64) (x5 : Int32) : Option fw_S := fb_g (¬ (x1 < 0 ∨ 32 ≤ x1.toNatClampNeg)) (fb_l (up_F t 13 (upd (st_F t 13) x1.toNatClampNeg (vp_nar .boolean ((1 : Int32))))) fun t_1 => (fb_g (¬ (x1 < 0 ∨ 32 ≤ x1.toNatClampNeg)) (fb_l (up_F t_1 15 (upd (st_F t_1 15) x1.toNatClampNeg x2)) fun t_2 => (fb_g (¬ (x1 < 0 ∨ 32 ≤ x1.toNatClampNeg)) (fb_l (up_G t_2 1 (vp_updL (st_G t_2 1) x1.toNatClampNeg y3)) fun t_3 => (fb_g (¬ (x1 < 0 ∨ 32 ≤ x1.toNatClampNeg)) (fb_l (up_F t_3 16 (upd (st_F t_3 16) x1.toNatClampNeg x5)) fun t_4 => (some t_4))))))))
def f_M_X11_tell__0 (t : fw_S) (x1 : Int32) (x2 : Int32) (y3 : Int64) (x5 : Int32) : Option fw_S := b_M_X11_tell__0_0 t x1 x2 y3 x5
set_option maxRecDepth 20000 in
theorem w_M_X11_tell__0_0 {p : Program} {l : Launch} {e : Env} {s : State} {m : MethodId} {args : Array Value} {below : List Frame} {meth : Method} {c : Code} {A : Nat → Prop} {Q : State → Prop} {D : va_G} {ca : Nat → ClassId} {a : Nat → Nat} {u : fw_S}  (C : CX (WM ca a) D (tyv ca) p s m args c A prog_13_method_38_code 6 RX11) (hr : True → RX (WM ca a) D p l e rm_M_X11_tell__0 s m args below meth c A prog_13_method_38_code Q .return_ [] u) {t : fw_S} {x1 : Int32} {x2 : Int32} {y3 : Int64} {x5 : Int32} {H : Heap} {locs : List Loc} {ls : Array Slot} (hf : b_M_X11_tell__0_0  t x1 x2 y3 x5 = some u) (hP : va_P D classes (WM ca a t) H) (hS : va_S A s.heap H locs) (hl : lv_has ls 6 [(0, .ref (a 0)), (1, .int x1), (2, .int x2), (3, .long y3), (5, .int x5)]) : W p l e rm_M_X11_tell__0 s m args below meth c H locs 0 0 Q (F0 m 0 ls []) := by
  obtain ⟨hx, hb, hml, hown, hts, hN, hK, hD, hA⟩ := id C
  have hf : (fb_g (¬ (x1 < 0 ∨ 32 ≤ x1.toNatClampNeg)) (fb_l (up_F t 13 (upd (st_F t 13) x1.toNatClampNeg (vp_nar .boolean ((1 : Int32))))) fun t_1 => (fb_g (¬ (x1 < 0 ∨ 32 ≤ x1.toNatClampNeg)) (fb_l (up_F t_1 15 (upd (st_F t_1 15) x1.toNatClampNeg x2)) fun t_2 => (fb_g (¬ (x1 < 0 ∨ 32 ≤ x1.toNatClampNeg)) (fb_l (up_G t_2 1 (vp_updL (st_G t_2 1) x1.toNatClampNeg y3)) fun t_3 => (fb_g (¬ (x1 < 0 ∨ 32 ≤ x1.toNatClampNeg)) (fb_l (up_F t_3 16 (upd (st_F t_3 16) x1.toNatClampNeg x5)) fun t_4 => (some t_4))))))))) = some u := hf
  refine lv_aload_n hx hb dX11_tell_0 rfl (lv_at hl 0 rfl) ?_
  refine va_get (D := D) (ci := 11) (v := .ref (a 15)) (C := RX11) (T := TX11) (N := 76) hx hb hts inX11 hown hK hP 0 (heM_0 ca a t) rfl 14 (by decide) (hts _ kw_1206) (fun _ h9 => h9) rfl dX11_tell_1 ?_
  refine lv_iload_n hx hb dX11_tell_4 rfl (lv_at hl 1 rfl) ?_
  refine lv_iconst (v := 1) hx hb dX11_tell_5 (by decide) ?_
  obtain ⟨h_6, hf⟩ := fb_if hf
  refine va_zast hx hb hK hP (hD t) hS 15 2 (haM_15 ca a t) rfl h_6 dX11_tell_6 (fun H locs hP _ hS => ?_)
  rw [saM_15] at hP
  obtain ⟨t_1, e_6, hf⟩ := fb_ls hf
  rw [← e_6] at hP
  refine lv_aload_n hx hb dX11_tell_7 rfl (lv_at hl 0 rfl) ?_
  refine va_get (D := D) (ci := 11) (v := .ref (a 17)) (C := RX11) (T := TX11) (N := 76) hx hb hts inX11 hown hK hP 0 (heM_0 ca a t_1) rfl 16 (by decide) (hts _ kw_1208) (fun _ h9 => h9) rfl dX11_tell_8 ?_
  refine lv_iload_n hx hb dX11_tell_11 rfl (lv_at hl 1 rfl) ?_
  refine lv_iload_n hx hb dX11_tell_12 rfl (lv_at hl 2 rfl) ?_
  obtain ⟨h_13, hf⟩ := fb_if hf
  refine va_iast hx hb hK hP (hD t_1) hS 17 0 (haM_17 ca a t_1) rfl h_13 dX11_tell_13 (fun H locs hP _ hS => ?_)
  rw [saM_17] at hP
  obtain ⟨t_2, e_13, hf⟩ := fb_ls hf
  rw [← e_13] at hP
  refine lv_aload_n hx hb dX11_tell_14 rfl (lv_at hl 0 rfl) ?_
  refine va_get (D := D) (ci := 11) (v := .ref (a 21)) (C := RX11) (T := TX11) (N := 76) hx hb hts inX11 hown hK hP 0 (heM_0 ca a t_2) rfl 20 (by decide) (hts _ kw_1212) (fun _ h9 => h9) rfl dX11_tell_15 ?_
  refine lv_iload_n hx hb dX11_tell_18 rfl (lv_at hl 1 rfl) ?_
  refine lv_lload_n hx hb dX11_tell_19 rfl (lv_at hl 3 rfl) ?_
  obtain ⟨h_20, hf⟩ := fb_if hf
  refine va_last hx hb hK hP (hD t_2) hS 21 1 (haM_21 ca a t_2) rfl h_20 dX11_tell_20 (fun H locs hP _ hS => ?_)
  rw [saM_21] at hP
  obtain ⟨t_3, e_20, hf⟩ := fb_ls hf
  rw [← e_20] at hP
  refine lv_aload_n hx hb dX11_tell_21 rfl (lv_at hl 0 rfl) ?_
  refine va_get (D := D) (ci := 11) (v := .ref (a 18)) (C := RX11) (T := TX11) (N := 76) hx hb hts inX11 hown hK hP 0 (heM_0 ca a t_3) rfl 17 (by decide) (hts _ kw_1209) (fun _ h9 => h9) rfl dX11_tell_22 ?_
  refine lv_iload_n hx hb dX11_tell_25 rfl (lv_at hl 1 rfl) ?_
  refine lv_iload hx hb dX11_tell_26 (lv_at hl 4 rfl) ?_
  obtain ⟨h_28, hf⟩ := fb_if hf
  refine va_iast hx hb hK hP (hD t_3) hS 18 0 (haM_18 ca a t_3) rfl h_28 dX11_tell_28 (fun H locs hP _ hS => ?_)
  rw [saM_18] at hP
  obtain ⟨t_4, e_28, hf⟩ := fb_ls hf
  rw [← e_28] at hP
  have e_29 := fb_ev hf
  subst e_29
  exact hr trivial _ _ _ _ hP hS dX11_tell_29
set_option maxRecDepth 20000 in
theorem c_M_X11_tell__0 {l : Launch} {D : va_G} {ca : Nat → ClassId} {a : Nat → Nat} {t : fw_S} {x1 : Int32} {x2 : Int32} {y3 : Int64} {x5 : Int32} {u : fw_S} (hf : f_M_X11_tell__0 t x1 x2 y3 x5 = some u) : MC (WM ca a) D (tyv ca) l yX11_tell (.code yX11_tell prog_13_method_38_code 6 none :: lw_gd) rm_M_X11_tell__0 [.ref (a 0), .int x1, .int x2, .long y3, .int x5] none t u := by
  refine fw_met (okM ca a) (by decide +kernel) rfl rfl (Nat.le_of_ble_eq_true rfl) ?_
  intro p e s m args below meth c A Q ls C hr hk hP hS hl hQ
  exact w_M_X11_tell__0_0 C (fun _ => fw_rv C hr hk hQ) hf hP hS (lv_sub hl [0, 1, 2, 3, 4] rfl)
/-! ReactiveSheetModel.keepsAhead()V ['m'] -/
abbrev rm_M_X11_keepsAhead__0 : Room := { frames := 0, cells := 0, slots := 0, locals := 0 }
def b_M_X11_keepsAhead__0_151  (t : fw_S)  : Option fw_S := some t
def b_M_X11_keepsAhead__0_133 (k124 : fw_S → Int32 → Option fw_S) (t : fw_S) (x1 : Int32) : Option fw_S := fb_g (¬ (x1 < 0 ∨ 1024 ≤ x1.toNatClampNeg)) (fb_g (¬ (x1 < 0 ∨ 1024 ≤ x1.toNatClampNeg)) (fb_l (up_F t 25 (upd (st_F t 25) x1.toNatClampNeg (st_F t 6 x1.toNatClampNeg))) fun t_1 => (k124 t_1 (x1 + 1))))
def b_M_X11_keepsAhead__0_124  : Nat → (fw_S → Int32 → Option fw_S)
  | 0 => fun _ _ => none
  | n + 1 => fun t x1 => if ((1024 : Int32)) ≤ x1 then b_M_X11_keepsAhead__0_151 t else b_M_X11_keepsAhead__0_133 (b_M_X11_keepsAhead__0_124 n) t x1
def b_M_X11_keepsAhead__0_122  (t : fw_S)  : Option fw_S := b_M_X11_keepsAhead__0_124 3000 t ((0 : Int32))
def b_M_X11_keepsAhead__0_8 (k2 : fw_S → Int32 → Option fw_S) (t : fw_S) (x1 : Int32) : Option fw_S := fb_g (¬ (x1 < 0 ∨ 32 ≤ x1.toNatClampNeg)) (fb_g (¬ (x1 < 0 ∨ 32 ≤ x1.toNatClampNeg)) (fb_l (up_F t 19 (upd (st_F t 19) x1.toNatClampNeg (st_F t 0 x1.toNatClampNeg))) fun t_1 => (fb_g (¬ (x1 < 0 ∨ 32 ≤ x1.toNatClampNeg)) (fb_g (¬ (x1 < 0 ∨ 32 ≤ x1.toNatClampNeg)) (fb_l (up_F t_1 20 (upd (st_F t_1 20) x1.toNatClampNeg (st_F t_1 1 x1.toNatClampNeg))) fun t_2 => (fb_g (¬ (x1 < 0 ∨ 32 ≤ x1.toNatClampNeg)) (fb_g (¬ (x1 < 0 ∨ 32 ≤ x1.toNatClampNeg)) (fb_l (up_F t_2 21 (upd (st_F t_2 21) x1.toNatClampNeg (st_F t_2 2 x1.toNatClampNeg))) fun t_3 => (fb_g (¬ (x1 < 0 ∨ 32 ≤ x1.toNatClampNeg)) (fb_g (¬ (x1 < 0 ∨ 32 ≤ x1.toNatClampNeg)) (fb_l (up_F t_3 22 (upd (st_F t_3 22) x1.toNatClampNeg (st_F t_3 3 x1.toNatClampNeg))) fun t_4 => (fb_g (¬ (x1 < 0 ∨ 32 ≤ x1.toNatClampNeg)) (fb_g (¬ (x1 < 0 ∨ 32 ≤ x1.toNatClampNeg)) (fb_l (up_F t_4 23 (upd (st_F t_4 23) x1.toNatClampNeg (st_F t_4 4 x1.toNatClampNeg))) fun t_5 => (fb_g (¬ (x1 < 0 ∨ 32 ≤ x1.toNatClampNeg)) (fb_g (¬ (x1 < 0 ∨ 32 ≤ x1.toNatClampNeg)) (fb_l (up_F t_5 24 (upd (st_F t_5 24) x1.toNatClampNeg (st_F t_5 5 x1.toNatClampNeg))) fun t_6 => (fb_g (¬ (x1 < 0 ∨ 32 ≤ x1.toNatClampNeg)) (fb_g (¬ (x1 < 0 ∨ 32 ≤ x1.toNatClampNeg)) (fb_l (up_G t_6 3 (vp_updL (st_G t_6 3) x1.toNatClampNeg (st_G t_6 0 x1.toNatClampNeg))) fun t_7 => (fb_g (¬ (x1 < 0 ∨ 32 ≤ x1.toNatClampNeg)) (fb_g (¬ (x1 < 0 ∨ 32 ≤ x1.toNatClampNeg)) (fb_l (up_F t_7 26 (upd (st_F t_7 26) x1.toNatClampNeg (vp_nar .boolean (st_F t_7 7 x1.toNatClampNeg)))) fun t_8 => (fb_g (¬ (x1 < 0 ∨ 32 ≤ x1.toNatClampNeg)) (fb_g (¬ (x1 < 0 ∨ 32 ≤ x1.toNatClampNeg)) (fb_l (up_F t_8 27 (upd (st_F t_8 27) x1.toNatClampNeg (vp_nar .boolean (st_F t_8 8 x1.toNatClampNeg)))) fun t_9 => (k2 t_9 (x1 + 1))))))))))))))))))))))))))))
def b_M_X11_keepsAhead__0_2  : Nat → (fw_S → Int32 → Option fw_S)
  | 0 => fun _ _ => none
  | n + 1 => fun t x1 => if ((32 : Int32)) ≤ x1 then b_M_X11_keepsAhead__0_122 t else b_M_X11_keepsAhead__0_8 (b_M_X11_keepsAhead__0_2 n) t x1
def b_M_X11_keepsAhead__0_0  (t : fw_S)  : Option fw_S := b_M_X11_keepsAhead__0_2 3000 t ((0 : Int32))
def f_M_X11_keepsAhead__0 (t : fw_S)  : Option fw_S := b_M_X11_keepsAhead__0_0 t 
set_option maxRecDepth 20000 in
theorem w_M_X11_keepsAhead__0_151 {p : Program} {l : Launch} {e : Env} {s : State} {m : MethodId} {args : Array Value} {below : List Frame} {meth : Method} {c : Code} {A : Nat → Prop} {Q : State → Prop} {D : va_G} {ca : Nat → ClassId} {a : Nat → Nat} {u : fw_S}  (C : CX (WM ca a) D (tyv ca) p s m args c A prog_13_method_31_code 2 RX11) (hr : True → RX (WM ca a) D p l e rm_M_X11_keepsAhead__0 s m args below meth c A prog_13_method_31_code Q .return_ [] u) {t : fw_S}  {H : Heap} {locs : List Loc} {ls : Array Slot} (hf : b_M_X11_keepsAhead__0_151  t  = some u) (hP : va_P D classes (WM ca a t) H) (hS : va_S A s.heap H locs) (hl : lv_has ls 2 []) : W p l e rm_M_X11_keepsAhead__0 s m args below meth c H locs 0 0 Q (F0 m 151 ls []) := by
  obtain ⟨hx, hb, hml, hown, hts, hN, hK, hD, hA⟩ := id C
  have hf : (some t) = some u := hf
  have e_151 := fb_ev hf
  subst e_151
  exact hr trivial _ _ _ _ hP hS dX11_keepsAhead_151
set_option maxRecDepth 20000 in
theorem w_M_X11_keepsAhead__0_133 {p : Program} {l : Launch} {e : Env} {s : State} {m : MethodId} {args : Array Value} {below : List Frame} {meth : Method} {c : Code} {A : Nat → Prop} {Q : State → Prop} {D : va_G} {ca : Nat → ClassId} {a : Nat → Nat} {u : fw_S} {k124 : fw_S → Int32 → Option fw_S} (C : CX (WM ca a) D (tyv ca) p s m args c A prog_13_method_31_code 2 RX11) (hr : True → RX (WM ca a) D p l e rm_M_X11_keepsAhead__0 s m args below meth c A prog_13_method_31_code Q .return_ [] u) (hk124 : ∀ (t : fw_S) (x1 : Int32) (H : Heap) (locs : List Loc) (ls : Array Slot), k124 t x1 = some u → va_P D classes (WM ca a t) H → va_S A s.heap H locs → lv_has ls 2 [(0, .ref (a 0)), (1, .int x1)] → W p l e rm_M_X11_keepsAhead__0 s m args below meth c H locs 0 0 Q (F0 m 124 ls [])) {t : fw_S} {x1 : Int32} {H : Heap} {locs : List Loc} {ls : Array Slot} (hf : b_M_X11_keepsAhead__0_133 k124 t x1 = some u) (hP : va_P D classes (WM ca a t) H) (hS : va_S A s.heap H locs) (hl : lv_has ls 2 [(0, .ref (a 0)), (1, .int x1)]) : W p l e rm_M_X11_keepsAhead__0 s m args below meth c H locs 0 0 Q (F0 m 133 ls []) := by
  obtain ⟨hx, hb, hml, hown, hts, hN, hK, hD, hA⟩ := id C
  have hf : (fb_g (¬ (x1 < 0 ∨ 1024 ≤ x1.toNatClampNeg)) (fb_g (¬ (x1 < 0 ∨ 1024 ≤ x1.toNatClampNeg)) (fb_l (up_F t 25 (upd (st_F t 25) x1.toNatClampNeg (st_F t 6 x1.toNatClampNeg))) fun t_1 => (k124 t_1 (x1 + 1))))) = some u := hf
  refine lv_aload_n hx hb dX11_keepsAhead_133 rfl (lv_at hl 0 rfl) ?_
  refine va_get (D := D) (ci := 11) (v := .ref (a 29)) (C := RX11) (T := TX11) (N := 76) hx hb hts inX11 hown hK hP 0 (heM_0 ca a t) rfl 29 (by decide) (hts _ kw_1221) (fun _ h9 => h9) rfl dX11_keepsAhead_134 ?_
  refine lv_iload_n hx hb dX11_keepsAhead_137 rfl (lv_at hl 1 rfl) ?_
  refine lv_aload_n hx hb dX11_keepsAhead_138 rfl (lv_at hl 0 rfl) ?_
  refine va_get (D := D) (ci := 11) (v := .ref (a 8)) (C := RX11) (T := TX11) (N := 76) hx hb hts inX11 hown hK hP 0 (heM_0 ca a t) rfl 7 (by decide) (hts _ kw_1199) (fun _ h9 => h9) rfl dX11_keepsAhead_139 ?_
  refine lv_iload_n hx hb dX11_keepsAhead_142 rfl (lv_at hl 1 rfl) ?_
  obtain ⟨h_143, hf⟩ := fb_if hf
  refine va_iald hx hb hK hP 8 0 (haM_8 ca a t) rfl h_143 dX11_keepsAhead_143 ?_
  obtain ⟨h_144, hf⟩ := fb_if hf
  refine va_iast hx hb hK hP (hD t) hS 29 0 (haM_29 ca a t) rfl h_144 dX11_keepsAhead_144 (fun H locs hP _ hS => ?_)
  rw [saM_29] at hP
  obtain ⟨t_1, e_144, hf⟩ := fb_ls hf
  rw [← e_144] at hP
  refine lv_iinc (v := x1 + 1) (lv' := [(1, .int (x1 + 1)), (0, .ref (a 0))]) hx hb dX11_keepsAhead_145 hl (k := 1) rfl rfl (by decide) rfl (fun ls hl => ?_)
  refine lv_goto (tgt := 124) hx hb dX11_keepsAhead_148 (by decide) ?_
  exact hk124 t_1 (x1 + 1) _ _ _ hf hP hS (lv_sub hl [1, 0] rfl)
set_option maxRecDepth 20000 in
theorem w_M_X11_keepsAhead__0_124 {p : Program} {l : Launch} {e : Env} {s : State} {m : MethodId} {args : Array Value} {below : List Frame} {meth : Method} {c : Code} {A : Nat → Prop} {Q : State → Prop} {D : va_G} {ca : Nat → ClassId} {a : Nat → Nat} {u : fw_S}  (C : CX (WM ca a) D (tyv ca) p s m args c A prog_13_method_31_code 2 RX11) (hr : True → RX (WM ca a) D p l e rm_M_X11_keepsAhead__0 s m args below meth c A prog_13_method_31_code Q .return_ [] u) : ∀ (n : Nat) (t : fw_S) (x1 : Int32) (H : Heap) (locs : List Loc) (ls : Array Slot), b_M_X11_keepsAhead__0_124  n t x1 = some u → va_P D classes (WM ca a t) H → va_S A s.heap H locs → lv_has ls 2 [(0, .ref (a 0)), (1, .int x1)] → W p l e rm_M_X11_keepsAhead__0 s m args below meth c H locs 0 0 Q (F0 m 124 ls []) := by
  obtain ⟨hx, hb, hml, hown, hts, hN, hK, hD, hA⟩ := id C
  intro n
  induction n with
  | zero => intro t x1 H locs ls hf; cases hf
  | succ n hk124 =>
    intro t x1 H locs ls hf hP hS hl
    have hf : (if ((1024 : Int32)) ≤ x1 then b_M_X11_keepsAhead__0_151 t else b_M_X11_keepsAhead__0_133 (b_M_X11_keepsAhead__0_124 n) t x1) = some u := hf
    refine lv_iload_n hx hb dX11_keepsAhead_124 rfl (lv_at hl 1 rfl) ?_
    refine lv_aload_n hx hb dX11_keepsAhead_125 rfl (lv_at hl 0 rfl) ?_
    refine va_get (D := D) (ci := 11) (v := .ref (a 8)) (C := RX11) (T := TX11) (N := 76) hx hb hts inX11 hown hK hP 0 (heM_0 ca a t) rfl 7 (by decide) (hts _ kw_1199) (fun _ h9 => h9) rfl dX11_keepsAhead_126 ?_
    refine va_alen (v := 1024) hx hb hK hP 8 0 (haM_8 ca a t) rfl rfl dX11_keepsAhead_129 ?_
    refine lv_icmp_ge (tgt := 151) hx hb dX11_keepsAhead_130 (by decide) (fun h_130 => ?_) (fun h_130 => ?_)
    · have hf := fb_t h_130 hf
      exact w_M_X11_keepsAhead__0_151 C hr hf hP hS (lv_sub hl [] rfl)
    · have hf := fb_f h_130 hf
      exact w_M_X11_keepsAhead__0_133 C hr hk124 hf hP hS (lv_sub hl [0, 1] rfl)
set_option maxRecDepth 20000 in
theorem w_M_X11_keepsAhead__0_122 {p : Program} {l : Launch} {e : Env} {s : State} {m : MethodId} {args : Array Value} {below : List Frame} {meth : Method} {c : Code} {A : Nat → Prop} {Q : State → Prop} {D : va_G} {ca : Nat → ClassId} {a : Nat → Nat} {u : fw_S}  (C : CX (WM ca a) D (tyv ca) p s m args c A prog_13_method_31_code 2 RX11) (hr : True → RX (WM ca a) D p l e rm_M_X11_keepsAhead__0 s m args below meth c A prog_13_method_31_code Q .return_ [] u) {t : fw_S}  {H : Heap} {locs : List Loc} {ls : Array Slot} (hf : b_M_X11_keepsAhead__0_122  t  = some u) (hP : va_P D classes (WM ca a t) H) (hS : va_S A s.heap H locs) (hl : lv_has ls 2 [(0, .ref (a 0))]) : W p l e rm_M_X11_keepsAhead__0 s m args below meth c H locs 0 0 Q (F0 m 122 ls []) := by
  obtain ⟨hx, hb, hml, hown, hts, hN, hK, hD, hA⟩ := id C
  have hf : (b_M_X11_keepsAhead__0_124 3000 t ((0 : Int32))) = some u := hf
  refine lv_iconst (v := 0) hx hb dX11_keepsAhead_122 (by decide) ?_
  refine lv_istore_n (lv' := [(1, .int ((0 : Int32))), (0, .ref (a 0))]) hx hb dX11_keepsAhead_123 rfl hl (by decide) rfl (fun ls hl => ?_)
  exact w_M_X11_keepsAhead__0_124 C hr 3000 t ((0 : Int32)) _ _ _ hf hP hS (lv_sub hl [1, 0] rfl)
set_option maxRecDepth 20000 in
theorem w_M_X11_keepsAhead__0_8 {p : Program} {l : Launch} {e : Env} {s : State} {m : MethodId} {args : Array Value} {below : List Frame} {meth : Method} {c : Code} {A : Nat → Prop} {Q : State → Prop} {D : va_G} {ca : Nat → ClassId} {a : Nat → Nat} {u : fw_S} {k2 : fw_S → Int32 → Option fw_S} (C : CX (WM ca a) D (tyv ca) p s m args c A prog_13_method_31_code 2 RX11) (hr : True → RX (WM ca a) D p l e rm_M_X11_keepsAhead__0 s m args below meth c A prog_13_method_31_code Q .return_ [] u) (hk2 : ∀ (t : fw_S) (x1 : Int32) (H : Heap) (locs : List Loc) (ls : Array Slot), k2 t x1 = some u → va_P D classes (WM ca a t) H → va_S A s.heap H locs → lv_has ls 2 [(0, .ref (a 0)), (1, .int x1)] → W p l e rm_M_X11_keepsAhead__0 s m args below meth c H locs 0 0 Q (F0 m 2 ls [])) {t : fw_S} {x1 : Int32} {H : Heap} {locs : List Loc} {ls : Array Slot} (hf : b_M_X11_keepsAhead__0_8 k2 t x1 = some u) (hP : va_P D classes (WM ca a t) H) (hS : va_S A s.heap H locs) (hl : lv_has ls 2 [(0, .ref (a 0)), (1, .int x1)]) : W p l e rm_M_X11_keepsAhead__0 s m args below meth c H locs 0 0 Q (F0 m 8 ls []) := by
  obtain ⟨hx, hb, hml, hown, hts, hN, hK, hD, hA⟩ := id C
  have hf : (fb_g (¬ (x1 < 0 ∨ 32 ≤ x1.toNatClampNeg)) (fb_g (¬ (x1 < 0 ∨ 32 ≤ x1.toNatClampNeg)) (fb_l (up_F t 19 (upd (st_F t 19) x1.toNatClampNeg (st_F t 0 x1.toNatClampNeg))) fun t_1 => (fb_g (¬ (x1 < 0 ∨ 32 ≤ x1.toNatClampNeg)) (fb_g (¬ (x1 < 0 ∨ 32 ≤ x1.toNatClampNeg)) (fb_l (up_F t_1 20 (upd (st_F t_1 20) x1.toNatClampNeg (st_F t_1 1 x1.toNatClampNeg))) fun t_2 => (fb_g (¬ (x1 < 0 ∨ 32 ≤ x1.toNatClampNeg)) (fb_g (¬ (x1 < 0 ∨ 32 ≤ x1.toNatClampNeg)) (fb_l (up_F t_2 21 (upd (st_F t_2 21) x1.toNatClampNeg (st_F t_2 2 x1.toNatClampNeg))) fun t_3 => (fb_g (¬ (x1 < 0 ∨ 32 ≤ x1.toNatClampNeg)) (fb_g (¬ (x1 < 0 ∨ 32 ≤ x1.toNatClampNeg)) (fb_l (up_F t_3 22 (upd (st_F t_3 22) x1.toNatClampNeg (st_F t_3 3 x1.toNatClampNeg))) fun t_4 => (fb_g (¬ (x1 < 0 ∨ 32 ≤ x1.toNatClampNeg)) (fb_g (¬ (x1 < 0 ∨ 32 ≤ x1.toNatClampNeg)) (fb_l (up_F t_4 23 (upd (st_F t_4 23) x1.toNatClampNeg (st_F t_4 4 x1.toNatClampNeg))) fun t_5 => (fb_g (¬ (x1 < 0 ∨ 32 ≤ x1.toNatClampNeg)) (fb_g (¬ (x1 < 0 ∨ 32 ≤ x1.toNatClampNeg)) (fb_l (up_F t_5 24 (upd (st_F t_5 24) x1.toNatClampNeg (st_F t_5 5 x1.toNatClampNeg))) fun t_6 => (fb_g (¬ (x1 < 0 ∨ 32 ≤ x1.toNatClampNeg)) (fb_g (¬ (x1 < 0 ∨ 32 ≤ x1.toNatClampNeg)) (fb_l (up_G t_6 3 (vp_updL (st_G t_6 3) x1.toNatClampNeg (st_G t_6 0 x1.toNatClampNeg))) fun t_7 => (fb_g (¬ (x1 < 0 ∨ 32 ≤ x1.toNatClampNeg)) (fb_g (¬ (x1 < 0 ∨ 32 ≤ x1.toNatClampNeg)) (fb_l (up_F t_7 26 (upd (st_F t_7 26) x1.toNatClampNeg (vp_nar .boolean (st_F t_7 7 x1.toNatClampNeg)))) fun t_8 => (fb_g (¬ (x1 < 0 ∨ 32 ≤ x1.toNatClampNeg)) (fb_g (¬ (x1 < 0 ∨ 32 ≤ x1.toNatClampNeg)) (fb_l (up_F t_8 27 (upd (st_F t_8 27) x1.toNatClampNeg (vp_nar .boolean (st_F t_8 8 x1.toNatClampNeg)))) fun t_9 => (k2 t_9 (x1 + 1))))))))))))))))))))))))))))) = some u := hf
  refine lv_aload_n hx hb dX11_keepsAhead_8 rfl (lv_at hl 0 rfl) ?_
  refine va_get (D := D) (ci := 11) (v := .ref (a 23)) (C := RX11) (T := TX11) (N := 76) hx hb hts inX11 hown hK hP 0 (heM_0 ca a t) rfl 23 (by decide) (hts _ kw_1215) (fun _ h9 => h9) rfl dX11_keepsAhead_9 ?_
  refine lv_iload_n hx hb dX11_keepsAhead_12 rfl (lv_at hl 1 rfl) ?_
  refine lv_aload_n hx hb dX11_keepsAhead_13 rfl (lv_at hl 0 rfl) ?_
  refine va_get (D := D) (ci := 11) (v := .ref (a 1)) (C := RX11) (T := TX11) (N := 76) hx hb hts inX11 hown hK hP 0 (heM_0 ca a t) rfl 0 (by decide) (hts _ kw_1192) (fun _ h9 => h9) rfl dX11_keepsAhead_14 ?_
  refine lv_iload_n hx hb dX11_keepsAhead_17 rfl (lv_at hl 1 rfl) ?_
  obtain ⟨h_18, hf⟩ := fb_if hf
  refine va_iald hx hb hK hP 1 0 (haM_1 ca a t) rfl h_18 dX11_keepsAhead_18 ?_
  obtain ⟨h_19, hf⟩ := fb_if hf
  refine va_iast hx hb hK hP (hD t) hS 23 0 (haM_23 ca a t) rfl h_19 dX11_keepsAhead_19 (fun H locs hP _ hS => ?_)
  rw [saM_23] at hP
  obtain ⟨t_1, e_19, hf⟩ := fb_ls hf
  rw [← e_19] at hP
  refine lv_aload_n hx hb dX11_keepsAhead_20 rfl (lv_at hl 0 rfl) ?_
  refine va_get (D := D) (ci := 11) (v := .ref (a 24)) (C := RX11) (T := TX11) (N := 76) hx hb hts inX11 hown hK hP 0 (heM_0 ca a t_1) rfl 24 (by decide) (hts _ kw_1216) (fun _ h9 => h9) rfl dX11_keepsAhead_21 ?_
  refine lv_iload_n hx hb dX11_keepsAhead_24 rfl (lv_at hl 1 rfl) ?_
  refine lv_aload_n hx hb dX11_keepsAhead_25 rfl (lv_at hl 0 rfl) ?_
  refine va_get (D := D) (ci := 11) (v := .ref (a 2)) (C := RX11) (T := TX11) (N := 76) hx hb hts inX11 hown hK hP 0 (heM_0 ca a t_1) rfl 1 (by decide) (hts _ kw_1193) (fun _ h9 => h9) rfl dX11_keepsAhead_26 ?_
  refine lv_iload_n hx hb dX11_keepsAhead_29 rfl (lv_at hl 1 rfl) ?_
  obtain ⟨h_30, hf⟩ := fb_if hf
  refine va_iald hx hb hK hP 2 0 (haM_2 ca a t_1) rfl h_30 dX11_keepsAhead_30 ?_
  obtain ⟨h_31, hf⟩ := fb_if hf
  refine va_iast hx hb hK hP (hD t_1) hS 24 0 (haM_24 ca a t_1) rfl h_31 dX11_keepsAhead_31 (fun H locs hP _ hS => ?_)
  rw [saM_24] at hP
  obtain ⟨t_2, e_31, hf⟩ := fb_ls hf
  rw [← e_31] at hP
  refine lv_aload_n hx hb dX11_keepsAhead_32 rfl (lv_at hl 0 rfl) ?_
  refine va_get (D := D) (ci := 11) (v := .ref (a 25)) (C := RX11) (T := TX11) (N := 76) hx hb hts inX11 hown hK hP 0 (heM_0 ca a t_2) rfl 25 (by decide) (hts _ kw_1217) (fun _ h9 => h9) rfl dX11_keepsAhead_33 ?_
  refine lv_iload_n hx hb dX11_keepsAhead_36 rfl (lv_at hl 1 rfl) ?_
  refine lv_aload_n hx hb dX11_keepsAhead_37 rfl (lv_at hl 0 rfl) ?_
  refine va_get (D := D) (ci := 11) (v := .ref (a 3)) (C := RX11) (T := TX11) (N := 76) hx hb hts inX11 hown hK hP 0 (heM_0 ca a t_2) rfl 2 (by decide) (hts _ kw_1194) (fun _ h9 => h9) rfl dX11_keepsAhead_38 ?_
  refine lv_iload_n hx hb dX11_keepsAhead_41 rfl (lv_at hl 1 rfl) ?_
  obtain ⟨h_42, hf⟩ := fb_if hf
  refine va_iald hx hb hK hP 3 0 (haM_3 ca a t_2) rfl h_42 dX11_keepsAhead_42 ?_
  obtain ⟨h_43, hf⟩ := fb_if hf
  refine va_iast hx hb hK hP (hD t_2) hS 25 0 (haM_25 ca a t_2) rfl h_43 dX11_keepsAhead_43 (fun H locs hP _ hS => ?_)
  rw [saM_25] at hP
  obtain ⟨t_3, e_43, hf⟩ := fb_ls hf
  rw [← e_43] at hP
  refine lv_aload_n hx hb dX11_keepsAhead_44 rfl (lv_at hl 0 rfl) ?_
  refine va_get (D := D) (ci := 11) (v := .ref (a 26)) (C := RX11) (T := TX11) (N := 76) hx hb hts inX11 hown hK hP 0 (heM_0 ca a t_3) rfl 26 (by decide) (hts _ kw_1218) (fun _ h9 => h9) rfl dX11_keepsAhead_45 ?_
  refine lv_iload_n hx hb dX11_keepsAhead_48 rfl (lv_at hl 1 rfl) ?_
  refine lv_aload_n hx hb dX11_keepsAhead_49 rfl (lv_at hl 0 rfl) ?_
  refine va_get (D := D) (ci := 11) (v := .ref (a 4)) (C := RX11) (T := TX11) (N := 76) hx hb hts inX11 hown hK hP 0 (heM_0 ca a t_3) rfl 3 (by decide) (hts _ kw_1195) (fun _ h9 => h9) rfl dX11_keepsAhead_50 ?_
  refine lv_iload_n hx hb dX11_keepsAhead_53 rfl (lv_at hl 1 rfl) ?_
  obtain ⟨h_54, hf⟩ := fb_if hf
  refine va_iald hx hb hK hP 4 0 (haM_4 ca a t_3) rfl h_54 dX11_keepsAhead_54 ?_
  obtain ⟨h_55, hf⟩ := fb_if hf
  refine va_iast hx hb hK hP (hD t_3) hS 26 0 (haM_26 ca a t_3) rfl h_55 dX11_keepsAhead_55 (fun H locs hP _ hS => ?_)
  rw [saM_26] at hP
  obtain ⟨t_4, e_55, hf⟩ := fb_ls hf
  rw [← e_55] at hP
  refine lv_aload_n hx hb dX11_keepsAhead_56 rfl (lv_at hl 0 rfl) ?_
  refine va_get (D := D) (ci := 11) (v := .ref (a 27)) (C := RX11) (T := TX11) (N := 76) hx hb hts inX11 hown hK hP 0 (heM_0 ca a t_4) rfl 27 (by decide) (hts _ kw_1219) (fun _ h9 => h9) rfl dX11_keepsAhead_57 ?_
  refine lv_iload_n hx hb dX11_keepsAhead_60 rfl (lv_at hl 1 rfl) ?_
  refine lv_aload_n hx hb dX11_keepsAhead_61 rfl (lv_at hl 0 rfl) ?_
  refine va_get (D := D) (ci := 11) (v := .ref (a 5)) (C := RX11) (T := TX11) (N := 76) hx hb hts inX11 hown hK hP 0 (heM_0 ca a t_4) rfl 4 (by decide) (hts _ kw_1196) (fun _ h9 => h9) rfl dX11_keepsAhead_62 ?_
  refine lv_iload_n hx hb dX11_keepsAhead_65 rfl (lv_at hl 1 rfl) ?_
  obtain ⟨h_66, hf⟩ := fb_if hf
  refine va_iald hx hb hK hP 5 0 (haM_5 ca a t_4) rfl h_66 dX11_keepsAhead_66 ?_
  obtain ⟨h_67, hf⟩ := fb_if hf
  refine va_iast hx hb hK hP (hD t_4) hS 27 0 (haM_27 ca a t_4) rfl h_67 dX11_keepsAhead_67 (fun H locs hP _ hS => ?_)
  rw [saM_27] at hP
  obtain ⟨t_5, e_67, hf⟩ := fb_ls hf
  rw [← e_67] at hP
  refine lv_aload_n hx hb dX11_keepsAhead_68 rfl (lv_at hl 0 rfl) ?_
  refine va_get (D := D) (ci := 11) (v := .ref (a 28)) (C := RX11) (T := TX11) (N := 76) hx hb hts inX11 hown hK hP 0 (heM_0 ca a t_5) rfl 28 (by decide) (hts _ kw_1220) (fun _ h9 => h9) rfl dX11_keepsAhead_69 ?_
  refine lv_iload_n hx hb dX11_keepsAhead_72 rfl (lv_at hl 1 rfl) ?_
  refine lv_aload_n hx hb dX11_keepsAhead_73 rfl (lv_at hl 0 rfl) ?_
  refine va_get (D := D) (ci := 11) (v := .ref (a 6)) (C := RX11) (T := TX11) (N := 76) hx hb hts inX11 hown hK hP 0 (heM_0 ca a t_5) rfl 5 (by decide) (hts _ kw_1197) (fun _ h9 => h9) rfl dX11_keepsAhead_74 ?_
  refine lv_iload_n hx hb dX11_keepsAhead_77 rfl (lv_at hl 1 rfl) ?_
  obtain ⟨h_78, hf⟩ := fb_if hf
  refine va_iald hx hb hK hP 6 0 (haM_6 ca a t_5) rfl h_78 dX11_keepsAhead_78 ?_
  obtain ⟨h_79, hf⟩ := fb_if hf
  refine va_iast hx hb hK hP (hD t_5) hS 28 0 (haM_28 ca a t_5) rfl h_79 dX11_keepsAhead_79 (fun H locs hP _ hS => ?_)
  rw [saM_28] at hP
  obtain ⟨t_6, e_79, hf⟩ := fb_ls hf
  rw [← e_79] at hP
  refine lv_aload_n hx hb dX11_keepsAhead_80 rfl (lv_at hl 0 rfl) ?_
  refine va_get (D := D) (ci := 11) (v := .ref (a 30)) (C := RX11) (T := TX11) (N := 76) hx hb hts inX11 hown hK hP 0 (heM_0 ca a t_6) rfl 30 (by decide) (hts _ kw_1222) (fun _ h9 => h9) rfl dX11_keepsAhead_81 ?_
  refine lv_iload_n hx hb dX11_keepsAhead_84 rfl (lv_at hl 1 rfl) ?_
  refine lv_aload_n hx hb dX11_keepsAhead_85 rfl (lv_at hl 0 rfl) ?_
  refine va_get (D := D) (ci := 11) (v := .ref (a 7)) (C := RX11) (T := TX11) (N := 76) hx hb hts inX11 hown hK hP 0 (heM_0 ca a t_6) rfl 6 (by decide) (hts _ kw_1198) (fun _ h9 => h9) rfl dX11_keepsAhead_86 ?_
  refine lv_iload_n hx hb dX11_keepsAhead_89 rfl (lv_at hl 1 rfl) ?_
  obtain ⟨h_90, hf⟩ := fb_if hf
  refine va_lald hx hb hK hP 7 1 (haM_7 ca a t_6) rfl h_90 dX11_keepsAhead_90 ?_
  obtain ⟨h_91, hf⟩ := fb_if hf
  refine va_last hx hb hK hP (hD t_6) hS 30 1 (haM_30 ca a t_6) rfl h_91 dX11_keepsAhead_91 (fun H locs hP _ hS => ?_)
  rw [saM_30] at hP
  obtain ⟨t_7, e_91, hf⟩ := fb_ls hf
  rw [← e_91] at hP
  refine lv_aload_n hx hb dX11_keepsAhead_92 rfl (lv_at hl 0 rfl) ?_
  refine va_get (D := D) (ci := 11) (v := .ref (a 31)) (C := RX11) (T := TX11) (N := 76) hx hb hts inX11 hown hK hP 0 (heM_0 ca a t_7) rfl 31 (by decide) (hts _ kw_1223) (fun _ h9 => h9) rfl dX11_keepsAhead_93 ?_
  refine lv_iload_n hx hb dX11_keepsAhead_96 rfl (lv_at hl 1 rfl) ?_
  refine lv_aload_n hx hb dX11_keepsAhead_97 rfl (lv_at hl 0 rfl) ?_
  refine va_get (D := D) (ci := 11) (v := .ref (a 9)) (C := RX11) (T := TX11) (N := 76) hx hb hts inX11 hown hK hP 0 (heM_0 ca a t_7) rfl 8 (by decide) (hts _ kw_1200) (fun _ h9 => h9) rfl dX11_keepsAhead_98 ?_
  refine lv_iload_n hx hb dX11_keepsAhead_101 rfl (lv_at hl 1 rfl) ?_
  obtain ⟨h_102, hf⟩ := fb_if hf
  refine va_zald hx hb hK hP 9 2 (haM_9 ca a t_7) rfl h_102 dX11_keepsAhead_102 ?_
  obtain ⟨h_103, hf⟩ := fb_if hf
  refine va_zast hx hb hK hP (hD t_7) hS 31 2 (haM_31 ca a t_7) rfl h_103 dX11_keepsAhead_103 (fun H locs hP _ hS => ?_)
  rw [saM_31] at hP
  obtain ⟨t_8, e_103, hf⟩ := fb_ls hf
  rw [← e_103] at hP
  refine lv_aload_n hx hb dX11_keepsAhead_104 rfl (lv_at hl 0 rfl) ?_
  refine va_get (D := D) (ci := 11) (v := .ref (a 32)) (C := RX11) (T := TX11) (N := 76) hx hb hts inX11 hown hK hP 0 (heM_0 ca a t_8) rfl 32 (by decide) (hts _ kw_1224) (fun _ h9 => h9) rfl dX11_keepsAhead_105 ?_
  refine lv_iload_n hx hb dX11_keepsAhead_108 rfl (lv_at hl 1 rfl) ?_
  refine lv_aload_n hx hb dX11_keepsAhead_109 rfl (lv_at hl 0 rfl) ?_
  refine va_get (D := D) (ci := 11) (v := .ref (a 10)) (C := RX11) (T := TX11) (N := 76) hx hb hts inX11 hown hK hP 0 (heM_0 ca a t_8) rfl 9 (by decide) (hts _ kw_1201) (fun _ h9 => h9) rfl dX11_keepsAhead_110 ?_
  refine lv_iload_n hx hb dX11_keepsAhead_113 rfl (lv_at hl 1 rfl) ?_
  obtain ⟨h_114, hf⟩ := fb_if hf
  refine va_zald hx hb hK hP 10 2 (haM_10 ca a t_8) rfl h_114 dX11_keepsAhead_114 ?_
  obtain ⟨h_115, hf⟩ := fb_if hf
  refine va_zast hx hb hK hP (hD t_8) hS 32 2 (haM_32 ca a t_8) rfl h_115 dX11_keepsAhead_115 (fun H locs hP _ hS => ?_)
  rw [saM_32] at hP
  obtain ⟨t_9, e_115, hf⟩ := fb_ls hf
  rw [← e_115] at hP
  refine lv_iinc (v := x1 + 1) (lv' := [(1, .int (x1 + 1)), (0, .ref (a 0))]) hx hb dX11_keepsAhead_116 hl (k := 1) rfl rfl (by decide) rfl (fun ls hl => ?_)
  refine lv_goto (tgt := 2) hx hb dX11_keepsAhead_119 (by decide) ?_
  exact hk2 t_9 (x1 + 1) _ _ _ hf hP hS (lv_sub hl [1, 0] rfl)
set_option maxRecDepth 20000 in
theorem w_M_X11_keepsAhead__0_2 {p : Program} {l : Launch} {e : Env} {s : State} {m : MethodId} {args : Array Value} {below : List Frame} {meth : Method} {c : Code} {A : Nat → Prop} {Q : State → Prop} {D : va_G} {ca : Nat → ClassId} {a : Nat → Nat} {u : fw_S}  (C : CX (WM ca a) D (tyv ca) p s m args c A prog_13_method_31_code 2 RX11) (hr : True → RX (WM ca a) D p l e rm_M_X11_keepsAhead__0 s m args below meth c A prog_13_method_31_code Q .return_ [] u) : ∀ (n : Nat) (t : fw_S) (x1 : Int32) (H : Heap) (locs : List Loc) (ls : Array Slot), b_M_X11_keepsAhead__0_2  n t x1 = some u → va_P D classes (WM ca a t) H → va_S A s.heap H locs → lv_has ls 2 [(0, .ref (a 0)), (1, .int x1)] → W p l e rm_M_X11_keepsAhead__0 s m args below meth c H locs 0 0 Q (F0 m 2 ls []) := by
  obtain ⟨hx, hb, hml, hown, hts, hN, hK, hD, hA⟩ := id C
  intro n
  induction n with
  | zero => intro t x1 H locs ls hf; cases hf
  | succ n hk2 =>
    intro t x1 H locs ls hf hP hS hl
    have hf : (if ((32 : Int32)) ≤ x1 then b_M_X11_keepsAhead__0_122 t else b_M_X11_keepsAhead__0_8 (b_M_X11_keepsAhead__0_2 n) t x1) = some u := hf
    refine lv_iload_n hx hb dX11_keepsAhead_2 rfl (lv_at hl 1 rfl) ?_
    refine lv_bipush (v := 32) hx hb dX11_keepsAhead_3 (by decide) ?_
    refine lv_icmp_ge (tgt := 122) hx hb dX11_keepsAhead_5 (by decide) (fun h_5 => ?_) (fun h_5 => ?_)
    · have hf := fb_t h_5 hf
      exact w_M_X11_keepsAhead__0_122 C hr hf hP hS (lv_sub hl [0] rfl)
    · have hf := fb_f h_5 hf
      exact w_M_X11_keepsAhead__0_8 C hr hk2 hf hP hS (lv_sub hl [0, 1] rfl)
set_option maxRecDepth 20000 in
theorem w_M_X11_keepsAhead__0_0 {p : Program} {l : Launch} {e : Env} {s : State} {m : MethodId} {args : Array Value} {below : List Frame} {meth : Method} {c : Code} {A : Nat → Prop} {Q : State → Prop} {D : va_G} {ca : Nat → ClassId} {a : Nat → Nat} {u : fw_S}  (C : CX (WM ca a) D (tyv ca) p s m args c A prog_13_method_31_code 2 RX11) (hr : True → RX (WM ca a) D p l e rm_M_X11_keepsAhead__0 s m args below meth c A prog_13_method_31_code Q .return_ [] u) {t : fw_S}  {H : Heap} {locs : List Loc} {ls : Array Slot} (hf : b_M_X11_keepsAhead__0_0  t  = some u) (hP : va_P D classes (WM ca a t) H) (hS : va_S A s.heap H locs) (hl : lv_has ls 2 [(0, .ref (a 0))]) : W p l e rm_M_X11_keepsAhead__0 s m args below meth c H locs 0 0 Q (F0 m 0 ls []) := by
  obtain ⟨hx, hb, hml, hown, hts, hN, hK, hD, hA⟩ := id C
  have hf : (b_M_X11_keepsAhead__0_2 3000 t ((0 : Int32))) = some u := hf
  refine lv_iconst (v := 0) hx hb dX11_keepsAhead_0 (by decide) ?_
  refine lv_istore_n (lv' := [(1, .int ((0 : Int32))), (0, .ref (a 0))]) hx hb dX11_keepsAhead_1 rfl hl (by decide) rfl (fun ls hl => ?_)
  exact w_M_X11_keepsAhead__0_2 C hr 3000 t ((0 : Int32)) _ _ _ hf hP hS (lv_sub hl [1, 0] rfl)
set_option maxRecDepth 20000 in
theorem c_M_X11_keepsAhead__0 {l : Launch} {D : va_G} {ca : Nat → ClassId} {a : Nat → Nat} {t : fw_S}  {u : fw_S} (hf : f_M_X11_keepsAhead__0 t  = some u) : MC (WM ca a) D (tyv ca) l yX11_keepsAhead (.code yX11_keepsAhead prog_13_method_31_code 2 none :: lw_gd) rm_M_X11_keepsAhead__0 [.ref (a 0)] none t u := by
  refine fw_met (okM ca a) (by decide +kernel) rfl rfl (Nat.le_of_ble_eq_true rfl) ?_
  intro p e s m args below meth c A Q ls C hr hk hP hS hl hQ
  exact w_M_X11_keepsAhead__0_0 C (fun _ => fw_rv C hr hk hQ) hf hP hS (lv_sub hl [0] rfl)
/-! ReactiveSheetModel.ofCell(I)I [] -/
abbrev rm_M_X11_ofCell : Room := { frames := 0, cells := 0, slots := 0, locals := 0 }
def b_M_X11_ofCell_0  (t : fw_S) (x0 : Int32) : Option (Int32 × fw_S) := some (x0 * ((128 : Int32)), t)
def f_M_X11_ofCell (t : fw_S) (x0 : Int32) : Option (Int32 × fw_S) := b_M_X11_ofCell_0 t x0
set_option maxRecDepth 20000 in
theorem w_M_X11_ofCell_0 {p : Program} {l : Launch} {e : Env} {s : State} {m : MethodId} {args : Array Value} {below : List Frame} {meth : Method} {c : Code} {A : Nat → Prop} {Q : State → Prop} {D : va_G} {ca : Nat → ClassId} {a : Nat → Nat} {u : fw_S} {r : Int32}  (C : CX (WM ca a) D (tyv ca) p s m args c A prog_13_method_19_code 1 RX11) (hr : True → RX (WM ca a) D p l e rm_M_X11_ofCell s m args below meth c A prog_13_method_19_code Q .ireturn [.int r] u) {t : fw_S} {x0 : Int32} {H : Heap} {locs : List Loc} {ls : Array Slot} (hf : b_M_X11_ofCell_0  t x0 = some (r, u)) (hP : va_P D classes (WM ca a t) H) (hS : va_S A s.heap H locs) (hl : lv_has ls 1 [(0, .int x0)]) : W p l e rm_M_X11_ofCell s m args below meth c H locs 0 0 Q (F0 m 0 ls []) := by
  obtain ⟨hx, hb, hml, hown, hts, hN, hK, hD, hA⟩ := id C
  have hf : (some (x0 * ((128 : Int32)), t)) = some (r, u) := hf
  refine lv_iload_n hx hb dX11_ofCell_0 rfl (lv_at hl 0 rfl) ?_
  refine lv_sipush (v := 128) hx hb dX11_ofCell_1 (by decide) ?_
  refine lv_imul hx hb dX11_ofCell_4 ?_
  obtain ⟨e_5, e2_5⟩ := fb_e hf
  subst e_5; subst e2_5
  exact hr trivial _ _ _ _ hP hS dX11_ofCell_5
set_option maxRecDepth 20000 in
theorem c_M_X11_ofCell {l : Launch} {D : va_G} {ca : Nat → ClassId} {a : Nat → Nat} {t : fw_S} {x0 : Int32} {u : fw_S} {r : Int32} (hf : f_M_X11_ofCell t x0 = some (r, u)) : MC (WM ca a) D (tyv ca) l yX11_ofCell (.code yX11_ofCell prog_13_method_19_code 1 (some .int) :: lw_gd) rm_M_X11_ofCell [.int x0] (some (.int r)) t u := by
  refine fw_met (okM ca a) (by decide +kernel) rfl rfl (Nat.le_of_ble_eq_true rfl) ?_
  intro p e s m args below meth c A Q ls C hr hk hP hS hl hQ
  exact w_M_X11_ofCell_0 C (fun _ => fw_ri C hr hk hQ) hf hP hS (lv_sub hl [0] rfl)
/-! ReactiveSheetModel.ofTold(I)I [] -/
abbrev rm_M_X11_ofTold : Room := { frames := 0, cells := 0, slots := 0, locals := 0 }
def b_M_X11_ofTold_0  (t : fw_S) (x0 : Int32) : Option (Int32 × fw_S) := some ((((64 : Int32)) + x0) * ((128 : Int32)), t)
def f_M_X11_ofTold (t : fw_S) (x0 : Int32) : Option (Int32 × fw_S) := b_M_X11_ofTold_0 t x0
set_option maxRecDepth 20000 in
theorem w_M_X11_ofTold_0 {p : Program} {l : Launch} {e : Env} {s : State} {m : MethodId} {args : Array Value} {below : List Frame} {meth : Method} {c : Code} {A : Nat → Prop} {Q : State → Prop} {D : va_G} {ca : Nat → ClassId} {a : Nat → Nat} {u : fw_S} {r : Int32}  (C : CX (WM ca a) D (tyv ca) p s m args c A prog_13_method_21_code 1 RX11) (hr : True → RX (WM ca a) D p l e rm_M_X11_ofTold s m args below meth c A prog_13_method_21_code Q .ireturn [.int r] u) {t : fw_S} {x0 : Int32} {H : Heap} {locs : List Loc} {ls : Array Slot} (hf : b_M_X11_ofTold_0  t x0 = some (r, u)) (hP : va_P D classes (WM ca a t) H) (hS : va_S A s.heap H locs) (hl : lv_has ls 1 [(0, .int x0)]) : W p l e rm_M_X11_ofTold s m args below meth c H locs 0 0 Q (F0 m 0 ls []) := by
  obtain ⟨hx, hb, hml, hown, hts, hN, hK, hD, hA⟩ := id C
  have hf : (some ((((64 : Int32)) + x0) * ((128 : Int32)), t)) = some (r, u) := hf
  refine lv_bipush (v := 64) hx hb dX11_ofTold_0 (by decide) ?_
  refine lv_iload_n hx hb dX11_ofTold_2 rfl (lv_at hl 0 rfl) ?_
  refine lv_iadd hx hb dX11_ofTold_3 ?_
  refine lv_sipush (v := 128) hx hb dX11_ofTold_4 (by decide) ?_
  refine lv_imul hx hb dX11_ofTold_7 ?_
  obtain ⟨e_8, e2_8⟩ := fb_e hf
  subst e_8; subst e2_8
  exact hr trivial _ _ _ _ hP hS dX11_ofTold_8
set_option maxRecDepth 20000 in
theorem c_M_X11_ofTold {l : Launch} {D : va_G} {ca : Nat → ClassId} {a : Nat → Nat} {t : fw_S} {x0 : Int32} {u : fw_S} {r : Int32} (hf : f_M_X11_ofTold t x0 = some (r, u)) : MC (WM ca a) D (tyv ca) l yX11_ofTold (.code yX11_ofTold prog_13_method_21_code 1 (some .int) :: lw_gd) rm_M_X11_ofTold [.int x0] (some (.int r)) t u := by
  refine fw_met (okM ca a) (by decide +kernel) rfl rfl (Nat.le_of_ble_eq_true rfl) ?_
  intro p e s m args below meth c A Q ls C hr hk hP hS hl hQ
  exact w_M_X11_ofTold_0 C (fun _ => fw_ri C hr hk hQ) hf hP hS (lv_sub hl [0] rfl)
/-! ReactiveSheetModel.swaps()V ['m'] -/
abbrev rm_M_X11_swaps__0 : Room := { frames := 1, cells := 0, slots := 0, locals := 20 }
def b_M_X11_swaps__0_45  (t : fw_S)  : Option fw_S := some t
def b_M_X11_swaps__0_39 (k2 : fw_S → Int32 → Option fw_S) (t : fw_S) (x1 : Int32) : Option fw_S := k2 t (x1 + 1)
def b_M_X11_swaps__0_27  (t : fw_S) (x1 : Int32) : Option fw_S := fb_b (f_M_X11_ofCell t x1) fun v_2 t_1 => (fb_b (f_M_X11_ofTold t_1 x1) fun v_4 t_3 => (none))
def b_M_X11_swaps__0_17 (k2 : fw_S → Int32 → Option fw_S) (t : fw_S) (x1 : Int32) : Option fw_S := fb_g (¬ (x1 < 0 ∨ 32 ≤ x1.toNatClampNeg)) (if (st_F t 15 x1.toNatClampNeg) = ((2 : Int32)) then b_M_X11_swaps__0_27 t x1 else b_M_X11_swaps__0_39 k2 t x1)
def b_M_X11_swaps__0_8 (k2 : fw_S → Int32 → Option fw_S) (t : fw_S) (x1 : Int32) : Option fw_S := fb_g (¬ (x1 < 0 ∨ 32 ≤ x1.toNatClampNeg)) (if (st_F t 13 x1.toNatClampNeg) = 0 then b_M_X11_swaps__0_39 k2 t x1 else b_M_X11_swaps__0_17 k2 t x1)
def b_M_X11_swaps__0_2  : Nat → (fw_S → Int32 → Option fw_S)
  | 0 => fun _ _ => none
  | n + 1 => fun t x1 => if ((32 : Int32)) ≤ x1 then b_M_X11_swaps__0_45 t else b_M_X11_swaps__0_8 (b_M_X11_swaps__0_2 n) t x1
def b_M_X11_swaps__0_0  (t : fw_S)  : Option fw_S := b_M_X11_swaps__0_2 3000 t ((0 : Int32))
def f_M_X11_swaps__0 (t : fw_S)  : Option fw_S := b_M_X11_swaps__0_0 t 
set_option maxRecDepth 20000 in
theorem w_M_X11_swaps__0_45 {p : Program} {l : Launch} {e : Env} {s : State} {m : MethodId} {args : Array Value} {below : List Frame} {meth : Method} {c : Code} {A : Nat → Prop} {Q : State → Prop} {D : va_G} {ca : Nat → ClassId} {a : Nat → Nat} {u : fw_S}  (C : CX (WM ca a) D (tyv ca) p s m args c A prog_13_method_34_code 2 RX11) (hr : True → RX (WM ca a) D p l e rm_M_X11_swaps__0 s m args below meth c A prog_13_method_34_code Q .return_ [] u) {t : fw_S}  {H : Heap} {locs : List Loc} {ls : Array Slot} (hf : b_M_X11_swaps__0_45  t  = some u) (hP : va_P D classes (WM ca a t) H) (hS : va_S A s.heap H locs) (hl : lv_has ls 2 []) : W p l e rm_M_X11_swaps__0 s m args below meth c H locs 0 0 Q (F0 m 45 ls []) := by
  obtain ⟨hx, hb, hml, hown, hts, hN, hK, hD, hA⟩ := id C
  have hf : (some t) = some u := hf
  have e_45 := fb_ev hf
  subst e_45
  exact hr trivial _ _ _ _ hP hS dX11_swaps_45
set_option maxRecDepth 20000 in
theorem w_M_X11_swaps__0_39 {p : Program} {l : Launch} {e : Env} {s : State} {m : MethodId} {args : Array Value} {below : List Frame} {meth : Method} {c : Code} {A : Nat → Prop} {Q : State → Prop} {D : va_G} {ca : Nat → ClassId} {a : Nat → Nat} {u : fw_S} {k2 : fw_S → Int32 → Option fw_S} (C : CX (WM ca a) D (tyv ca) p s m args c A prog_13_method_34_code 2 RX11) (hr : True → RX (WM ca a) D p l e rm_M_X11_swaps__0 s m args below meth c A prog_13_method_34_code Q .return_ [] u) (hk2 : ∀ (t : fw_S) (x1 : Int32) (H : Heap) (locs : List Loc) (ls : Array Slot), k2 t x1 = some u → va_P D classes (WM ca a t) H → va_S A s.heap H locs → lv_has ls 2 [(0, .ref (a 0)), (1, .int x1)] → W p l e rm_M_X11_swaps__0 s m args below meth c H locs 0 0 Q (F0 m 2 ls [])) {t : fw_S} {x1 : Int32} {H : Heap} {locs : List Loc} {ls : Array Slot} (hf : b_M_X11_swaps__0_39 k2 t x1 = some u) (hP : va_P D classes (WM ca a t) H) (hS : va_S A s.heap H locs) (hl : lv_has ls 2 [(0, .ref (a 0)), (1, .int x1)]) : W p l e rm_M_X11_swaps__0 s m args below meth c H locs 0 0 Q (F0 m 39 ls []) := by
  obtain ⟨hx, hb, hml, hown, hts, hN, hK, hD, hA⟩ := id C
  have hf : (k2 t (x1 + 1)) = some u := hf
  refine lv_iinc (v := x1 + 1) (lv' := [(1, .int (x1 + 1)), (0, .ref (a 0))]) hx hb dX11_swaps_39 hl (k := 1) rfl rfl (by decide) rfl (fun ls hl => ?_)
  refine lv_goto (tgt := 2) hx hb dX11_swaps_42 (by decide) ?_
  exact hk2 t (x1 + 1) _ _ _ hf hP hS (lv_sub hl [1, 0] rfl)
set_option maxRecDepth 20000 in
theorem w_M_X11_swaps__0_27 {p : Program} {l : Launch} {e : Env} {s : State} {m : MethodId} {args : Array Value} {below : List Frame} {meth : Method} {c : Code} {A : Nat → Prop} {Q : State → Prop} {D : va_G} {ca : Nat → ClassId} {a : Nat → Nat} {u : fw_S}  (C : CX (WM ca a) D (tyv ca) p s m args c A prog_13_method_34_code 2 RX11) (hr : True → RX (WM ca a) D p l e rm_M_X11_swaps__0 s m args below meth c A prog_13_method_34_code Q .return_ [] u) {t : fw_S} {x1 : Int32} {H : Heap} {locs : List Loc} {ls : Array Slot} (hf : b_M_X11_swaps__0_27  t x1 = some u) (hP : va_P D classes (WM ca a t) H) (hS : va_S A s.heap H locs) (hl : lv_has ls 2 [(0, .ref (a 0)), (1, .int x1)]) : W p l e rm_M_X11_swaps__0 s m args below meth c H locs 0 0 Q (F0 m 27 ls []) := by
  obtain ⟨hx, hb, hml, hown, hts, hN, hK, hD, hA⟩ := id C
  have hf : (fb_b (f_M_X11_ofCell t x1) fun v_2 t_1 => (fb_b (f_M_X11_ofTold t_1 x1) fun v_4 t_3 => (none))) = some u := hf
  refine lv_aload_n hx hb dX11_swaps_27 rfl (lv_at hl 0 rfl) ?_
  refine lv_iload_n hx hb dX11_swaps_28 rfl (lv_at hl 1 rfl) ?_
  obtain ⟨v_2, t_1, g_29, hf⟩ := fb_bs hf
  refine fw_S1 (As := [.int x1]) (rest := [.ref (a 0)]) (n := 1) C (c_M_X11_ofCell (l := l) (D := D) (ca := ca) (a := a) g_29) kw_1468 kw_1469 kw_102 kw_1470 hP hS hl rfl rfl (by decide) (by decide +kernel) ⟨Nat.le_of_ble_eq_true rfl, Nat.le_of_ble_eq_true rfl⟩ rfl rfl (Nat.le_of_ble_eq_true rfl) dX11_swaps_29 (fun H locs hP hS => ?_)
  refine W.eq (g2 := F0 m 32 ls [.int v_2, .ref (a 0)]) rfl ?_
  refine lv_iload_n hx hb dX11_swaps_32 rfl (lv_at hl 1 rfl) ?_
  obtain ⟨v_4, t_3, g_33, hf⟩ := fb_bs hf
  refine fw_S1 (As := [.int x1]) (rest := [.int v_2, .ref (a 0)]) (n := 1) C (c_M_X11_ofTold (l := l) (D := D) (ca := ca) (a := a) g_33) kw_1471 kw_1472 kw_102 kw_1473 hP hS hl rfl rfl (by decide) (by decide +kernel) ⟨Nat.le_of_ble_eq_true rfl, Nat.le_of_ble_eq_true rfl⟩ rfl rfl (Nat.le_of_ble_eq_true rfl) dX11_swaps_33 (fun H locs hP hS => ?_)
  refine W.eq (g2 := F0 m 36 ls [.int v_4, .int v_2, .ref (a 0)]) rfl ?_
  cases hf
set_option maxRecDepth 20000 in
theorem w_M_X11_swaps__0_17 {p : Program} {l : Launch} {e : Env} {s : State} {m : MethodId} {args : Array Value} {below : List Frame} {meth : Method} {c : Code} {A : Nat → Prop} {Q : State → Prop} {D : va_G} {ca : Nat → ClassId} {a : Nat → Nat} {u : fw_S} {k2 : fw_S → Int32 → Option fw_S} (C : CX (WM ca a) D (tyv ca) p s m args c A prog_13_method_34_code 2 RX11) (hr : True → RX (WM ca a) D p l e rm_M_X11_swaps__0 s m args below meth c A prog_13_method_34_code Q .return_ [] u) (hk2 : ∀ (t : fw_S) (x1 : Int32) (H : Heap) (locs : List Loc) (ls : Array Slot), k2 t x1 = some u → va_P D classes (WM ca a t) H → va_S A s.heap H locs → lv_has ls 2 [(0, .ref (a 0)), (1, .int x1)] → W p l e rm_M_X11_swaps__0 s m args below meth c H locs 0 0 Q (F0 m 2 ls [])) {t : fw_S} {x1 : Int32} {H : Heap} {locs : List Loc} {ls : Array Slot} (hf : b_M_X11_swaps__0_17 k2 t x1 = some u) (hP : va_P D classes (WM ca a t) H) (hS : va_S A s.heap H locs) (hl : lv_has ls 2 [(0, .ref (a 0)), (1, .int x1)]) : W p l e rm_M_X11_swaps__0 s m args below meth c H locs 0 0 Q (F0 m 17 ls []) := by
  obtain ⟨hx, hb, hml, hown, hts, hN, hK, hD, hA⟩ := id C
  have hf : (fb_g (¬ (x1 < 0 ∨ 32 ≤ x1.toNatClampNeg)) (if (st_F t 15 x1.toNatClampNeg) = ((2 : Int32)) then b_M_X11_swaps__0_27 t x1 else b_M_X11_swaps__0_39 k2 t x1)) = some u := hf
  refine lv_aload_n hx hb dX11_swaps_17 rfl (lv_at hl 0 rfl) ?_
  refine va_get (D := D) (ci := 11) (v := .ref (a 17)) (C := RX11) (T := TX11) (N := 76) hx hb hts inX11 hown hK hP 0 (heM_0 ca a t) rfl 16 (by decide) (hts _ kw_1208) (fun _ h9 => h9) rfl dX11_swaps_18 ?_
  refine lv_iload_n hx hb dX11_swaps_21 rfl (lv_at hl 1 rfl) ?_
  obtain ⟨h_22, hf⟩ := fb_if hf
  refine va_iald hx hb hK hP 17 0 (haM_17 ca a t) rfl h_22 dX11_swaps_22 ?_
  refine lv_iconst (v := 2) hx hb dX11_swaps_23 (by decide) ?_
  refine lv_icmp_ne (tgt := 39) hx hb dX11_swaps_24 (by decide) (fun h_24 => ?_) (fun h_24 => ?_)
  · have hf := fb_f h_24 hf
    exact w_M_X11_swaps__0_39 C hr hk2 hf hP hS (lv_sub hl [0, 1] rfl)
  · have hf := fb_t h_24 hf
    exact w_M_X11_swaps__0_27 C hr hf hP hS (lv_sub hl [0, 1] rfl)
set_option maxRecDepth 20000 in
theorem w_M_X11_swaps__0_8 {p : Program} {l : Launch} {e : Env} {s : State} {m : MethodId} {args : Array Value} {below : List Frame} {meth : Method} {c : Code} {A : Nat → Prop} {Q : State → Prop} {D : va_G} {ca : Nat → ClassId} {a : Nat → Nat} {u : fw_S} {k2 : fw_S → Int32 → Option fw_S} (C : CX (WM ca a) D (tyv ca) p s m args c A prog_13_method_34_code 2 RX11) (hr : True → RX (WM ca a) D p l e rm_M_X11_swaps__0 s m args below meth c A prog_13_method_34_code Q .return_ [] u) (hk2 : ∀ (t : fw_S) (x1 : Int32) (H : Heap) (locs : List Loc) (ls : Array Slot), k2 t x1 = some u → va_P D classes (WM ca a t) H → va_S A s.heap H locs → lv_has ls 2 [(0, .ref (a 0)), (1, .int x1)] → W p l e rm_M_X11_swaps__0 s m args below meth c H locs 0 0 Q (F0 m 2 ls [])) {t : fw_S} {x1 : Int32} {H : Heap} {locs : List Loc} {ls : Array Slot} (hf : b_M_X11_swaps__0_8 k2 t x1 = some u) (hP : va_P D classes (WM ca a t) H) (hS : va_S A s.heap H locs) (hl : lv_has ls 2 [(0, .ref (a 0)), (1, .int x1)]) : W p l e rm_M_X11_swaps__0 s m args below meth c H locs 0 0 Q (F0 m 8 ls []) := by
  obtain ⟨hx, hb, hml, hown, hts, hN, hK, hD, hA⟩ := id C
  have hf : (fb_g (¬ (x1 < 0 ∨ 32 ≤ x1.toNatClampNeg)) (if (st_F t 13 x1.toNatClampNeg) = 0 then b_M_X11_swaps__0_39 k2 t x1 else b_M_X11_swaps__0_17 k2 t x1)) = some u := hf
  refine lv_aload_n hx hb dX11_swaps_8 rfl (lv_at hl 0 rfl) ?_
  refine va_get (D := D) (ci := 11) (v := .ref (a 15)) (C := RX11) (T := TX11) (N := 76) hx hb hts inX11 hown hK hP 0 (heM_0 ca a t) rfl 14 (by decide) (hts _ kw_1206) (fun _ h9 => h9) rfl dX11_swaps_9 ?_
  refine lv_iload_n hx hb dX11_swaps_12 rfl (lv_at hl 1 rfl) ?_
  obtain ⟨h_13, hf⟩ := fb_if hf
  refine va_zald hx hb hK hP 15 2 (haM_15 ca a t) rfl h_13 dX11_swaps_13 ?_
  refine lv_if_eq (tgt := 39) hx hb dX11_swaps_14 (by decide) (fun h_14 => ?_) (fun h_14 => ?_)
  · have hf := fb_t h_14 hf
    exact w_M_X11_swaps__0_39 C hr hk2 hf hP hS (lv_sub hl [0, 1] rfl)
  · have hf := fb_f h_14 hf
    exact w_M_X11_swaps__0_17 C hr hk2 hf hP hS (lv_sub hl [0, 1] rfl)
set_option maxRecDepth 20000 in
theorem w_M_X11_swaps__0_2 {p : Program} {l : Launch} {e : Env} {s : State} {m : MethodId} {args : Array Value} {below : List Frame} {meth : Method} {c : Code} {A : Nat → Prop} {Q : State → Prop} {D : va_G} {ca : Nat → ClassId} {a : Nat → Nat} {u : fw_S}  (C : CX (WM ca a) D (tyv ca) p s m args c A prog_13_method_34_code 2 RX11) (hr : True → RX (WM ca a) D p l e rm_M_X11_swaps__0 s m args below meth c A prog_13_method_34_code Q .return_ [] u) : ∀ (n : Nat) (t : fw_S) (x1 : Int32) (H : Heap) (locs : List Loc) (ls : Array Slot), b_M_X11_swaps__0_2  n t x1 = some u → va_P D classes (WM ca a t) H → va_S A s.heap H locs → lv_has ls 2 [(0, .ref (a 0)), (1, .int x1)] → W p l e rm_M_X11_swaps__0 s m args below meth c H locs 0 0 Q (F0 m 2 ls []) := by
  obtain ⟨hx, hb, hml, hown, hts, hN, hK, hD, hA⟩ := id C
  intro n
  induction n with
  | zero => intro t x1 H locs ls hf; cases hf
  | succ n hk2 =>
    intro t x1 H locs ls hf hP hS hl
    have hf : (if ((32 : Int32)) ≤ x1 then b_M_X11_swaps__0_45 t else b_M_X11_swaps__0_8 (b_M_X11_swaps__0_2 n) t x1) = some u := hf
    refine lv_iload_n hx hb dX11_swaps_2 rfl (lv_at hl 1 rfl) ?_
    refine lv_bipush (v := 32) hx hb dX11_swaps_3 (by decide) ?_
    refine lv_icmp_ge (tgt := 45) hx hb dX11_swaps_5 (by decide) (fun h_5 => ?_) (fun h_5 => ?_)
    · have hf := fb_t h_5 hf
      exact w_M_X11_swaps__0_45 C hr hf hP hS (lv_sub hl [] rfl)
    · have hf := fb_f h_5 hf
      exact w_M_X11_swaps__0_8 C hr hk2 hf hP hS (lv_sub hl [0, 1] rfl)
set_option maxRecDepth 20000 in
theorem w_M_X11_swaps__0_0 {p : Program} {l : Launch} {e : Env} {s : State} {m : MethodId} {args : Array Value} {below : List Frame} {meth : Method} {c : Code} {A : Nat → Prop} {Q : State → Prop} {D : va_G} {ca : Nat → ClassId} {a : Nat → Nat} {u : fw_S}  (C : CX (WM ca a) D (tyv ca) p s m args c A prog_13_method_34_code 2 RX11) (hr : True → RX (WM ca a) D p l e rm_M_X11_swaps__0 s m args below meth c A prog_13_method_34_code Q .return_ [] u) {t : fw_S}  {H : Heap} {locs : List Loc} {ls : Array Slot} (hf : b_M_X11_swaps__0_0  t  = some u) (hP : va_P D classes (WM ca a t) H) (hS : va_S A s.heap H locs) (hl : lv_has ls 2 [(0, .ref (a 0))]) : W p l e rm_M_X11_swaps__0 s m args below meth c H locs 0 0 Q (F0 m 0 ls []) := by
  obtain ⟨hx, hb, hml, hown, hts, hN, hK, hD, hA⟩ := id C
  have hf : (b_M_X11_swaps__0_2 3000 t ((0 : Int32))) = some u := hf
  refine lv_iconst (v := 0) hx hb dX11_swaps_0 (by decide) ?_
  refine lv_istore_n (lv' := [(1, .int ((0 : Int32))), (0, .ref (a 0))]) hx hb dX11_swaps_1 rfl hl (by decide) rfl (fun ls hl => ?_)
  exact w_M_X11_swaps__0_2 C hr 3000 t ((0 : Int32)) _ _ _ hf hP hS (lv_sub hl [1, 0] rfl)
set_option maxRecDepth 20000 in
theorem c_M_X11_swaps__0 {l : Launch} {D : va_G} {ca : Nat → ClassId} {a : Nat → Nat} {t : fw_S}  {u : fw_S} (hf : f_M_X11_swaps__0 t  = some u) : MC (WM ca a) D (tyv ca) l yX11_swaps (.code yX11_swaps prog_13_method_34_code 2 none :: lw_gd) rm_M_X11_swaps__0 [.ref (a 0)] none t u := by
  refine fw_met (okM ca a) (by decide +kernel) rfl rfl (Nat.le_of_ble_eq_true rfl) ?_
  intro p e s m args below meth c A Q ls C hr hk hP hS hl hQ
  exact w_M_X11_swaps__0_0 C (fun _ => fw_rv C hr hk hQ) hf hP hS (lv_sub hl [0] rfl)
/-! ReactiveSheetModel.isOther(I)Z ['m'] -/
abbrev rm_M_X11_isOther__0 : Room := { frames := 0, cells := 0, slots := 0, locals := 0 }
def b_M_X11_isOther__0_45  (t : fw_S) (z0 : Int32) : Option (Int32 × fw_S) := fb_g (z0 = 0 ∨ z0 = 1) (some (z0, t))
def b_M_X11_isOther__0_40  (t : fw_S)  : Option (Int32 × fw_S) := b_M_X11_isOther__0_45 t ((1 : Int32))
def b_M_X11_isOther__0_44  (t : fw_S)  : Option (Int32 × fw_S) := b_M_X11_isOther__0_45 t ((0 : Int32))
def b_M_X11_isOther__0_24  (t : fw_S) (x1 : Int32) : Option (Int32 × fw_S) := fb_g (¬ (x1 < 0 ∨ 32 ≤ x1.toNatClampNeg)) (fb_g (¬ (x1 < 0 ∨ 32 ≤ x1.toNatClampNeg)) (if (lg_cmp (st_G t 0 x1.toNatClampNeg) (st_G t 3 x1.toNatClampNeg)) = 0 then b_M_X11_isOther__0_44 t else b_M_X11_isOther__0_40 t))
def b_M_X11_isOther__0_15  (t : fw_S) (x1 : Int32) : Option (Int32 × fw_S) := fb_g (¬ (x1 < 0 ∨ 32 ≤ x1.toNatClampNeg)) (if (st_F t 1 x1.toNatClampNeg) = 0 then b_M_X11_isOther__0_24 t x1 else b_M_X11_isOther__0_44 t)
def b_M_X11_isOther__0_0  (t : fw_S) (x1 : Int32) : Option (Int32 × fw_S) := fb_g (¬ (x1 < 0 ∨ 32 ≤ x1.toNatClampNeg)) (fb_g (¬ (x1 < 0 ∨ 32 ≤ x1.toNatClampNeg)) (if (st_F t 1 x1.toNatClampNeg) = (st_F t 20 x1.toNatClampNeg) then b_M_X11_isOther__0_15 t x1 else b_M_X11_isOther__0_40 t))
def f_M_X11_isOther__0 (t : fw_S) (x1 : Int32) : Option (Int32 × fw_S) := b_M_X11_isOther__0_0 t x1
set_option maxRecDepth 20000 in
theorem w_M_X11_isOther__0_45 {p : Program} {l : Launch} {e : Env} {s : State} {m : MethodId} {args : Array Value} {below : List Frame} {meth : Method} {c : Code} {A : Nat → Prop} {Q : State → Prop} {D : va_G} {ca : Nat → ClassId} {a : Nat → Nat} {u : fw_S} {r : Int32}  (C : CX (WM ca a) D (tyv ca) p s m args c A prog_13_method_30_code 2 RX11) (hr : (r = 0 ∨ r = 1) → RX (WM ca a) D p l e rm_M_X11_isOther__0 s m args below meth c A prog_13_method_30_code Q .ireturn [.int r] u) {t : fw_S} {z0 : Int32} {H : Heap} {locs : List Loc} {ls : Array Slot} (hf : b_M_X11_isOther__0_45  t z0 = some (r, u)) (hP : va_P D classes (WM ca a t) H) (hS : va_S A s.heap H locs) (hl : lv_has ls 2 []) : W p l e rm_M_X11_isOther__0 s m args below meth c H locs 0 0 Q (F0 m 45 ls [.int z0]) := by
  obtain ⟨hx, hb, hml, hown, hts, hN, hK, hD, hA⟩ := id C
  have hf : (fb_g (z0 = 0 ∨ z0 = 1) (some (z0, t))) = some (r, u) := hf
  obtain ⟨h_45, hf⟩ := fb_if hf
  obtain ⟨e_45, e2_45⟩ := fb_e hf
  subst e_45; subst e2_45
  exact hr h_45 _ _ _ _ hP hS dX11_isOther_45
set_option maxRecDepth 20000 in
theorem w_M_X11_isOther__0_40 {p : Program} {l : Launch} {e : Env} {s : State} {m : MethodId} {args : Array Value} {below : List Frame} {meth : Method} {c : Code} {A : Nat → Prop} {Q : State → Prop} {D : va_G} {ca : Nat → ClassId} {a : Nat → Nat} {u : fw_S} {r : Int32}  (C : CX (WM ca a) D (tyv ca) p s m args c A prog_13_method_30_code 2 RX11) (hr : (r = 0 ∨ r = 1) → RX (WM ca a) D p l e rm_M_X11_isOther__0 s m args below meth c A prog_13_method_30_code Q .ireturn [.int r] u) {t : fw_S}  {H : Heap} {locs : List Loc} {ls : Array Slot} (hf : b_M_X11_isOther__0_40  t  = some (r, u)) (hP : va_P D classes (WM ca a t) H) (hS : va_S A s.heap H locs) (hl : lv_has ls 2 []) : W p l e rm_M_X11_isOther__0 s m args below meth c H locs 0 0 Q (F0 m 40 ls []) := by
  obtain ⟨hx, hb, hml, hown, hts, hN, hK, hD, hA⟩ := id C
  have hf : (b_M_X11_isOther__0_45 t ((1 : Int32))) = some (r, u) := hf
  refine lv_iconst (v := 1) hx hb dX11_isOther_40 (by decide) ?_
  refine lv_goto (tgt := 45) hx hb dX11_isOther_41 (by decide) ?_
  exact w_M_X11_isOther__0_45 C hr hf hP hS (lv_sub hl [] rfl)
set_option maxRecDepth 20000 in
theorem w_M_X11_isOther__0_44 {p : Program} {l : Launch} {e : Env} {s : State} {m : MethodId} {args : Array Value} {below : List Frame} {meth : Method} {c : Code} {A : Nat → Prop} {Q : State → Prop} {D : va_G} {ca : Nat → ClassId} {a : Nat → Nat} {u : fw_S} {r : Int32}  (C : CX (WM ca a) D (tyv ca) p s m args c A prog_13_method_30_code 2 RX11) (hr : (r = 0 ∨ r = 1) → RX (WM ca a) D p l e rm_M_X11_isOther__0 s m args below meth c A prog_13_method_30_code Q .ireturn [.int r] u) {t : fw_S}  {H : Heap} {locs : List Loc} {ls : Array Slot} (hf : b_M_X11_isOther__0_44  t  = some (r, u)) (hP : va_P D classes (WM ca a t) H) (hS : va_S A s.heap H locs) (hl : lv_has ls 2 []) : W p l e rm_M_X11_isOther__0 s m args below meth c H locs 0 0 Q (F0 m 44 ls []) := by
  obtain ⟨hx, hb, hml, hown, hts, hN, hK, hD, hA⟩ := id C
  have hf : (b_M_X11_isOther__0_45 t ((0 : Int32))) = some (r, u) := hf
  refine lv_iconst (v := 0) hx hb dX11_isOther_44 (by decide) ?_
  exact w_M_X11_isOther__0_45 C hr hf hP hS (lv_sub hl [] rfl)
set_option maxRecDepth 20000 in
theorem w_M_X11_isOther__0_24 {p : Program} {l : Launch} {e : Env} {s : State} {m : MethodId} {args : Array Value} {below : List Frame} {meth : Method} {c : Code} {A : Nat → Prop} {Q : State → Prop} {D : va_G} {ca : Nat → ClassId} {a : Nat → Nat} {u : fw_S} {r : Int32}  (C : CX (WM ca a) D (tyv ca) p s m args c A prog_13_method_30_code 2 RX11) (hr : (r = 0 ∨ r = 1) → RX (WM ca a) D p l e rm_M_X11_isOther__0 s m args below meth c A prog_13_method_30_code Q .ireturn [.int r] u) {t : fw_S} {x1 : Int32} {H : Heap} {locs : List Loc} {ls : Array Slot} (hf : b_M_X11_isOther__0_24  t x1 = some (r, u)) (hP : va_P D classes (WM ca a t) H) (hS : va_S A s.heap H locs) (hl : lv_has ls 2 [(0, .ref (a 0)), (1, .int x1)]) : W p l e rm_M_X11_isOther__0 s m args below meth c H locs 0 0 Q (F0 m 24 ls []) := by
  obtain ⟨hx, hb, hml, hown, hts, hN, hK, hD, hA⟩ := id C
  have hf : (fb_g (¬ (x1 < 0 ∨ 32 ≤ x1.toNatClampNeg)) (fb_g (¬ (x1 < 0 ∨ 32 ≤ x1.toNatClampNeg)) (if (lg_cmp (st_G t 0 x1.toNatClampNeg) (st_G t 3 x1.toNatClampNeg)) = 0 then b_M_X11_isOther__0_44 t else b_M_X11_isOther__0_40 t))) = some (r, u) := hf
  refine lv_aload_n hx hb dX11_isOther_24 rfl (lv_at hl 0 rfl) ?_
  refine va_get (D := D) (ci := 11) (v := .ref (a 7)) (C := RX11) (T := TX11) (N := 76) hx hb hts inX11 hown hK hP 0 (heM_0 ca a t) rfl 6 (by decide) (hts _ kw_1198) (fun _ h9 => h9) rfl dX11_isOther_25 ?_
  refine lv_iload_n hx hb dX11_isOther_28 rfl (lv_at hl 1 rfl) ?_
  obtain ⟨h_29, hf⟩ := fb_if hf
  refine va_lald hx hb hK hP 7 1 (haM_7 ca a t) rfl h_29 dX11_isOther_29 ?_
  refine lv_aload_n hx hb dX11_isOther_30 rfl (lv_at hl 0 rfl) ?_
  refine va_get (D := D) (ci := 11) (v := .ref (a 30)) (C := RX11) (T := TX11) (N := 76) hx hb hts inX11 hown hK hP 0 (heM_0 ca a t) rfl 30 (by decide) (hts _ kw_1222) (fun _ h9 => h9) rfl dX11_isOther_31 ?_
  refine lv_iload_n hx hb dX11_isOther_34 rfl (lv_at hl 1 rfl) ?_
  obtain ⟨h_35, hf⟩ := fb_if hf
  refine va_lald hx hb hK hP 30 1 (haM_30 ca a t) rfl h_35 dX11_isOther_35 ?_
  refine W.lcmp hx hb dX11_isOther_36 ?_
  refine lv_if_eq (tgt := 44) hx hb dX11_isOther_37 (by decide) (fun h_37 => ?_) (fun h_37 => ?_)
  · have hf := fb_t h_37 hf
    exact w_M_X11_isOther__0_44 C hr hf hP hS (lv_sub hl [] rfl)
  · have hf := fb_f h_37 hf
    exact w_M_X11_isOther__0_40 C hr hf hP hS (lv_sub hl [] rfl)
set_option maxRecDepth 20000 in
theorem w_M_X11_isOther__0_15 {p : Program} {l : Launch} {e : Env} {s : State} {m : MethodId} {args : Array Value} {below : List Frame} {meth : Method} {c : Code} {A : Nat → Prop} {Q : State → Prop} {D : va_G} {ca : Nat → ClassId} {a : Nat → Nat} {u : fw_S} {r : Int32}  (C : CX (WM ca a) D (tyv ca) p s m args c A prog_13_method_30_code 2 RX11) (hr : (r = 0 ∨ r = 1) → RX (WM ca a) D p l e rm_M_X11_isOther__0 s m args below meth c A prog_13_method_30_code Q .ireturn [.int r] u) {t : fw_S} {x1 : Int32} {H : Heap} {locs : List Loc} {ls : Array Slot} (hf : b_M_X11_isOther__0_15  t x1 = some (r, u)) (hP : va_P D classes (WM ca a t) H) (hS : va_S A s.heap H locs) (hl : lv_has ls 2 [(0, .ref (a 0)), (1, .int x1)]) : W p l e rm_M_X11_isOther__0 s m args below meth c H locs 0 0 Q (F0 m 15 ls []) := by
  obtain ⟨hx, hb, hml, hown, hts, hN, hK, hD, hA⟩ := id C
  have hf : (fb_g (¬ (x1 < 0 ∨ 32 ≤ x1.toNatClampNeg)) (if (st_F t 1 x1.toNatClampNeg) = 0 then b_M_X11_isOther__0_24 t x1 else b_M_X11_isOther__0_44 t)) = some (r, u) := hf
  refine lv_aload_n hx hb dX11_isOther_15 rfl (lv_at hl 0 rfl) ?_
  refine va_get (D := D) (ci := 11) (v := .ref (a 2)) (C := RX11) (T := TX11) (N := 76) hx hb hts inX11 hown hK hP 0 (heM_0 ca a t) rfl 1 (by decide) (hts _ kw_1193) (fun _ h9 => h9) rfl dX11_isOther_16 ?_
  refine lv_iload_n hx hb dX11_isOther_19 rfl (lv_at hl 1 rfl) ?_
  obtain ⟨h_20, hf⟩ := fb_if hf
  refine va_iald hx hb hK hP 2 0 (haM_2 ca a t) rfl h_20 dX11_isOther_20 ?_
  refine lv_if_ne (tgt := 44) hx hb dX11_isOther_21 (by decide) (fun h_21 => ?_) (fun h_21 => ?_)
  · have hf := fb_f h_21 hf
    exact w_M_X11_isOther__0_44 C hr hf hP hS (lv_sub hl [] rfl)
  · have hf := fb_t h_21 hf
    exact w_M_X11_isOther__0_24 C hr hf hP hS (lv_sub hl [0, 1] rfl)
set_option maxRecDepth 20000 in
theorem w_M_X11_isOther__0_0 {p : Program} {l : Launch} {e : Env} {s : State} {m : MethodId} {args : Array Value} {below : List Frame} {meth : Method} {c : Code} {A : Nat → Prop} {Q : State → Prop} {D : va_G} {ca : Nat → ClassId} {a : Nat → Nat} {u : fw_S} {r : Int32}  (C : CX (WM ca a) D (tyv ca) p s m args c A prog_13_method_30_code 2 RX11) (hr : (r = 0 ∨ r = 1) → RX (WM ca a) D p l e rm_M_X11_isOther__0 s m args below meth c A prog_13_method_30_code Q .ireturn [.int r] u) {t : fw_S} {x1 : Int32} {H : Heap} {locs : List Loc} {ls : Array Slot} (hf : b_M_X11_isOther__0_0  t x1 = some (r, u)) (hP : va_P D classes (WM ca a t) H) (hS : va_S A s.heap H locs) (hl : lv_has ls 2 [(0, .ref (a 0)), (1, .int x1)]) : W p l e rm_M_X11_isOther__0 s m args below meth c H locs 0 0 Q (F0 m 0 ls []) := by
  obtain ⟨hx, hb, hml, hown, hts, hN, hK, hD, hA⟩ := id C
  have hf : (fb_g (¬ (x1 < 0 ∨ 32 ≤ x1.toNatClampNeg)) (fb_g (¬ (x1 < 0 ∨ 32 ≤ x1.toNatClampNeg)) (if (st_F t 1 x1.toNatClampNeg) = (st_F t 20 x1.toNatClampNeg) then b_M_X11_isOther__0_15 t x1 else b_M_X11_isOther__0_40 t))) = some (r, u) := hf
  refine lv_aload_n hx hb dX11_isOther_0 rfl (lv_at hl 0 rfl) ?_
  refine va_get (D := D) (ci := 11) (v := .ref (a 2)) (C := RX11) (T := TX11) (N := 76) hx hb hts inX11 hown hK hP 0 (heM_0 ca a t) rfl 1 (by decide) (hts _ kw_1193) (fun _ h9 => h9) rfl dX11_isOther_1 ?_
  refine lv_iload_n hx hb dX11_isOther_4 rfl (lv_at hl 1 rfl) ?_
  obtain ⟨h_5, hf⟩ := fb_if hf
  refine va_iald hx hb hK hP 2 0 (haM_2 ca a t) rfl h_5 dX11_isOther_5 ?_
  refine lv_aload_n hx hb dX11_isOther_6 rfl (lv_at hl 0 rfl) ?_
  refine va_get (D := D) (ci := 11) (v := .ref (a 24)) (C := RX11) (T := TX11) (N := 76) hx hb hts inX11 hown hK hP 0 (heM_0 ca a t) rfl 24 (by decide) (hts _ kw_1216) (fun _ h9 => h9) rfl dX11_isOther_7 ?_
  refine lv_iload_n hx hb dX11_isOther_10 rfl (lv_at hl 1 rfl) ?_
  obtain ⟨h_11, hf⟩ := fb_if hf
  refine va_iald hx hb hK hP 24 0 (haM_24 ca a t) rfl h_11 dX11_isOther_11 ?_
  refine lv_icmp_ne (tgt := 40) hx hb dX11_isOther_12 (by decide) (fun h_12 => ?_) (fun h_12 => ?_)
  · have hf := fb_f h_12 hf
    exact w_M_X11_isOther__0_40 C hr hf hP hS (lv_sub hl [] rfl)
  · have hf := fb_t h_12 hf
    exact w_M_X11_isOther__0_15 C hr hf hP hS (lv_sub hl [0, 1] rfl)
set_option maxRecDepth 20000 in
theorem c_M_X11_isOther__0 {l : Launch} {D : va_G} {ca : Nat → ClassId} {a : Nat → Nat} {t : fw_S} {x1 : Int32} {u : fw_S} {r : Int32} (hf : f_M_X11_isOther__0 t x1 = some (r, u)) : MC (WM ca a) D (tyv ca) l yX11_isOther (.code yX11_isOther prog_13_method_30_code 2 (some .boolean) :: lw_gd) rm_M_X11_isOther__0 [.ref (a 0), .int x1] (some (.int r)) t u := by
  refine fw_met (okM ca a) (by decide +kernel) rfl rfl (Nat.le_of_ble_eq_true rfl) ?_
  intro p e s m args below meth c A Q ls C hr hk hP hS hl hQ
  exact w_M_X11_isOther__0_0 C (fun hz => fw_rz C hr hk hz hQ) hf hP hS (lv_sub hl [0, 1] rfl)
/-! ReactiveSheetModel.settle(I)V ['m'] -/
abbrev rm_M_X11_settle__0 : Room := { frames := 0, cells := 0, slots := 0, locals := 0 }
def b_M_X11_settle__0_17  (t : fw_S)  : Option fw_S := some t
def b_M_X11_settle__0_149  (t : fw_S) (x1 : Int32) : Option fw_S := fb_g (¬ (x1 < 0 ∨ 32 ≤ x1.toNatClampNeg)) (fb_l (up_F t 28 (upd (st_F t 28) x1.toNatClampNeg ((2 : Int32)))) fun t_1 => (some t_1))
def b_M_X11_settle__0_144  (t : fw_S) (x1 : Int32) : Option fw_S := none
def b_M_X11_settle__0_137  (t : fw_S) (x1 : Int32) : Option fw_S := if (st_I t 1) = 0 then b_M_X11_settle__0_144 t x1 else b_M_X11_settle__0_149 t x1
def b_M_X11_settle__0_133  (t : fw_S) (x1 : Int32) (x2 : Int32) : Option fw_S := if x2 = 0 then b_M_X11_settle__0_149 t x1 else b_M_X11_settle__0_137 t x1
def b_M_X11_settle__0_81  (t : fw_S) (x1 : Int32) (x2 : Int32) (x3 : Int32) : Option fw_S := fb_g (¬ (((((32 : Int32)) * x1) + x3) < 0 ∨ 1024 ≤ ((((32 : Int32)) * x1) + x3).toNatClampNeg)) (none)
def b_M_X11_settle__0_74  (t : fw_S) (x1 : Int32) (x2 : Int32) (x3 : Int32) : Option fw_S := if (st_I t 1) = 0 then b_M_X11_settle__0_81 t x1 x2 x3 else b_M_X11_settle__0_133 t x1 x2
def b_M_X11_settle__0_70  (t : fw_S) (x1 : Int32) (x2 : Int32) (x3 : Int32) : Option fw_S := if x2 = 0 then b_M_X11_settle__0_74 t x1 x2 x3 else b_M_X11_settle__0_133 t x1 x2
def b_M_X11_settle__0_60  (t : fw_S) (x1 : Int32) (x2 : Int32) (x3 : Int32) : Option fw_S := fb_g (¬ (x1 < 0 ∨ 32 ≤ x1.toNatClampNeg)) (if (st_F t 3 x1.toNatClampNeg) ≤ x3 then b_M_X11_settle__0_133 t x1 x2 else b_M_X11_settle__0_70 t x1 x2 x3)
def b_M_X11_settle__0_51  (t : fw_S) (x1 : Int32) : Option fw_S := fb_g (¬ (x1 < 0 ∨ 32 ≤ x1.toNatClampNeg)) (b_M_X11_settle__0_60 t x1 (st_F t 13 x1.toNatClampNeg) ((0 : Int32)))
def b_M_X11_settle__0_34  (t : fw_S) (x1 : Int32) : Option fw_S := fb_g (¬ (x1 < 0 ∨ 32 ≤ x1.toNatClampNeg)) (fb_l (up_F t 28 (upd (st_F t 28) x1.toNatClampNeg ((1 : Int32)))) fun t_1 => (fb_g (¬ (x1 < 0 ∨ 32 ≤ x1.toNatClampNeg)) (if (st_F t_1 0 x1.toNatClampNeg) = ((2 : Int32)) then b_M_X11_settle__0_51 t_1 x1 else b_M_X11_settle__0_149 t_1 x1)))
def b_M_X11_settle__0_28  (t : fw_S)  : Option fw_S := fb_g (((1 : Int32)) = 0 ∨ ((1 : Int32)) = 1) (fb_l (up_I t 1 ((1 : Int32))) fun t_1 => (some t_1))
def b_M_X11_settle__0_18  (t : fw_S) (x1 : Int32) : Option fw_S := fb_g (¬ (x1 < 0 ∨ 32 ≤ x1.toNatClampNeg)) (if (st_F t 28 x1.toNatClampNeg) = ((1 : Int32)) then b_M_X11_settle__0_28 t else b_M_X11_settle__0_34 t x1)
def b_M_X11_settle__0_7  (t : fw_S) (x1 : Int32) : Option fw_S := fb_g (¬ (x1 < 0 ∨ 32 ≤ x1.toNatClampNeg)) (if (st_F t 28 x1.toNatClampNeg) = ((2 : Int32)) then b_M_X11_settle__0_17 t else b_M_X11_settle__0_18 t x1)
def b_M_X11_settle__0_0  (t : fw_S) (x1 : Int32) : Option fw_S := if (st_I t 1) = 0 then b_M_X11_settle__0_7 t x1 else b_M_X11_settle__0_17 t
def f_M_X11_settle__0 (t : fw_S) (x1 : Int32) : Option fw_S := b_M_X11_settle__0_0 t x1
set_option maxRecDepth 20000 in
theorem w_M_X11_settle__0_17 {p : Program} {l : Launch} {e : Env} {s : State} {m : MethodId} {args : Array Value} {below : List Frame} {meth : Method} {c : Code} {A : Nat → Prop} {Q : State → Prop} {D : va_G} {ca : Nat → ClassId} {a : Nat → Nat} {u : fw_S}  (C : CX (WM ca a) D (tyv ca) p s m args c A prog_13_method_28_code 5 RX11) (hr : True → RX (WM ca a) D p l e rm_M_X11_settle__0 s m args below meth c A prog_13_method_28_code Q .return_ [] u) {t : fw_S}  {H : Heap} {locs : List Loc} {ls : Array Slot} (hf : b_M_X11_settle__0_17  t  = some u) (hP : va_P D classes (WM ca a t) H) (hS : va_S A s.heap H locs) (hl : lv_has ls 5 []) : W p l e rm_M_X11_settle__0 s m args below meth c H locs 0 0 Q (F0 m 17 ls []) := by
  obtain ⟨hx, hb, hml, hown, hts, hN, hK, hD, hA⟩ := id C
  have hf : (some t) = some u := hf
  have e_17 := fb_ev hf
  subst e_17
  exact hr trivial _ _ _ _ hP hS dX11_settle_17
set_option maxRecDepth 20000 in
theorem w_M_X11_settle__0_149 {p : Program} {l : Launch} {e : Env} {s : State} {m : MethodId} {args : Array Value} {below : List Frame} {meth : Method} {c : Code} {A : Nat → Prop} {Q : State → Prop} {D : va_G} {ca : Nat → ClassId} {a : Nat → Nat} {u : fw_S}  (C : CX (WM ca a) D (tyv ca) p s m args c A prog_13_method_28_code 5 RX11) (hr : True → RX (WM ca a) D p l e rm_M_X11_settle__0 s m args below meth c A prog_13_method_28_code Q .return_ [] u) {t : fw_S} {x1 : Int32} {H : Heap} {locs : List Loc} {ls : Array Slot} (hf : b_M_X11_settle__0_149  t x1 = some u) (hP : va_P D classes (WM ca a t) H) (hS : va_S A s.heap H locs) (hl : lv_has ls 5 [(0, .ref (a 0)), (1, .int x1)]) : W p l e rm_M_X11_settle__0 s m args below meth c H locs 0 0 Q (F0 m 149 ls []) := by
  obtain ⟨hx, hb, hml, hown, hts, hN, hK, hD, hA⟩ := id C
  have hf : (fb_g (¬ (x1 < 0 ∨ 32 ≤ x1.toNatClampNeg)) (fb_l (up_F t 28 (upd (st_F t 28) x1.toNatClampNeg ((2 : Int32)))) fun t_1 => (some t_1))) = some u := hf
  refine lv_aload_n hx hb dX11_settle_149 rfl (lv_at hl 0 rfl) ?_
  refine va_get (D := D) (ci := 11) (v := .ref (a 33)) (C := RX11) (T := TX11) (N := 76) hx hb hts inX11 hown hK hP 0 (heM_0 ca a t) rfl 33 (by decide) (hts _ kw_1225) (fun _ h9 => h9) rfl dX11_settle_150 ?_
  refine lv_iload_n hx hb dX11_settle_153 rfl (lv_at hl 1 rfl) ?_
  refine lv_iconst (v := 2) hx hb dX11_settle_154 (by decide) ?_
  obtain ⟨h_155, hf⟩ := fb_if hf
  refine va_iast hx hb hK hP (hD t) hS 33 0 (haM_33 ca a t) rfl h_155 dX11_settle_155 (fun H locs hP _ hS => ?_)
  rw [saM_33] at hP
  obtain ⟨t_1, e_155, hf⟩ := fb_ls hf
  rw [← e_155] at hP
  have e_156 := fb_ev hf
  subst e_156
  exact hr trivial _ _ _ _ hP hS dX11_settle_156
set_option maxRecDepth 20000 in
theorem w_M_X11_settle__0_144 {p : Program} {l : Launch} {e : Env} {s : State} {m : MethodId} {args : Array Value} {below : List Frame} {meth : Method} {c : Code} {A : Nat → Prop} {Q : State → Prop} {D : va_G} {ca : Nat → ClassId} {a : Nat → Nat} {u : fw_S}  (C : CX (WM ca a) D (tyv ca) p s m args c A prog_13_method_28_code 5 RX11) (hr : True → RX (WM ca a) D p l e rm_M_X11_settle__0 s m args below meth c A prog_13_method_28_code Q .return_ [] u) {t : fw_S} {x1 : Int32} {H : Heap} {locs : List Loc} {ls : Array Slot} (hf : b_M_X11_settle__0_144  t x1 = some u) (hP : va_P D classes (WM ca a t) H) (hS : va_S A s.heap H locs) (hl : lv_has ls 5 [(0, .ref (a 0)), (1, .int x1)]) : W p l e rm_M_X11_settle__0 s m args below meth c H locs 0 0 Q (F0 m 144 ls []) := by
  obtain ⟨hx, hb, hml, hown, hts, hN, hK, hD, hA⟩ := id C
  have hf : (none) = some u := hf
  refine lv_aload_n hx hb dX11_settle_144 rfl (lv_at hl 0 rfl) ?_
  refine lv_iload_n hx hb dX11_settle_145 rfl (lv_at hl 1 rfl) ?_
  cases hf
set_option maxRecDepth 20000 in
theorem w_M_X11_settle__0_137 {p : Program} {l : Launch} {e : Env} {s : State} {m : MethodId} {args : Array Value} {below : List Frame} {meth : Method} {c : Code} {A : Nat → Prop} {Q : State → Prop} {D : va_G} {ca : Nat → ClassId} {a : Nat → Nat} {u : fw_S}  (C : CX (WM ca a) D (tyv ca) p s m args c A prog_13_method_28_code 5 RX11) (hr : True → RX (WM ca a) D p l e rm_M_X11_settle__0 s m args below meth c A prog_13_method_28_code Q .return_ [] u) {t : fw_S} {x1 : Int32} {H : Heap} {locs : List Loc} {ls : Array Slot} (hf : b_M_X11_settle__0_137  t x1 = some u) (hP : va_P D classes (WM ca a t) H) (hS : va_S A s.heap H locs) (hl : lv_has ls 5 [(0, .ref (a 0)), (1, .int x1)]) : W p l e rm_M_X11_settle__0 s m args below meth c H locs 0 0 Q (F0 m 137 ls []) := by
  obtain ⟨hx, hb, hml, hown, hts, hN, hK, hD, hA⟩ := id C
  have hf : (if (st_I t 1) = 0 then b_M_X11_settle__0_144 t x1 else b_M_X11_settle__0_149 t x1) = some u := hf
  refine lv_aload_n hx hb dX11_settle_137 rfl (lv_at hl 0 rfl) ?_
  refine va_get (D := D) (ci := 11) (v := .int (st_I t 1)) (C := RX11) (T := TX11) (N := 76) hx hb hts inX11 hown hK hP 0 (heM_0 ca a t) rfl 34 (by decide) (hts _ kw_1226) (fun _ h9 => h9) rfl dX11_settle_138 ?_
  refine lv_if_ne (tgt := 149) hx hb dX11_settle_141 (by decide) (fun h_141 => ?_) (fun h_141 => ?_)
  · have hf := fb_f h_141 hf
    exact w_M_X11_settle__0_149 C hr hf hP hS (lv_sub hl [0, 1] rfl)
  · have hf := fb_t h_141 hf
    exact w_M_X11_settle__0_144 C hr hf hP hS (lv_sub hl [0, 1] rfl)
set_option maxRecDepth 20000 in
theorem w_M_X11_settle__0_133 {p : Program} {l : Launch} {e : Env} {s : State} {m : MethodId} {args : Array Value} {below : List Frame} {meth : Method} {c : Code} {A : Nat → Prop} {Q : State → Prop} {D : va_G} {ca : Nat → ClassId} {a : Nat → Nat} {u : fw_S}  (C : CX (WM ca a) D (tyv ca) p s m args c A prog_13_method_28_code 5 RX11) (hr : True → RX (WM ca a) D p l e rm_M_X11_settle__0 s m args below meth c A prog_13_method_28_code Q .return_ [] u) {t : fw_S} {x1 : Int32} {x2 : Int32} {H : Heap} {locs : List Loc} {ls : Array Slot} (hf : b_M_X11_settle__0_133  t x1 x2 = some u) (hP : va_P D classes (WM ca a t) H) (hS : va_S A s.heap H locs) (hl : lv_has ls 5 [(0, .ref (a 0)), (1, .int x1), (2, .int x2)]) : W p l e rm_M_X11_settle__0 s m args below meth c H locs 0 0 Q (F0 m 133 ls []) := by
  obtain ⟨hx, hb, hml, hown, hts, hN, hK, hD, hA⟩ := id C
  have hf : (if x2 = 0 then b_M_X11_settle__0_149 t x1 else b_M_X11_settle__0_137 t x1) = some u := hf
  refine lv_iload_n hx hb dX11_settle_133 rfl (lv_at hl 2 rfl) ?_
  refine lv_if_eq (tgt := 149) hx hb dX11_settle_134 (by decide) (fun h_134 => ?_) (fun h_134 => ?_)
  · have hf := fb_t h_134 hf
    exact w_M_X11_settle__0_149 C hr hf hP hS (lv_sub hl [0, 1] rfl)
  · have hf := fb_f h_134 hf
    exact w_M_X11_settle__0_137 C hr hf hP hS (lv_sub hl [0, 1] rfl)
set_option maxRecDepth 20000 in
theorem w_M_X11_settle__0_81 {p : Program} {l : Launch} {e : Env} {s : State} {m : MethodId} {args : Array Value} {below : List Frame} {meth : Method} {c : Code} {A : Nat → Prop} {Q : State → Prop} {D : va_G} {ca : Nat → ClassId} {a : Nat → Nat} {u : fw_S}  (C : CX (WM ca a) D (tyv ca) p s m args c A prog_13_method_28_code 5 RX11) (hr : True → RX (WM ca a) D p l e rm_M_X11_settle__0 s m args below meth c A prog_13_method_28_code Q .return_ [] u) {t : fw_S} {x1 : Int32} {x2 : Int32} {x3 : Int32} {H : Heap} {locs : List Loc} {ls : Array Slot} (hf : b_M_X11_settle__0_81  t x1 x2 x3 = some u) (hP : va_P D classes (WM ca a t) H) (hS : va_S A s.heap H locs) (hl : lv_has ls 5 [(0, .ref (a 0)), (1, .int x1), (2, .int x2), (3, .int x3)]) : W p l e rm_M_X11_settle__0 s m args below meth c H locs 0 0 Q (F0 m 81 ls []) := by
  obtain ⟨hx, hb, hml, hown, hts, hN, hK, hD, hA⟩ := id C
  have hf : (fb_g (¬ (((((32 : Int32)) * x1) + x3) < 0 ∨ 1024 ≤ ((((32 : Int32)) * x1) + x3).toNatClampNeg)) (none)) = some u := hf
  refine lv_aload_n hx hb dX11_settle_81 rfl (lv_at hl 0 rfl) ?_
  refine va_get (D := D) (ci := 11) (v := .ref (a 8)) (C := RX11) (T := TX11) (N := 76) hx hb hts inX11 hown hK hP 0 (heM_0 ca a t) rfl 7 (by decide) (hts _ kw_1199) (fun _ h9 => h9) rfl dX11_settle_82 ?_
  refine lv_bipush (v := 32) hx hb dX11_settle_85 (by decide) ?_
  refine lv_iload_n hx hb dX11_settle_87 rfl (lv_at hl 1 rfl) ?_
  refine lv_imul hx hb dX11_settle_88 ?_
  refine lv_iload_n hx hb dX11_settle_89 rfl (lv_at hl 3 rfl) ?_
  refine lv_iadd hx hb dX11_settle_90 ?_
  obtain ⟨h_91, hf⟩ := fb_if hf
  refine va_iald hx hb hK hP 8 0 (haM_8 ca a t) rfl h_91 dX11_settle_91 ?_
  refine lv_istore (lv' := [(4, .int (st_F t 6 ((((32 : Int32)) * x1) + x3).toNatClampNeg)), (0, .ref (a 0)), (1, .int x1), (2, .int x2), (3, .int x3)]) hx hb dX11_settle_92 hl (by decide) rfl (fun ls hl => ?_)
  refine lv_aload_n hx hb dX11_settle_94 rfl (lv_at hl 1 rfl) ?_
  refine lv_iload hx hb dX11_settle_95 (lv_at hl 0 rfl) ?_
  cases hf
set_option maxRecDepth 20000 in
theorem w_M_X11_settle__0_74 {p : Program} {l : Launch} {e : Env} {s : State} {m : MethodId} {args : Array Value} {below : List Frame} {meth : Method} {c : Code} {A : Nat → Prop} {Q : State → Prop} {D : va_G} {ca : Nat → ClassId} {a : Nat → Nat} {u : fw_S}  (C : CX (WM ca a) D (tyv ca) p s m args c A prog_13_method_28_code 5 RX11) (hr : True → RX (WM ca a) D p l e rm_M_X11_settle__0 s m args below meth c A prog_13_method_28_code Q .return_ [] u) {t : fw_S} {x1 : Int32} {x2 : Int32} {x3 : Int32} {H : Heap} {locs : List Loc} {ls : Array Slot} (hf : b_M_X11_settle__0_74  t x1 x2 x3 = some u) (hP : va_P D classes (WM ca a t) H) (hS : va_S A s.heap H locs) (hl : lv_has ls 5 [(0, .ref (a 0)), (1, .int x1), (2, .int x2), (3, .int x3)]) : W p l e rm_M_X11_settle__0 s m args below meth c H locs 0 0 Q (F0 m 74 ls []) := by
  obtain ⟨hx, hb, hml, hown, hts, hN, hK, hD, hA⟩ := id C
  have hf : (if (st_I t 1) = 0 then b_M_X11_settle__0_81 t x1 x2 x3 else b_M_X11_settle__0_133 t x1 x2) = some u := hf
  refine lv_aload_n hx hb dX11_settle_74 rfl (lv_at hl 0 rfl) ?_
  refine va_get (D := D) (ci := 11) (v := .int (st_I t 1)) (C := RX11) (T := TX11) (N := 76) hx hb hts inX11 hown hK hP 0 (heM_0 ca a t) rfl 34 (by decide) (hts _ kw_1226) (fun _ h9 => h9) rfl dX11_settle_75 ?_
  refine lv_if_ne (tgt := 133) hx hb dX11_settle_78 (by decide) (fun h_78 => ?_) (fun h_78 => ?_)
  · have hf := fb_f h_78 hf
    exact w_M_X11_settle__0_133 C hr hf hP hS (lv_sub hl [0, 1, 2] rfl)
  · have hf := fb_t h_78 hf
    exact w_M_X11_settle__0_81 C hr hf hP hS (lv_sub hl [0, 1, 2, 3] rfl)
set_option maxRecDepth 20000 in
theorem w_M_X11_settle__0_70 {p : Program} {l : Launch} {e : Env} {s : State} {m : MethodId} {args : Array Value} {below : List Frame} {meth : Method} {c : Code} {A : Nat → Prop} {Q : State → Prop} {D : va_G} {ca : Nat → ClassId} {a : Nat → Nat} {u : fw_S}  (C : CX (WM ca a) D (tyv ca) p s m args c A prog_13_method_28_code 5 RX11) (hr : True → RX (WM ca a) D p l e rm_M_X11_settle__0 s m args below meth c A prog_13_method_28_code Q .return_ [] u) {t : fw_S} {x1 : Int32} {x2 : Int32} {x3 : Int32} {H : Heap} {locs : List Loc} {ls : Array Slot} (hf : b_M_X11_settle__0_70  t x1 x2 x3 = some u) (hP : va_P D classes (WM ca a t) H) (hS : va_S A s.heap H locs) (hl : lv_has ls 5 [(0, .ref (a 0)), (1, .int x1), (2, .int x2), (3, .int x3)]) : W p l e rm_M_X11_settle__0 s m args below meth c H locs 0 0 Q (F0 m 70 ls []) := by
  obtain ⟨hx, hb, hml, hown, hts, hN, hK, hD, hA⟩ := id C
  have hf : (if x2 = 0 then b_M_X11_settle__0_74 t x1 x2 x3 else b_M_X11_settle__0_133 t x1 x2) = some u := hf
  refine lv_iload_n hx hb dX11_settle_70 rfl (lv_at hl 2 rfl) ?_
  refine lv_if_ne (tgt := 133) hx hb dX11_settle_71 (by decide) (fun h_71 => ?_) (fun h_71 => ?_)
  · have hf := fb_f h_71 hf
    exact w_M_X11_settle__0_133 C hr hf hP hS (lv_sub hl [0, 1, 2] rfl)
  · have hf := fb_t h_71 hf
    exact w_M_X11_settle__0_74 C hr hf hP hS (lv_sub hl [0, 1, 2, 3] rfl)
set_option maxRecDepth 20000 in
theorem w_M_X11_settle__0_60 {p : Program} {l : Launch} {e : Env} {s : State} {m : MethodId} {args : Array Value} {below : List Frame} {meth : Method} {c : Code} {A : Nat → Prop} {Q : State → Prop} {D : va_G} {ca : Nat → ClassId} {a : Nat → Nat} {u : fw_S}  (C : CX (WM ca a) D (tyv ca) p s m args c A prog_13_method_28_code 5 RX11) (hr : True → RX (WM ca a) D p l e rm_M_X11_settle__0 s m args below meth c A prog_13_method_28_code Q .return_ [] u) {t : fw_S} {x1 : Int32} {x2 : Int32} {x3 : Int32} {H : Heap} {locs : List Loc} {ls : Array Slot} (hf : b_M_X11_settle__0_60  t x1 x2 x3 = some u) (hP : va_P D classes (WM ca a t) H) (hS : va_S A s.heap H locs) (hl : lv_has ls 5 [(0, .ref (a 0)), (1, .int x1), (2, .int x2), (3, .int x3)]) : W p l e rm_M_X11_settle__0 s m args below meth c H locs 0 0 Q (F0 m 60 ls []) := by
  obtain ⟨hx, hb, hml, hown, hts, hN, hK, hD, hA⟩ := id C
  have hf : (fb_g (¬ (x1 < 0 ∨ 32 ≤ x1.toNatClampNeg)) (if (st_F t 3 x1.toNatClampNeg) ≤ x3 then b_M_X11_settle__0_133 t x1 x2 else b_M_X11_settle__0_70 t x1 x2 x3)) = some u := hf
  refine lv_iload_n hx hb dX11_settle_60 rfl (lv_at hl 3 rfl) ?_
  refine lv_aload_n hx hb dX11_settle_61 rfl (lv_at hl 0 rfl) ?_
  refine va_get (D := D) (ci := 11) (v := .ref (a 4)) (C := RX11) (T := TX11) (N := 76) hx hb hts inX11 hown hK hP 0 (heM_0 ca a t) rfl 3 (by decide) (hts _ kw_1195) (fun _ h9 => h9) rfl dX11_settle_62 ?_
  refine lv_iload_n hx hb dX11_settle_65 rfl (lv_at hl 1 rfl) ?_
  obtain ⟨h_66, hf⟩ := fb_if hf
  refine va_iald hx hb hK hP 4 0 (haM_4 ca a t) rfl h_66 dX11_settle_66 ?_
  refine lv_icmp_ge (tgt := 133) hx hb dX11_settle_67 (by decide) (fun h_67 => ?_) (fun h_67 => ?_)
  · have hf := fb_t h_67 hf
    exact w_M_X11_settle__0_133 C hr hf hP hS (lv_sub hl [0, 1, 2] rfl)
  · have hf := fb_f h_67 hf
    exact w_M_X11_settle__0_70 C hr hf hP hS (lv_sub hl [0, 1, 2, 3] rfl)
set_option maxRecDepth 20000 in
theorem w_M_X11_settle__0_51 {p : Program} {l : Launch} {e : Env} {s : State} {m : MethodId} {args : Array Value} {below : List Frame} {meth : Method} {c : Code} {A : Nat → Prop} {Q : State → Prop} {D : va_G} {ca : Nat → ClassId} {a : Nat → Nat} {u : fw_S}  (C : CX (WM ca a) D (tyv ca) p s m args c A prog_13_method_28_code 5 RX11) (hr : True → RX (WM ca a) D p l e rm_M_X11_settle__0 s m args below meth c A prog_13_method_28_code Q .return_ [] u) {t : fw_S} {x1 : Int32} {H : Heap} {locs : List Loc} {ls : Array Slot} (hf : b_M_X11_settle__0_51  t x1 = some u) (hP : va_P D classes (WM ca a t) H) (hS : va_S A s.heap H locs) (hl : lv_has ls 5 [(0, .ref (a 0)), (1, .int x1)]) : W p l e rm_M_X11_settle__0 s m args below meth c H locs 0 0 Q (F0 m 51 ls []) := by
  obtain ⟨hx, hb, hml, hown, hts, hN, hK, hD, hA⟩ := id C
  have hf : (fb_g (¬ (x1 < 0 ∨ 32 ≤ x1.toNatClampNeg)) (b_M_X11_settle__0_60 t x1 (st_F t 13 x1.toNatClampNeg) ((0 : Int32)))) = some u := hf
  refine lv_aload_n hx hb dX11_settle_51 rfl (lv_at hl 0 rfl) ?_
  refine va_get (D := D) (ci := 11) (v := .ref (a 15)) (C := RX11) (T := TX11) (N := 76) hx hb hts inX11 hown hK hP 0 (heM_0 ca a t) rfl 14 (by decide) (hts _ kw_1206) (fun _ h9 => h9) rfl dX11_settle_52 ?_
  refine lv_iload_n hx hb dX11_settle_55 rfl (lv_at hl 1 rfl) ?_
  obtain ⟨h_56, hf⟩ := fb_if hf
  refine va_zald hx hb hK hP 15 2 (haM_15 ca a t) rfl h_56 dX11_settle_56 ?_
  refine lv_istore_n (lv' := [(2, .int (st_F t 13 x1.toNatClampNeg)), (0, .ref (a 0)), (1, .int x1)]) hx hb dX11_settle_57 rfl hl (by decide) rfl (fun ls hl => ?_)
  refine lv_iconst (v := 0) hx hb dX11_settle_58 (by decide) ?_
  refine lv_istore_n (lv' := [(3, .int ((0 : Int32))), (2, .int (st_F t 13 x1.toNatClampNeg)), (0, .ref (a 0)), (1, .int x1)]) hx hb dX11_settle_59 rfl hl (by decide) rfl (fun ls hl => ?_)
  exact w_M_X11_settle__0_60 C hr hf hP hS (lv_sub hl [2, 3, 1, 0] rfl)
set_option maxRecDepth 20000 in
theorem w_M_X11_settle__0_34 {p : Program} {l : Launch} {e : Env} {s : State} {m : MethodId} {args : Array Value} {below : List Frame} {meth : Method} {c : Code} {A : Nat → Prop} {Q : State → Prop} {D : va_G} {ca : Nat → ClassId} {a : Nat → Nat} {u : fw_S}  (C : CX (WM ca a) D (tyv ca) p s m args c A prog_13_method_28_code 5 RX11) (hr : True → RX (WM ca a) D p l e rm_M_X11_settle__0 s m args below meth c A prog_13_method_28_code Q .return_ [] u) {t : fw_S} {x1 : Int32} {H : Heap} {locs : List Loc} {ls : Array Slot} (hf : b_M_X11_settle__0_34  t x1 = some u) (hP : va_P D classes (WM ca a t) H) (hS : va_S A s.heap H locs) (hl : lv_has ls 5 [(0, .ref (a 0)), (1, .int x1)]) : W p l e rm_M_X11_settle__0 s m args below meth c H locs 0 0 Q (F0 m 34 ls []) := by
  obtain ⟨hx, hb, hml, hown, hts, hN, hK, hD, hA⟩ := id C
  have hf : (fb_g (¬ (x1 < 0 ∨ 32 ≤ x1.toNatClampNeg)) (fb_l (up_F t 28 (upd (st_F t 28) x1.toNatClampNeg ((1 : Int32)))) fun t_1 => (fb_g (¬ (x1 < 0 ∨ 32 ≤ x1.toNatClampNeg)) (if (st_F t_1 0 x1.toNatClampNeg) = ((2 : Int32)) then b_M_X11_settle__0_51 t_1 x1 else b_M_X11_settle__0_149 t_1 x1)))) = some u := hf
  refine lv_aload_n hx hb dX11_settle_34 rfl (lv_at hl 0 rfl) ?_
  refine va_get (D := D) (ci := 11) (v := .ref (a 33)) (C := RX11) (T := TX11) (N := 76) hx hb hts inX11 hown hK hP 0 (heM_0 ca a t) rfl 33 (by decide) (hts _ kw_1225) (fun _ h9 => h9) rfl dX11_settle_35 ?_
  refine lv_iload_n hx hb dX11_settle_38 rfl (lv_at hl 1 rfl) ?_
  refine lv_iconst (v := 1) hx hb dX11_settle_39 (by decide) ?_
  obtain ⟨h_40, hf⟩ := fb_if hf
  refine va_iast hx hb hK hP (hD t) hS 33 0 (haM_33 ca a t) rfl h_40 dX11_settle_40 (fun H locs hP _ hS => ?_)
  rw [saM_33] at hP
  obtain ⟨t_1, e_40, hf⟩ := fb_ls hf
  rw [← e_40] at hP
  refine lv_aload_n hx hb dX11_settle_41 rfl (lv_at hl 0 rfl) ?_
  refine va_get (D := D) (ci := 11) (v := .ref (a 1)) (C := RX11) (T := TX11) (N := 76) hx hb hts inX11 hown hK hP 0 (heM_0 ca a t_1) rfl 0 (by decide) (hts _ kw_1192) (fun _ h9 => h9) rfl dX11_settle_42 ?_
  refine lv_iload_n hx hb dX11_settle_45 rfl (lv_at hl 1 rfl) ?_
  obtain ⟨h_46, hf⟩ := fb_if hf
  refine va_iald hx hb hK hP 1 0 (haM_1 ca a t_1) rfl h_46 dX11_settle_46 ?_
  refine lv_iconst (v := 2) hx hb dX11_settle_47 (by decide) ?_
  refine lv_icmp_ne (tgt := 149) hx hb dX11_settle_48 (by decide) (fun h_48 => ?_) (fun h_48 => ?_)
  · have hf := fb_f h_48 hf
    exact w_M_X11_settle__0_149 C hr hf hP hS (lv_sub hl [0, 1] rfl)
  · have hf := fb_t h_48 hf
    exact w_M_X11_settle__0_51 C hr hf hP hS (lv_sub hl [0, 1] rfl)
set_option maxRecDepth 20000 in
theorem w_M_X11_settle__0_28 {p : Program} {l : Launch} {e : Env} {s : State} {m : MethodId} {args : Array Value} {below : List Frame} {meth : Method} {c : Code} {A : Nat → Prop} {Q : State → Prop} {D : va_G} {ca : Nat → ClassId} {a : Nat → Nat} {u : fw_S}  (C : CX (WM ca a) D (tyv ca) p s m args c A prog_13_method_28_code 5 RX11) (hr : True → RX (WM ca a) D p l e rm_M_X11_settle__0 s m args below meth c A prog_13_method_28_code Q .return_ [] u) {t : fw_S}  {H : Heap} {locs : List Loc} {ls : Array Slot} (hf : b_M_X11_settle__0_28  t  = some u) (hP : va_P D classes (WM ca a t) H) (hS : va_S A s.heap H locs) (hl : lv_has ls 5 [(0, .ref (a 0))]) : W p l e rm_M_X11_settle__0 s m args below meth c H locs 0 0 Q (F0 m 28 ls []) := by
  obtain ⟨hx, hb, hml, hown, hts, hN, hK, hD, hA⟩ := id C
  have hf : (fb_g (((1 : Int32)) = 0 ∨ ((1 : Int32)) = 1) (fb_l (up_I t 1 ((1 : Int32))) fun t_1 => (some t_1))) = some u := hf
  refine lv_aload_n hx hb dX11_settle_28 rfl (lv_at hl 0 rfl) ?_
  refine lv_iconst (v := 1) hx hb dX11_settle_29 (by decide) ?_
  obtain ⟨h_30, hf⟩ := fb_if hf
  refine va_put (D := D) (ci := 11) (v := .int ((1 : Int32))) (ty := .boolean) (C := RX11) (T := TX11) (N := 76) hx hb hts inX11 tyX11 tyX11_ok nmX11 hown hK hP (hD t) hS 0 (heM_0 ca a t) rfl 34 (by decide) (hts _ kw_1226) (fun _ h9 => h9) rfl (by decide +kernel) (fb_z h_30).1 (fb_z h_30).2 (Nat.le_of_ble_eq_true rfl) dX11_settle_30 (fun H locs hP _ hS => ?_)
  rw [suM_0_34] at hP
  obtain ⟨t_1, e_30, hf⟩ := fb_ls hf
  rw [← e_30] at hP
  have e_33 := fb_ev hf
  subst e_33
  exact hr trivial _ _ _ _ hP hS dX11_settle_33
set_option maxRecDepth 20000 in
theorem w_M_X11_settle__0_18 {p : Program} {l : Launch} {e : Env} {s : State} {m : MethodId} {args : Array Value} {below : List Frame} {meth : Method} {c : Code} {A : Nat → Prop} {Q : State → Prop} {D : va_G} {ca : Nat → ClassId} {a : Nat → Nat} {u : fw_S}  (C : CX (WM ca a) D (tyv ca) p s m args c A prog_13_method_28_code 5 RX11) (hr : True → RX (WM ca a) D p l e rm_M_X11_settle__0 s m args below meth c A prog_13_method_28_code Q .return_ [] u) {t : fw_S} {x1 : Int32} {H : Heap} {locs : List Loc} {ls : Array Slot} (hf : b_M_X11_settle__0_18  t x1 = some u) (hP : va_P D classes (WM ca a t) H) (hS : va_S A s.heap H locs) (hl : lv_has ls 5 [(0, .ref (a 0)), (1, .int x1)]) : W p l e rm_M_X11_settle__0 s m args below meth c H locs 0 0 Q (F0 m 18 ls []) := by
  obtain ⟨hx, hb, hml, hown, hts, hN, hK, hD, hA⟩ := id C
  have hf : (fb_g (¬ (x1 < 0 ∨ 32 ≤ x1.toNatClampNeg)) (if (st_F t 28 x1.toNatClampNeg) = ((1 : Int32)) then b_M_X11_settle__0_28 t else b_M_X11_settle__0_34 t x1)) = some u := hf
  refine lv_aload_n hx hb dX11_settle_18 rfl (lv_at hl 0 rfl) ?_
  refine va_get (D := D) (ci := 11) (v := .ref (a 33)) (C := RX11) (T := TX11) (N := 76) hx hb hts inX11 hown hK hP 0 (heM_0 ca a t) rfl 33 (by decide) (hts _ kw_1225) (fun _ h9 => h9) rfl dX11_settle_19 ?_
  refine lv_iload_n hx hb dX11_settle_22 rfl (lv_at hl 1 rfl) ?_
  obtain ⟨h_23, hf⟩ := fb_if hf
  refine va_iald hx hb hK hP 33 0 (haM_33 ca a t) rfl h_23 dX11_settle_23 ?_
  refine lv_iconst (v := 1) hx hb dX11_settle_24 (by decide) ?_
  refine lv_icmp_ne (tgt := 34) hx hb dX11_settle_25 (by decide) (fun h_25 => ?_) (fun h_25 => ?_)
  · have hf := fb_f h_25 hf
    exact w_M_X11_settle__0_34 C hr hf hP hS (lv_sub hl [0, 1] rfl)
  · have hf := fb_t h_25 hf
    exact w_M_X11_settle__0_28 C hr hf hP hS (lv_sub hl [0] rfl)
set_option maxRecDepth 20000 in
theorem w_M_X11_settle__0_7 {p : Program} {l : Launch} {e : Env} {s : State} {m : MethodId} {args : Array Value} {below : List Frame} {meth : Method} {c : Code} {A : Nat → Prop} {Q : State → Prop} {D : va_G} {ca : Nat → ClassId} {a : Nat → Nat} {u : fw_S}  (C : CX (WM ca a) D (tyv ca) p s m args c A prog_13_method_28_code 5 RX11) (hr : True → RX (WM ca a) D p l e rm_M_X11_settle__0 s m args below meth c A prog_13_method_28_code Q .return_ [] u) {t : fw_S} {x1 : Int32} {H : Heap} {locs : List Loc} {ls : Array Slot} (hf : b_M_X11_settle__0_7  t x1 = some u) (hP : va_P D classes (WM ca a t) H) (hS : va_S A s.heap H locs) (hl : lv_has ls 5 [(0, .ref (a 0)), (1, .int x1)]) : W p l e rm_M_X11_settle__0 s m args below meth c H locs 0 0 Q (F0 m 7 ls []) := by
  obtain ⟨hx, hb, hml, hown, hts, hN, hK, hD, hA⟩ := id C
  have hf : (fb_g (¬ (x1 < 0 ∨ 32 ≤ x1.toNatClampNeg)) (if (st_F t 28 x1.toNatClampNeg) = ((2 : Int32)) then b_M_X11_settle__0_17 t else b_M_X11_settle__0_18 t x1)) = some u := hf
  refine lv_aload_n hx hb dX11_settle_7 rfl (lv_at hl 0 rfl) ?_
  refine va_get (D := D) (ci := 11) (v := .ref (a 33)) (C := RX11) (T := TX11) (N := 76) hx hb hts inX11 hown hK hP 0 (heM_0 ca a t) rfl 33 (by decide) (hts _ kw_1225) (fun _ h9 => h9) rfl dX11_settle_8 ?_
  refine lv_iload_n hx hb dX11_settle_11 rfl (lv_at hl 1 rfl) ?_
  obtain ⟨h_12, hf⟩ := fb_if hf
  refine va_iald hx hb hK hP 33 0 (haM_33 ca a t) rfl h_12 dX11_settle_12 ?_
  refine lv_iconst (v := 2) hx hb dX11_settle_13 (by decide) ?_
  refine lv_icmp_ne (tgt := 18) hx hb dX11_settle_14 (by decide) (fun h_14 => ?_) (fun h_14 => ?_)
  · have hf := fb_f h_14 hf
    exact w_M_X11_settle__0_18 C hr hf hP hS (lv_sub hl [0, 1] rfl)
  · have hf := fb_t h_14 hf
    exact w_M_X11_settle__0_17 C hr hf hP hS (lv_sub hl [] rfl)
set_option maxRecDepth 20000 in
theorem w_M_X11_settle__0_0 {p : Program} {l : Launch} {e : Env} {s : State} {m : MethodId} {args : Array Value} {below : List Frame} {meth : Method} {c : Code} {A : Nat → Prop} {Q : State → Prop} {D : va_G} {ca : Nat → ClassId} {a : Nat → Nat} {u : fw_S}  (C : CX (WM ca a) D (tyv ca) p s m args c A prog_13_method_28_code 5 RX11) (hr : True → RX (WM ca a) D p l e rm_M_X11_settle__0 s m args below meth c A prog_13_method_28_code Q .return_ [] u) {t : fw_S} {x1 : Int32} {H : Heap} {locs : List Loc} {ls : Array Slot} (hf : b_M_X11_settle__0_0  t x1 = some u) (hP : va_P D classes (WM ca a t) H) (hS : va_S A s.heap H locs) (hl : lv_has ls 5 [(0, .ref (a 0)), (1, .int x1)]) : W p l e rm_M_X11_settle__0 s m args below meth c H locs 0 0 Q (F0 m 0 ls []) := by
  obtain ⟨hx, hb, hml, hown, hts, hN, hK, hD, hA⟩ := id C
  have hf : (if (st_I t 1) = 0 then b_M_X11_settle__0_7 t x1 else b_M_X11_settle__0_17 t) = some u := hf
  refine lv_aload_n hx hb dX11_settle_0 rfl (lv_at hl 0 rfl) ?_
  refine va_get (D := D) (ci := 11) (v := .int (st_I t 1)) (C := RX11) (T := TX11) (N := 76) hx hb hts inX11 hown hK hP 0 (heM_0 ca a t) rfl 34 (by decide) (hts _ kw_1226) (fun _ h9 => h9) rfl dX11_settle_1 ?_
  refine lv_if_ne (tgt := 17) hx hb dX11_settle_4 (by decide) (fun h_4 => ?_) (fun h_4 => ?_)
  · have hf := fb_f h_4 hf
    exact w_M_X11_settle__0_17 C hr hf hP hS (lv_sub hl [] rfl)
  · have hf := fb_t h_4 hf
    exact w_M_X11_settle__0_7 C hr hf hP hS (lv_sub hl [0, 1] rfl)
set_option maxRecDepth 20000 in
theorem c_M_X11_settle__0 {l : Launch} {D : va_G} {ca : Nat → ClassId} {a : Nat → Nat} {t : fw_S} {x1 : Int32} {u : fw_S} (hf : f_M_X11_settle__0 t x1 = some u) : MC (WM ca a) D (tyv ca) l yX11_settle (.code yX11_settle prog_13_method_28_code 5 none :: lw_gd) rm_M_X11_settle__0 [.ref (a 0), .int x1] none t u := by
  refine fw_met (okM ca a) (by decide +kernel) rfl rfl (Nat.le_of_ble_eq_true rfl) ?_
  intro p e s m args below meth c A Q ls C hr hk hP hS hl hQ
  exact w_M_X11_settle__0_0 C (fun _ => fw_rv C hr hk hQ) hf hP hS (lv_sub hl [0, 1] rfl)
/-! ReactiveSheetModel.goes()Z ['m'] -/
abbrev rm_M_X11_goes__0 : Room := { frames := 2, cells := 0, slots := 0, locals := 41 }
def b_M_X11_goes__0_244  (t : fw_S) (z0 : Int32) : Option (Int32 × fw_S) := fb_g (z0 = 0 ∨ z0 = 1) (some (z0, t))
def b_M_X11_goes__0_243  (t : fw_S)  : Option (Int32 × fw_S) := b_M_X11_goes__0_244 t ((0 : Int32))
def b_M_X11_goes__0_239  (t : fw_S)  : Option (Int32 × fw_S) := b_M_X11_goes__0_244 t ((1 : Int32))
def b_M_X11_goes__0_232  (t : fw_S)  : Option (Int32 × fw_S) := if (st_I t 1) = 0 then b_M_X11_goes__0_239 t else b_M_X11_goes__0_243 t
def b_M_X11_goes__0_221 (k215 : fw_S → Int32 → Option (Int32 × fw_S)) (t : fw_S) (x1 : Int32) : Option (Int32 × fw_S) := fb_v (f_M_X11_settle__0 t x1) fun t_1 => (k215 t_1 (x1 + 1))
def b_M_X11_goes__0_215  : Nat → (fw_S → Int32 → Option (Int32 × fw_S))
  | 0 => fun _ _ => none
  | n + 1 => fun t x1 => if ((32 : Int32)) ≤ x1 then b_M_X11_goes__0_232 t else b_M_X11_goes__0_221 (b_M_X11_goes__0_215 n) t x1
def b_M_X11_goes__0_213  (t : fw_S)  : Option (Int32 × fw_S) := b_M_X11_goes__0_215 3000 t ((0 : Int32))
def b_M_X11_goes__0_207 (k73 : fw_S → Int32 → Option (Int32 × fw_S)) (t : fw_S) (x1 : Int32) : Option (Int32 × fw_S) := k73 t (x1 + 1)
def b_M_X11_goes__0_188 (k73 : fw_S → Int32 → Option (Int32 × fw_S)) (t : fw_S) (x1 : Int32) (z1 : Int32) (z2 : Int32) : Option (Int32 × fw_S) := fb_g (¬ (z1 < 0 ∨ 32 ≤ z1.toNatClampNeg)) (fb_l (up_F t 1 (upd (st_F t 1) z1.toNatClampNeg z2)) fun t_1 => (fb_b (f_M_X11_isOther__0 t_1 x1) fun v_3 t_2 => (fb_g (¬ (x1 < 0 ∨ 32 ≤ x1.toNatClampNeg)) (fb_l (up_F t_2 7 (upd (st_F t_2 7) x1.toNatClampNeg (vp_nar .boolean v_3))) fun t_4 => (fb_g (¬ (x1 < 0 ∨ 32 ≤ x1.toNatClampNeg)) (fb_l (up_F t_4 28 (upd (st_F t_4 28) x1.toNatClampNeg ((2 : Int32)))) fun t_5 => (b_M_X11_goes__0_207 k73 t_5 x1)))))))
def b_M_X11_goes__0_187 (k73 : fw_S → Int32 → Option (Int32 × fw_S)) (t : fw_S) (x1 : Int32) (z1 : Int32) : Option (Int32 × fw_S) := b_M_X11_goes__0_188 k73 t x1 z1 ((3 : Int32))
def b_M_X11_goes__0_183 (k73 : fw_S → Int32 → Option (Int32 × fw_S)) (t : fw_S) (x1 : Int32) (z1 : Int32) : Option (Int32 × fw_S) := b_M_X11_goes__0_188 k73 t x1 z1 ((0 : Int32))
def b_M_X11_goes__0_167 (k73 : fw_S → Int32 → Option (Int32 × fw_S)) (t : fw_S) (x1 : Int32) (z1 : Int32) (w2 : Int64) : Option (Int32 × fw_S) := fb_g (¬ (z1 < 0 ∨ 32 ≤ z1.toNatClampNeg)) (fb_l (up_G t 0 (vp_updL (st_G t 0) z1.toNatClampNeg w2)) fun t_1 => (fb_g (¬ (x1 < 0 ∨ 32 ≤ x1.toNatClampNeg)) (if (st_F t_1 0 x1.toNatClampNeg) = ((1 : Int32)) then b_M_X11_goes__0_183 k73 t_1 x1 x1 else b_M_X11_goes__0_187 k73 t_1 x1 x1)))
def b_M_X11_goes__0_166 (k73 : fw_S → Int32 → Option (Int32 × fw_S)) (t : fw_S) (x1 : Int32) (z1 : Int32) : Option (Int32 × fw_S) := b_M_X11_goes__0_167 k73 t x1 z1 ((0 : Int64))
def b_M_X11_goes__0_157 (k73 : fw_S → Int32 → Option (Int32 × fw_S)) (t : fw_S) (x1 : Int32) (z1 : Int32) : Option (Int32 × fw_S) := fb_g (¬ (x1 < 0 ∨ 32 ≤ x1.toNatClampNeg)) (b_M_X11_goes__0_167 k73 t x1 z1 (st_G t 1 x1.toNatClampNeg))
def b_M_X11_goes__0_142 (k73 : fw_S → Int32 → Option (Int32 × fw_S)) (t : fw_S) (x1 : Int32) : Option (Int32 × fw_S) := fb_g (¬ (x1 < 0 ∨ 32 ≤ x1.toNatClampNeg)) (if (st_F t 0 x1.toNatClampNeg) = ((1 : Int32)) then b_M_X11_goes__0_157 k73 t x1 x1 else b_M_X11_goes__0_166 k73 t x1 x1)
def b_M_X11_goes__0_139 (k73 : fw_S → Int32 → Option (Int32 × fw_S)) (t : fw_S) (x1 : Int32) : Option (Int32 × fw_S) := b_M_X11_goes__0_207 k73 t x1
def b_M_X11_goes__0_91 (k73 : fw_S → Int32 → Option (Int32 × fw_S)) (t : fw_S) (x1 : Int32) : Option (Int32 × fw_S) := fb_g (¬ (x1 < 0 ∨ 32 ≤ x1.toNatClampNeg)) (fb_g (¬ (x1 < 0 ∨ 32 ≤ x1.toNatClampNeg)) (fb_l (up_F t 0 (upd (st_F t 0) x1.toNatClampNeg (st_F t 15 x1.toNatClampNeg))) fun t_1 => (fb_g (¬ (x1 < 0 ∨ 32 ≤ x1.toNatClampNeg)) (fb_g (¬ (x1 < 0 ∨ 32 ≤ x1.toNatClampNeg)) (fb_l (up_F t_1 5 (upd (st_F t_1 5) x1.toNatClampNeg (st_F t_1 16 x1.toNatClampNeg))) fun t_2 => (fb_g (¬ (x1 < 0 ∨ 32 ≤ x1.toNatClampNeg)) (fb_l (up_F t_2 2 (upd (st_F t_2 2) x1.toNatClampNeg ((0 : Int32)))) fun t_3 => (fb_g (¬ (x1 < 0 ∨ 32 ≤ x1.toNatClampNeg)) (fb_l (up_F t_3 3 (upd (st_F t_3 3) x1.toNatClampNeg ((0 : Int32)))) fun t_4 => (fb_g (¬ (x1 < 0 ∨ 32 ≤ x1.toNatClampNeg)) (if (st_F t_4 0 x1.toNatClampNeg) = ((2 : Int32)) then b_M_X11_goes__0_139 k73 t_4 x1 else b_M_X11_goes__0_142 k73 t_4 x1)))))))))))
def b_M_X11_goes__0_88 (k73 : fw_S → Int32 → Option (Int32 × fw_S)) (t : fw_S) (x1 : Int32) : Option (Int32 × fw_S) := b_M_X11_goes__0_207 k73 t x1
def b_M_X11_goes__0_79 (k73 : fw_S → Int32 → Option (Int32 × fw_S)) (t : fw_S) (x1 : Int32) : Option (Int32 × fw_S) := fb_g (¬ (x1 < 0 ∨ 32 ≤ x1.toNatClampNeg)) (if (st_F t 13 x1.toNatClampNeg) = 0 then b_M_X11_goes__0_88 k73 t x1 else b_M_X11_goes__0_91 k73 t x1)
def b_M_X11_goes__0_73  : Nat → (fw_S → Int32 → Option (Int32 × fw_S))
  | 0 => fun _ _ => none
  | n + 1 => fun t x1 => if ((32 : Int32)) ≤ x1 then b_M_X11_goes__0_213 t else b_M_X11_goes__0_79 (b_M_X11_goes__0_73 n) t x1
def b_M_X11_goes__0_71  (t : fw_S)  : Option (Int32 × fw_S) := b_M_X11_goes__0_73 3000 t ((0 : Int32))
def b_M_X11_goes__0_36 (k30 : fw_S → Int32 → Option (Int32 × fw_S)) (t : fw_S) (x1 : Int32) : Option (Int32 × fw_S) := fb_g (¬ (x1 < 0 ∨ 32 ≤ x1.toNatClampNeg)) (fb_l (up_F t 7 (upd (st_F t 7) x1.toNatClampNeg (vp_nar .boolean ((0 : Int32))))) fun t_1 => (fb_g (¬ (x1 < 0 ∨ 32 ≤ x1.toNatClampNeg)) (fb_l (up_F t_1 8 (upd (st_F t_1 8) x1.toNatClampNeg (vp_nar .boolean ((0 : Int32))))) fun t_2 => (fb_g (¬ (x1 < 0 ∨ 32 ≤ x1.toNatClampNeg)) (fb_l (up_F t_2 4 (upd (st_F t_2 4) x1.toNatClampNeg ((-5 : Int32)))) fun t_3 => (fb_g (¬ (x1 < 0 ∨ 32 ≤ x1.toNatClampNeg)) (fb_l (up_F t_3 28 (upd (st_F t_3 28) x1.toNatClampNeg ((0 : Int32)))) fun t_4 => (k30 t_4 (x1 + 1)))))))))
def b_M_X11_goes__0_30  : Nat → (fw_S → Int32 → Option (Int32 × fw_S))
  | 0 => fun _ _ => none
  | n + 1 => fun t x1 => if ((32 : Int32)) ≤ x1 then b_M_X11_goes__0_71 t else b_M_X11_goes__0_36 (b_M_X11_goes__0_30 n) t x1
def b_M_X11_goes__0_0  (t : fw_S)  : Option (Int32 × fw_S) := fb_v (f_M_X11_keepsAhead__0 t) fun t_1 => (fb_v (f_M_X11_swaps__0 t_1) fun t_2 => (fb_g (((0 : Int32)) = 0 ∨ ((0 : Int32)) = 1) (fb_l (up_I t_2 1 ((0 : Int32))) fun t_3 => (fb_l (up_I t_3 4 ((0 : Int32))) fun t_4 => (fb_l (up_I t_4 2 ((0 : Int32))) fun t_5 => (fb_l (up_I t_5 3 ((0 : Int32))) fun t_6 => (b_M_X11_goes__0_30 3000 t_6 ((0 : Int32)))))))))
def f_M_X11_goes__0 (t : fw_S)  : Option (Int32 × fw_S) := b_M_X11_goes__0_0 t 
set_option maxRecDepth 20000 in
theorem w_M_X11_goes__0_244 {p : Program} {l : Launch} {e : Env} {s : State} {m : MethodId} {args : Array Value} {below : List Frame} {meth : Method} {c : Code} {A : Nat → Prop} {Q : State → Prop} {D : va_G} {ca : Nat → ClassId} {a : Nat → Nat} {u : fw_S} {r : Int32}  (C : CX (WM ca a) D (tyv ca) p s m args c A prog_13_method_35_code 2 RX11) (hr : (r = 0 ∨ r = 1) → RX (WM ca a) D p l e rm_M_X11_goes__0 s m args below meth c A prog_13_method_35_code Q .ireturn [.int r] u) {t : fw_S} {z0 : Int32} {H : Heap} {locs : List Loc} {ls : Array Slot} (hf : b_M_X11_goes__0_244  t z0 = some (r, u)) (hP : va_P D classes (WM ca a t) H) (hS : va_S A s.heap H locs) (hl : lv_has ls 2 []) : W p l e rm_M_X11_goes__0 s m args below meth c H locs 0 0 Q (F0 m 244 ls [.int z0]) := by
  obtain ⟨hx, hb, hml, hown, hts, hN, hK, hD, hA⟩ := id C
  have hf : (fb_g (z0 = 0 ∨ z0 = 1) (some (z0, t))) = some (r, u) := hf
  obtain ⟨h_244, hf⟩ := fb_if hf
  obtain ⟨e_244, e2_244⟩ := fb_e hf
  subst e_244; subst e2_244
  exact hr h_244 _ _ _ _ hP hS dX11_goes_244
set_option maxRecDepth 20000 in
theorem w_M_X11_goes__0_243 {p : Program} {l : Launch} {e : Env} {s : State} {m : MethodId} {args : Array Value} {below : List Frame} {meth : Method} {c : Code} {A : Nat → Prop} {Q : State → Prop} {D : va_G} {ca : Nat → ClassId} {a : Nat → Nat} {u : fw_S} {r : Int32}  (C : CX (WM ca a) D (tyv ca) p s m args c A prog_13_method_35_code 2 RX11) (hr : (r = 0 ∨ r = 1) → RX (WM ca a) D p l e rm_M_X11_goes__0 s m args below meth c A prog_13_method_35_code Q .ireturn [.int r] u) {t : fw_S}  {H : Heap} {locs : List Loc} {ls : Array Slot} (hf : b_M_X11_goes__0_243  t  = some (r, u)) (hP : va_P D classes (WM ca a t) H) (hS : va_S A s.heap H locs) (hl : lv_has ls 2 []) : W p l e rm_M_X11_goes__0 s m args below meth c H locs 0 0 Q (F0 m 243 ls []) := by
  obtain ⟨hx, hb, hml, hown, hts, hN, hK, hD, hA⟩ := id C
  have hf : (b_M_X11_goes__0_244 t ((0 : Int32))) = some (r, u) := hf
  refine lv_iconst (v := 0) hx hb dX11_goes_243 (by decide) ?_
  exact w_M_X11_goes__0_244 C hr hf hP hS (lv_sub hl [] rfl)
set_option maxRecDepth 20000 in
theorem w_M_X11_goes__0_239 {p : Program} {l : Launch} {e : Env} {s : State} {m : MethodId} {args : Array Value} {below : List Frame} {meth : Method} {c : Code} {A : Nat → Prop} {Q : State → Prop} {D : va_G} {ca : Nat → ClassId} {a : Nat → Nat} {u : fw_S} {r : Int32}  (C : CX (WM ca a) D (tyv ca) p s m args c A prog_13_method_35_code 2 RX11) (hr : (r = 0 ∨ r = 1) → RX (WM ca a) D p l e rm_M_X11_goes__0 s m args below meth c A prog_13_method_35_code Q .ireturn [.int r] u) {t : fw_S}  {H : Heap} {locs : List Loc} {ls : Array Slot} (hf : b_M_X11_goes__0_239  t  = some (r, u)) (hP : va_P D classes (WM ca a t) H) (hS : va_S A s.heap H locs) (hl : lv_has ls 2 []) : W p l e rm_M_X11_goes__0 s m args below meth c H locs 0 0 Q (F0 m 239 ls []) := by
  obtain ⟨hx, hb, hml, hown, hts, hN, hK, hD, hA⟩ := id C
  have hf : (b_M_X11_goes__0_244 t ((1 : Int32))) = some (r, u) := hf
  refine lv_iconst (v := 1) hx hb dX11_goes_239 (by decide) ?_
  refine lv_goto (tgt := 244) hx hb dX11_goes_240 (by decide) ?_
  exact w_M_X11_goes__0_244 C hr hf hP hS (lv_sub hl [] rfl)
set_option maxRecDepth 20000 in
theorem w_M_X11_goes__0_232 {p : Program} {l : Launch} {e : Env} {s : State} {m : MethodId} {args : Array Value} {below : List Frame} {meth : Method} {c : Code} {A : Nat → Prop} {Q : State → Prop} {D : va_G} {ca : Nat → ClassId} {a : Nat → Nat} {u : fw_S} {r : Int32}  (C : CX (WM ca a) D (tyv ca) p s m args c A prog_13_method_35_code 2 RX11) (hr : (r = 0 ∨ r = 1) → RX (WM ca a) D p l e rm_M_X11_goes__0 s m args below meth c A prog_13_method_35_code Q .ireturn [.int r] u) {t : fw_S}  {H : Heap} {locs : List Loc} {ls : Array Slot} (hf : b_M_X11_goes__0_232  t  = some (r, u)) (hP : va_P D classes (WM ca a t) H) (hS : va_S A s.heap H locs) (hl : lv_has ls 2 [(0, .ref (a 0))]) : W p l e rm_M_X11_goes__0 s m args below meth c H locs 0 0 Q (F0 m 232 ls []) := by
  obtain ⟨hx, hb, hml, hown, hts, hN, hK, hD, hA⟩ := id C
  have hf : (if (st_I t 1) = 0 then b_M_X11_goes__0_239 t else b_M_X11_goes__0_243 t) = some (r, u) := hf
  refine lv_aload_n hx hb dX11_goes_232 rfl (lv_at hl 0 rfl) ?_
  refine va_get (D := D) (ci := 11) (v := .int (st_I t 1)) (C := RX11) (T := TX11) (N := 76) hx hb hts inX11 hown hK hP 0 (heM_0 ca a t) rfl 34 (by decide) (hts _ kw_1226) (fun _ h9 => h9) rfl dX11_goes_233 ?_
  refine lv_if_ne (tgt := 243) hx hb dX11_goes_236 (by decide) (fun h_236 => ?_) (fun h_236 => ?_)
  · have hf := fb_f h_236 hf
    exact w_M_X11_goes__0_243 C hr hf hP hS (lv_sub hl [] rfl)
  · have hf := fb_t h_236 hf
    exact w_M_X11_goes__0_239 C hr hf hP hS (lv_sub hl [] rfl)
set_option maxRecDepth 20000 in
theorem w_M_X11_goes__0_221 {p : Program} {l : Launch} {e : Env} {s : State} {m : MethodId} {args : Array Value} {below : List Frame} {meth : Method} {c : Code} {A : Nat → Prop} {Q : State → Prop} {D : va_G} {ca : Nat → ClassId} {a : Nat → Nat} {u : fw_S} {r : Int32} {k215 : fw_S → Int32 → Option (Int32 × fw_S)} (C : CX (WM ca a) D (tyv ca) p s m args c A prog_13_method_35_code 2 RX11) (hr : (r = 0 ∨ r = 1) → RX (WM ca a) D p l e rm_M_X11_goes__0 s m args below meth c A prog_13_method_35_code Q .ireturn [.int r] u) (hk215 : ∀ (t : fw_S) (x1 : Int32) (H : Heap) (locs : List Loc) (ls : Array Slot), k215 t x1 = some (r, u) → va_P D classes (WM ca a t) H → va_S A s.heap H locs → lv_has ls 2 [(0, .ref (a 0)), (1, .int x1)] → W p l e rm_M_X11_goes__0 s m args below meth c H locs 0 0 Q (F0 m 215 ls [])) {t : fw_S} {x1 : Int32} {H : Heap} {locs : List Loc} {ls : Array Slot} (hf : b_M_X11_goes__0_221 k215 t x1 = some (r, u)) (hP : va_P D classes (WM ca a t) H) (hS : va_S A s.heap H locs) (hl : lv_has ls 2 [(0, .ref (a 0)), (1, .int x1)]) : W p l e rm_M_X11_goes__0 s m args below meth c H locs 0 0 Q (F0 m 221 ls []) := by
  obtain ⟨hx, hb, hml, hown, hts, hN, hK, hD, hA⟩ := id C
  have hf : (fb_v (f_M_X11_settle__0 t x1) fun t_1 => (k215 t_1 (x1 + 1))) = some (r, u) := hf
  refine lv_aload_n hx hb dX11_goes_221 rfl (lv_at hl 0 rfl) ?_
  refine lv_iload_n hx hb dX11_goes_222 rfl (lv_at hl 1 rfl) ?_
  obtain ⟨t_1, g_223, hf⟩ := fb_vs hf
  refine fw_V1 (As := [.int x1]) (rest := []) (n := 1) (q0 := 0) C (c_M_X11_settle__0 (l := l) (D := D) (ca := ca) (a := a) g_223) kw_1482 kw_1484 kw_102 kw_1485 kw_53 hP hS hl (heM_0 ca a t) rfl rfl rfl (by decide) (by decide +kernel) ⟨Nat.le_of_ble_eq_true rfl, Nat.le_of_ble_eq_true rfl⟩ rfl rfl (Nat.le_of_ble_eq_true rfl) dX11_goes_223 (fun H locs hP hS => ?_)
  refine W.eq (g2 := F0 m 226 ls []) rfl ?_
  refine lv_iinc (v := x1 + 1) (lv' := [(1, .int (x1 + 1)), (0, .ref (a 0))]) hx hb dX11_goes_226 hl (k := 1) rfl rfl (by decide) rfl (fun ls hl => ?_)
  refine lv_goto (tgt := 215) hx hb dX11_goes_229 (by decide) ?_
  exact hk215 t_1 (x1 + 1) _ _ _ hf hP hS (lv_sub hl [1, 0] rfl)
set_option maxRecDepth 20000 in
theorem w_M_X11_goes__0_215 {p : Program} {l : Launch} {e : Env} {s : State} {m : MethodId} {args : Array Value} {below : List Frame} {meth : Method} {c : Code} {A : Nat → Prop} {Q : State → Prop} {D : va_G} {ca : Nat → ClassId} {a : Nat → Nat} {u : fw_S} {r : Int32}  (C : CX (WM ca a) D (tyv ca) p s m args c A prog_13_method_35_code 2 RX11) (hr : (r = 0 ∨ r = 1) → RX (WM ca a) D p l e rm_M_X11_goes__0 s m args below meth c A prog_13_method_35_code Q .ireturn [.int r] u) : ∀ (n : Nat) (t : fw_S) (x1 : Int32) (H : Heap) (locs : List Loc) (ls : Array Slot), b_M_X11_goes__0_215  n t x1 = some (r, u) → va_P D classes (WM ca a t) H → va_S A s.heap H locs → lv_has ls 2 [(0, .ref (a 0)), (1, .int x1)] → W p l e rm_M_X11_goes__0 s m args below meth c H locs 0 0 Q (F0 m 215 ls []) := by
  obtain ⟨hx, hb, hml, hown, hts, hN, hK, hD, hA⟩ := id C
  intro n
  induction n with
  | zero => intro t x1 H locs ls hf; cases hf
  | succ n hk215 =>
    intro t x1 H locs ls hf hP hS hl
    have hf : (if ((32 : Int32)) ≤ x1 then b_M_X11_goes__0_232 t else b_M_X11_goes__0_221 (b_M_X11_goes__0_215 n) t x1) = some (r, u) := hf
    refine lv_iload_n hx hb dX11_goes_215 rfl (lv_at hl 1 rfl) ?_
    refine lv_bipush (v := 32) hx hb dX11_goes_216 (by decide) ?_
    refine lv_icmp_ge (tgt := 232) hx hb dX11_goes_218 (by decide) (fun h_218 => ?_) (fun h_218 => ?_)
    · have hf := fb_t h_218 hf
      exact w_M_X11_goes__0_232 C hr hf hP hS (lv_sub hl [0] rfl)
    · have hf := fb_f h_218 hf
      exact w_M_X11_goes__0_221 C hr hk215 hf hP hS (lv_sub hl [0, 1] rfl)
set_option maxRecDepth 20000 in
theorem w_M_X11_goes__0_213 {p : Program} {l : Launch} {e : Env} {s : State} {m : MethodId} {args : Array Value} {below : List Frame} {meth : Method} {c : Code} {A : Nat → Prop} {Q : State → Prop} {D : va_G} {ca : Nat → ClassId} {a : Nat → Nat} {u : fw_S} {r : Int32}  (C : CX (WM ca a) D (tyv ca) p s m args c A prog_13_method_35_code 2 RX11) (hr : (r = 0 ∨ r = 1) → RX (WM ca a) D p l e rm_M_X11_goes__0 s m args below meth c A prog_13_method_35_code Q .ireturn [.int r] u) {t : fw_S}  {H : Heap} {locs : List Loc} {ls : Array Slot} (hf : b_M_X11_goes__0_213  t  = some (r, u)) (hP : va_P D classes (WM ca a t) H) (hS : va_S A s.heap H locs) (hl : lv_has ls 2 [(0, .ref (a 0))]) : W p l e rm_M_X11_goes__0 s m args below meth c H locs 0 0 Q (F0 m 213 ls []) := by
  obtain ⟨hx, hb, hml, hown, hts, hN, hK, hD, hA⟩ := id C
  have hf : (b_M_X11_goes__0_215 3000 t ((0 : Int32))) = some (r, u) := hf
  refine lv_iconst (v := 0) hx hb dX11_goes_213 (by decide) ?_
  refine lv_istore_n (lv' := [(1, .int ((0 : Int32))), (0, .ref (a 0))]) hx hb dX11_goes_214 rfl hl (by decide) rfl (fun ls hl => ?_)
  exact w_M_X11_goes__0_215 C hr 3000 t ((0 : Int32)) _ _ _ hf hP hS (lv_sub hl [1, 0] rfl)
set_option maxRecDepth 20000 in
theorem w_M_X11_goes__0_207 {p : Program} {l : Launch} {e : Env} {s : State} {m : MethodId} {args : Array Value} {below : List Frame} {meth : Method} {c : Code} {A : Nat → Prop} {Q : State → Prop} {D : va_G} {ca : Nat → ClassId} {a : Nat → Nat} {u : fw_S} {r : Int32} {k73 : fw_S → Int32 → Option (Int32 × fw_S)} (C : CX (WM ca a) D (tyv ca) p s m args c A prog_13_method_35_code 2 RX11) (hr : (r = 0 ∨ r = 1) → RX (WM ca a) D p l e rm_M_X11_goes__0 s m args below meth c A prog_13_method_35_code Q .ireturn [.int r] u) (hk73 : ∀ (t : fw_S) (x1 : Int32) (H : Heap) (locs : List Loc) (ls : Array Slot), k73 t x1 = some (r, u) → va_P D classes (WM ca a t) H → va_S A s.heap H locs → lv_has ls 2 [(0, .ref (a 0)), (1, .int x1)] → W p l e rm_M_X11_goes__0 s m args below meth c H locs 0 0 Q (F0 m 73 ls [])) {t : fw_S} {x1 : Int32} {H : Heap} {locs : List Loc} {ls : Array Slot} (hf : b_M_X11_goes__0_207 k73 t x1 = some (r, u)) (hP : va_P D classes (WM ca a t) H) (hS : va_S A s.heap H locs) (hl : lv_has ls 2 [(0, .ref (a 0)), (1, .int x1)]) : W p l e rm_M_X11_goes__0 s m args below meth c H locs 0 0 Q (F0 m 207 ls []) := by
  obtain ⟨hx, hb, hml, hown, hts, hN, hK, hD, hA⟩ := id C
  have hf : (k73 t (x1 + 1)) = some (r, u) := hf
  refine lv_iinc (v := x1 + 1) (lv' := [(1, .int (x1 + 1)), (0, .ref (a 0))]) hx hb dX11_goes_207 hl (k := 1) rfl rfl (by decide) rfl (fun ls hl => ?_)
  refine lv_goto (tgt := 73) hx hb dX11_goes_210 (by decide) ?_
  exact hk73 t (x1 + 1) _ _ _ hf hP hS (lv_sub hl [1, 0] rfl)
set_option maxRecDepth 20000 in
theorem w_M_X11_goes__0_188 {p : Program} {l : Launch} {e : Env} {s : State} {m : MethodId} {args : Array Value} {below : List Frame} {meth : Method} {c : Code} {A : Nat → Prop} {Q : State → Prop} {D : va_G} {ca : Nat → ClassId} {a : Nat → Nat} {u : fw_S} {r : Int32} {k73 : fw_S → Int32 → Option (Int32 × fw_S)} (C : CX (WM ca a) D (tyv ca) p s m args c A prog_13_method_35_code 2 RX11) (hr : (r = 0 ∨ r = 1) → RX (WM ca a) D p l e rm_M_X11_goes__0 s m args below meth c A prog_13_method_35_code Q .ireturn [.int r] u) (hk73 : ∀ (t : fw_S) (x1 : Int32) (H : Heap) (locs : List Loc) (ls : Array Slot), k73 t x1 = some (r, u) → va_P D classes (WM ca a t) H → va_S A s.heap H locs → lv_has ls 2 [(0, .ref (a 0)), (1, .int x1)] → W p l e rm_M_X11_goes__0 s m args below meth c H locs 0 0 Q (F0 m 73 ls [])) {t : fw_S} {x1 : Int32} {z1 : Int32} {z2 : Int32} {H : Heap} {locs : List Loc} {ls : Array Slot} (hf : b_M_X11_goes__0_188 k73 t x1 z1 z2 = some (r, u)) (hP : va_P D classes (WM ca a t) H) (hS : va_S A s.heap H locs) (hl : lv_has ls 2 [(0, .ref (a 0)), (1, .int x1)]) : W p l e rm_M_X11_goes__0 s m args below meth c H locs 0 0 Q (F0 m 188 ls [.int z2, .int z1, .ref (a 2)]) := by
  obtain ⟨hx, hb, hml, hown, hts, hN, hK, hD, hA⟩ := id C
  have hf : (fb_g (¬ (z1 < 0 ∨ 32 ≤ z1.toNatClampNeg)) (fb_l (up_F t 1 (upd (st_F t 1) z1.toNatClampNeg z2)) fun t_1 => (fb_b (f_M_X11_isOther__0 t_1 x1) fun v_3 t_2 => (fb_g (¬ (x1 < 0 ∨ 32 ≤ x1.toNatClampNeg)) (fb_l (up_F t_2 7 (upd (st_F t_2 7) x1.toNatClampNeg (vp_nar .boolean v_3))) fun t_4 => (fb_g (¬ (x1 < 0 ∨ 32 ≤ x1.toNatClampNeg)) (fb_l (up_F t_4 28 (upd (st_F t_4 28) x1.toNatClampNeg ((2 : Int32)))) fun t_5 => (b_M_X11_goes__0_207 k73 t_5 x1)))))))) = some (r, u) := hf
  obtain ⟨h_188, hf⟩ := fb_if hf
  refine va_iast hx hb hK hP (hD t) hS 2 0 (haM_2 ca a t) rfl h_188 dX11_goes_188 (fun H locs hP _ hS => ?_)
  rw [saM_2] at hP
  obtain ⟨t_1, e_188, hf⟩ := fb_ls hf
  rw [← e_188] at hP
  refine lv_aload_n hx hb dX11_goes_189 rfl (lv_at hl 0 rfl) ?_
  refine va_get (D := D) (ci := 11) (v := .ref (a 9)) (C := RX11) (T := TX11) (N := 76) hx hb hts inX11 hown hK hP 0 (heM_0 ca a t_1) rfl 8 (by decide) (hts _ kw_1200) (fun _ h9 => h9) rfl dX11_goes_190 ?_
  refine lv_iload_n hx hb dX11_goes_193 rfl (lv_at hl 1 rfl) ?_
  refine lv_aload_n hx hb dX11_goes_194 rfl (lv_at hl 0 rfl) ?_
  refine lv_iload_n hx hb dX11_goes_195 rfl (lv_at hl 1 rfl) ?_
  obtain ⟨v_3, t_2, g_196, hf⟩ := fb_bs hf
  refine fw_V1 (As := [.int x1]) (rest := [.int x1, .ref (a 9)]) (n := 1) (q0 := 0) C (c_M_X11_isOther__0 (l := l) (D := D) (ca := ca) (a := a) g_196) kw_1478 kw_1480 kw_102 kw_1481 kw_52 hP hS hl (heM_0 ca a t_1) rfl rfl rfl (by decide) (by decide +kernel) ⟨Nat.le_of_ble_eq_true rfl, Nat.le_of_ble_eq_true rfl⟩ rfl rfl (Nat.le_of_ble_eq_true rfl) dX11_goes_196 (fun H locs hP hS => ?_)
  refine W.eq (g2 := F0 m 199 ls [.int v_3, .int x1, .ref (a 9)]) rfl ?_
  obtain ⟨h_199, hf⟩ := fb_if hf
  refine va_zast hx hb hK hP (hD t_2) hS 9 2 (haM_9 ca a t_2) rfl h_199 dX11_goes_199 (fun H locs hP _ hS => ?_)
  rw [saM_9] at hP
  obtain ⟨t_4, e_199, hf⟩ := fb_ls hf
  rw [← e_199] at hP
  refine lv_aload_n hx hb dX11_goes_200 rfl (lv_at hl 0 rfl) ?_
  refine va_get (D := D) (ci := 11) (v := .ref (a 33)) (C := RX11) (T := TX11) (N := 76) hx hb hts inX11 hown hK hP 0 (heM_0 ca a t_4) rfl 33 (by decide) (hts _ kw_1225) (fun _ h9 => h9) rfl dX11_goes_201 ?_
  refine lv_iload_n hx hb dX11_goes_204 rfl (lv_at hl 1 rfl) ?_
  refine lv_iconst (v := 2) hx hb dX11_goes_205 (by decide) ?_
  obtain ⟨h_206, hf⟩ := fb_if hf
  refine va_iast hx hb hK hP (hD t_4) hS 33 0 (haM_33 ca a t_4) rfl h_206 dX11_goes_206 (fun H locs hP _ hS => ?_)
  rw [saM_33] at hP
  obtain ⟨t_5, e_206, hf⟩ := fb_ls hf
  rw [← e_206] at hP
  exact w_M_X11_goes__0_207 C hr hk73 hf hP hS (lv_sub hl [0, 1] rfl)
set_option maxRecDepth 20000 in
theorem w_M_X11_goes__0_187 {p : Program} {l : Launch} {e : Env} {s : State} {m : MethodId} {args : Array Value} {below : List Frame} {meth : Method} {c : Code} {A : Nat → Prop} {Q : State → Prop} {D : va_G} {ca : Nat → ClassId} {a : Nat → Nat} {u : fw_S} {r : Int32} {k73 : fw_S → Int32 → Option (Int32 × fw_S)} (C : CX (WM ca a) D (tyv ca) p s m args c A prog_13_method_35_code 2 RX11) (hr : (r = 0 ∨ r = 1) → RX (WM ca a) D p l e rm_M_X11_goes__0 s m args below meth c A prog_13_method_35_code Q .ireturn [.int r] u) (hk73 : ∀ (t : fw_S) (x1 : Int32) (H : Heap) (locs : List Loc) (ls : Array Slot), k73 t x1 = some (r, u) → va_P D classes (WM ca a t) H → va_S A s.heap H locs → lv_has ls 2 [(0, .ref (a 0)), (1, .int x1)] → W p l e rm_M_X11_goes__0 s m args below meth c H locs 0 0 Q (F0 m 73 ls [])) {t : fw_S} {x1 : Int32} {z1 : Int32} {H : Heap} {locs : List Loc} {ls : Array Slot} (hf : b_M_X11_goes__0_187 k73 t x1 z1 = some (r, u)) (hP : va_P D classes (WM ca a t) H) (hS : va_S A s.heap H locs) (hl : lv_has ls 2 [(0, .ref (a 0)), (1, .int x1)]) : W p l e rm_M_X11_goes__0 s m args below meth c H locs 0 0 Q (F0 m 187 ls [.int z1, .ref (a 2)]) := by
  obtain ⟨hx, hb, hml, hown, hts, hN, hK, hD, hA⟩ := id C
  have hf : (b_M_X11_goes__0_188 k73 t x1 z1 ((3 : Int32))) = some (r, u) := hf
  refine lv_iconst (v := 3) hx hb dX11_goes_187 (by decide) ?_
  exact w_M_X11_goes__0_188 C hr hk73 hf hP hS (lv_sub hl [0, 1] rfl)
set_option maxRecDepth 20000 in
theorem w_M_X11_goes__0_183 {p : Program} {l : Launch} {e : Env} {s : State} {m : MethodId} {args : Array Value} {below : List Frame} {meth : Method} {c : Code} {A : Nat → Prop} {Q : State → Prop} {D : va_G} {ca : Nat → ClassId} {a : Nat → Nat} {u : fw_S} {r : Int32} {k73 : fw_S → Int32 → Option (Int32 × fw_S)} (C : CX (WM ca a) D (tyv ca) p s m args c A prog_13_method_35_code 2 RX11) (hr : (r = 0 ∨ r = 1) → RX (WM ca a) D p l e rm_M_X11_goes__0 s m args below meth c A prog_13_method_35_code Q .ireturn [.int r] u) (hk73 : ∀ (t : fw_S) (x1 : Int32) (H : Heap) (locs : List Loc) (ls : Array Slot), k73 t x1 = some (r, u) → va_P D classes (WM ca a t) H → va_S A s.heap H locs → lv_has ls 2 [(0, .ref (a 0)), (1, .int x1)] → W p l e rm_M_X11_goes__0 s m args below meth c H locs 0 0 Q (F0 m 73 ls [])) {t : fw_S} {x1 : Int32} {z1 : Int32} {H : Heap} {locs : List Loc} {ls : Array Slot} (hf : b_M_X11_goes__0_183 k73 t x1 z1 = some (r, u)) (hP : va_P D classes (WM ca a t) H) (hS : va_S A s.heap H locs) (hl : lv_has ls 2 [(0, .ref (a 0)), (1, .int x1)]) : W p l e rm_M_X11_goes__0 s m args below meth c H locs 0 0 Q (F0 m 183 ls [.int z1, .ref (a 2)]) := by
  obtain ⟨hx, hb, hml, hown, hts, hN, hK, hD, hA⟩ := id C
  have hf : (b_M_X11_goes__0_188 k73 t x1 z1 ((0 : Int32))) = some (r, u) := hf
  refine lv_iconst (v := 0) hx hb dX11_goes_183 (by decide) ?_
  refine lv_goto (tgt := 188) hx hb dX11_goes_184 (by decide) ?_
  exact w_M_X11_goes__0_188 C hr hk73 hf hP hS (lv_sub hl [0, 1] rfl)
set_option maxRecDepth 20000 in
theorem w_M_X11_goes__0_167 {p : Program} {l : Launch} {e : Env} {s : State} {m : MethodId} {args : Array Value} {below : List Frame} {meth : Method} {c : Code} {A : Nat → Prop} {Q : State → Prop} {D : va_G} {ca : Nat → ClassId} {a : Nat → Nat} {u : fw_S} {r : Int32} {k73 : fw_S → Int32 → Option (Int32 × fw_S)} (C : CX (WM ca a) D (tyv ca) p s m args c A prog_13_method_35_code 2 RX11) (hr : (r = 0 ∨ r = 1) → RX (WM ca a) D p l e rm_M_X11_goes__0 s m args below meth c A prog_13_method_35_code Q .ireturn [.int r] u) (hk73 : ∀ (t : fw_S) (x1 : Int32) (H : Heap) (locs : List Loc) (ls : Array Slot), k73 t x1 = some (r, u) → va_P D classes (WM ca a t) H → va_S A s.heap H locs → lv_has ls 2 [(0, .ref (a 0)), (1, .int x1)] → W p l e rm_M_X11_goes__0 s m args below meth c H locs 0 0 Q (F0 m 73 ls [])) {t : fw_S} {x1 : Int32} {z1 : Int32} {w2 : Int64} {H : Heap} {locs : List Loc} {ls : Array Slot} (hf : b_M_X11_goes__0_167 k73 t x1 z1 w2 = some (r, u)) (hP : va_P D classes (WM ca a t) H) (hS : va_S A s.heap H locs) (hl : lv_has ls 2 [(0, .ref (a 0)), (1, .int x1)]) : W p l e rm_M_X11_goes__0 s m args below meth c H locs 0 0 Q (F0 m 167 ls [.long w2, .int z1, .ref (a 7)]) := by
  obtain ⟨hx, hb, hml, hown, hts, hN, hK, hD, hA⟩ := id C
  have hf : (fb_g (¬ (z1 < 0 ∨ 32 ≤ z1.toNatClampNeg)) (fb_l (up_G t 0 (vp_updL (st_G t 0) z1.toNatClampNeg w2)) fun t_1 => (fb_g (¬ (x1 < 0 ∨ 32 ≤ x1.toNatClampNeg)) (if (st_F t_1 0 x1.toNatClampNeg) = ((1 : Int32)) then b_M_X11_goes__0_183 k73 t_1 x1 x1 else b_M_X11_goes__0_187 k73 t_1 x1 x1)))) = some (r, u) := hf
  obtain ⟨h_167, hf⟩ := fb_if hf
  refine va_last hx hb hK hP (hD t) hS 7 1 (haM_7 ca a t) rfl h_167 dX11_goes_167 (fun H locs hP _ hS => ?_)
  rw [saM_7] at hP
  obtain ⟨t_1, e_167, hf⟩ := fb_ls hf
  rw [← e_167] at hP
  refine lv_aload_n hx hb dX11_goes_168 rfl (lv_at hl 0 rfl) ?_
  refine va_get (D := D) (ci := 11) (v := .ref (a 2)) (C := RX11) (T := TX11) (N := 76) hx hb hts inX11 hown hK hP 0 (heM_0 ca a t_1) rfl 1 (by decide) (hts _ kw_1193) (fun _ h9 => h9) rfl dX11_goes_169 ?_
  refine lv_iload_n hx hb dX11_goes_172 rfl (lv_at hl 1 rfl) ?_
  refine lv_aload_n hx hb dX11_goes_173 rfl (lv_at hl 0 rfl) ?_
  refine va_get (D := D) (ci := 11) (v := .ref (a 1)) (C := RX11) (T := TX11) (N := 76) hx hb hts inX11 hown hK hP 0 (heM_0 ca a t_1) rfl 0 (by decide) (hts _ kw_1192) (fun _ h9 => h9) rfl dX11_goes_174 ?_
  refine lv_iload_n hx hb dX11_goes_177 rfl (lv_at hl 1 rfl) ?_
  obtain ⟨h_178, hf⟩ := fb_if hf
  refine va_iald hx hb hK hP 1 0 (haM_1 ca a t_1) rfl h_178 dX11_goes_178 ?_
  refine lv_iconst (v := 1) hx hb dX11_goes_179 (by decide) ?_
  refine lv_icmp_ne (tgt := 187) hx hb dX11_goes_180 (by decide) (fun h_180 => ?_) (fun h_180 => ?_)
  · have hf := fb_f h_180 hf
    exact w_M_X11_goes__0_187 C hr hk73 hf hP hS (lv_sub hl [0, 1] rfl)
  · have hf := fb_t h_180 hf
    exact w_M_X11_goes__0_183 C hr hk73 hf hP hS (lv_sub hl [0, 1] rfl)
set_option maxRecDepth 20000 in
theorem w_M_X11_goes__0_166 {p : Program} {l : Launch} {e : Env} {s : State} {m : MethodId} {args : Array Value} {below : List Frame} {meth : Method} {c : Code} {A : Nat → Prop} {Q : State → Prop} {D : va_G} {ca : Nat → ClassId} {a : Nat → Nat} {u : fw_S} {r : Int32} {k73 : fw_S → Int32 → Option (Int32 × fw_S)} (C : CX (WM ca a) D (tyv ca) p s m args c A prog_13_method_35_code 2 RX11) (hr : (r = 0 ∨ r = 1) → RX (WM ca a) D p l e rm_M_X11_goes__0 s m args below meth c A prog_13_method_35_code Q .ireturn [.int r] u) (hk73 : ∀ (t : fw_S) (x1 : Int32) (H : Heap) (locs : List Loc) (ls : Array Slot), k73 t x1 = some (r, u) → va_P D classes (WM ca a t) H → va_S A s.heap H locs → lv_has ls 2 [(0, .ref (a 0)), (1, .int x1)] → W p l e rm_M_X11_goes__0 s m args below meth c H locs 0 0 Q (F0 m 73 ls [])) {t : fw_S} {x1 : Int32} {z1 : Int32} {H : Heap} {locs : List Loc} {ls : Array Slot} (hf : b_M_X11_goes__0_166 k73 t x1 z1 = some (r, u)) (hP : va_P D classes (WM ca a t) H) (hS : va_S A s.heap H locs) (hl : lv_has ls 2 [(0, .ref (a 0)), (1, .int x1)]) : W p l e rm_M_X11_goes__0 s m args below meth c H locs 0 0 Q (F0 m 166 ls [.int z1, .ref (a 7)]) := by
  obtain ⟨hx, hb, hml, hown, hts, hN, hK, hD, hA⟩ := id C
  have hf : (b_M_X11_goes__0_167 k73 t x1 z1 ((0 : Int64))) = some (r, u) := hf
  refine lv_lconst (v := 0) hx hb dX11_goes_166 (by decide) ?_
  exact w_M_X11_goes__0_167 C hr hk73 hf hP hS (lv_sub hl [0, 1] rfl)
set_option maxRecDepth 20000 in
theorem w_M_X11_goes__0_157 {p : Program} {l : Launch} {e : Env} {s : State} {m : MethodId} {args : Array Value} {below : List Frame} {meth : Method} {c : Code} {A : Nat → Prop} {Q : State → Prop} {D : va_G} {ca : Nat → ClassId} {a : Nat → Nat} {u : fw_S} {r : Int32} {k73 : fw_S → Int32 → Option (Int32 × fw_S)} (C : CX (WM ca a) D (tyv ca) p s m args c A prog_13_method_35_code 2 RX11) (hr : (r = 0 ∨ r = 1) → RX (WM ca a) D p l e rm_M_X11_goes__0 s m args below meth c A prog_13_method_35_code Q .ireturn [.int r] u) (hk73 : ∀ (t : fw_S) (x1 : Int32) (H : Heap) (locs : List Loc) (ls : Array Slot), k73 t x1 = some (r, u) → va_P D classes (WM ca a t) H → va_S A s.heap H locs → lv_has ls 2 [(0, .ref (a 0)), (1, .int x1)] → W p l e rm_M_X11_goes__0 s m args below meth c H locs 0 0 Q (F0 m 73 ls [])) {t : fw_S} {x1 : Int32} {z1 : Int32} {H : Heap} {locs : List Loc} {ls : Array Slot} (hf : b_M_X11_goes__0_157 k73 t x1 z1 = some (r, u)) (hP : va_P D classes (WM ca a t) H) (hS : va_S A s.heap H locs) (hl : lv_has ls 2 [(0, .ref (a 0)), (1, .int x1)]) : W p l e rm_M_X11_goes__0 s m args below meth c H locs 0 0 Q (F0 m 157 ls [.int z1, .ref (a 7)]) := by
  obtain ⟨hx, hb, hml, hown, hts, hN, hK, hD, hA⟩ := id C
  have hf : (fb_g (¬ (x1 < 0 ∨ 32 ≤ x1.toNatClampNeg)) (b_M_X11_goes__0_167 k73 t x1 z1 (st_G t 1 x1.toNatClampNeg))) = some (r, u) := hf
  refine lv_aload_n hx hb dX11_goes_157 rfl (lv_at hl 0 rfl) ?_
  refine va_get (D := D) (ci := 11) (v := .ref (a 21)) (C := RX11) (T := TX11) (N := 76) hx hb hts inX11 hown hK hP 0 (heM_0 ca a t) rfl 20 (by decide) (hts _ kw_1212) (fun _ h9 => h9) rfl dX11_goes_158 ?_
  refine lv_iload_n hx hb dX11_goes_161 rfl (lv_at hl 1 rfl) ?_
  obtain ⟨h_162, hf⟩ := fb_if hf
  refine va_lald hx hb hK hP 21 1 (haM_21 ca a t) rfl h_162 dX11_goes_162 ?_
  refine lv_goto (tgt := 167) hx hb dX11_goes_163 (by decide) ?_
  exact w_M_X11_goes__0_167 C hr hk73 hf hP hS (lv_sub hl [0, 1] rfl)
set_option maxRecDepth 20000 in
theorem w_M_X11_goes__0_142 {p : Program} {l : Launch} {e : Env} {s : State} {m : MethodId} {args : Array Value} {below : List Frame} {meth : Method} {c : Code} {A : Nat → Prop} {Q : State → Prop} {D : va_G} {ca : Nat → ClassId} {a : Nat → Nat} {u : fw_S} {r : Int32} {k73 : fw_S → Int32 → Option (Int32 × fw_S)} (C : CX (WM ca a) D (tyv ca) p s m args c A prog_13_method_35_code 2 RX11) (hr : (r = 0 ∨ r = 1) → RX (WM ca a) D p l e rm_M_X11_goes__0 s m args below meth c A prog_13_method_35_code Q .ireturn [.int r] u) (hk73 : ∀ (t : fw_S) (x1 : Int32) (H : Heap) (locs : List Loc) (ls : Array Slot), k73 t x1 = some (r, u) → va_P D classes (WM ca a t) H → va_S A s.heap H locs → lv_has ls 2 [(0, .ref (a 0)), (1, .int x1)] → W p l e rm_M_X11_goes__0 s m args below meth c H locs 0 0 Q (F0 m 73 ls [])) {t : fw_S} {x1 : Int32} {H : Heap} {locs : List Loc} {ls : Array Slot} (hf : b_M_X11_goes__0_142 k73 t x1 = some (r, u)) (hP : va_P D classes (WM ca a t) H) (hS : va_S A s.heap H locs) (hl : lv_has ls 2 [(0, .ref (a 0)), (1, .int x1)]) : W p l e rm_M_X11_goes__0 s m args below meth c H locs 0 0 Q (F0 m 142 ls []) := by
  obtain ⟨hx, hb, hml, hown, hts, hN, hK, hD, hA⟩ := id C
  have hf : (fb_g (¬ (x1 < 0 ∨ 32 ≤ x1.toNatClampNeg)) (if (st_F t 0 x1.toNatClampNeg) = ((1 : Int32)) then b_M_X11_goes__0_157 k73 t x1 x1 else b_M_X11_goes__0_166 k73 t x1 x1)) = some (r, u) := hf
  refine lv_aload_n hx hb dX11_goes_142 rfl (lv_at hl 0 rfl) ?_
  refine va_get (D := D) (ci := 11) (v := .ref (a 7)) (C := RX11) (T := TX11) (N := 76) hx hb hts inX11 hown hK hP 0 (heM_0 ca a t) rfl 6 (by decide) (hts _ kw_1198) (fun _ h9 => h9) rfl dX11_goes_143 ?_
  refine lv_iload_n hx hb dX11_goes_146 rfl (lv_at hl 1 rfl) ?_
  refine lv_aload_n hx hb dX11_goes_147 rfl (lv_at hl 0 rfl) ?_
  refine va_get (D := D) (ci := 11) (v := .ref (a 1)) (C := RX11) (T := TX11) (N := 76) hx hb hts inX11 hown hK hP 0 (heM_0 ca a t) rfl 0 (by decide) (hts _ kw_1192) (fun _ h9 => h9) rfl dX11_goes_148 ?_
  refine lv_iload_n hx hb dX11_goes_151 rfl (lv_at hl 1 rfl) ?_
  obtain ⟨h_152, hf⟩ := fb_if hf
  refine va_iald hx hb hK hP 1 0 (haM_1 ca a t) rfl h_152 dX11_goes_152 ?_
  refine lv_iconst (v := 1) hx hb dX11_goes_153 (by decide) ?_
  refine lv_icmp_ne (tgt := 166) hx hb dX11_goes_154 (by decide) (fun h_154 => ?_) (fun h_154 => ?_)
  · have hf := fb_f h_154 hf
    exact w_M_X11_goes__0_166 C hr hk73 hf hP hS (lv_sub hl [0, 1] rfl)
  · have hf := fb_t h_154 hf
    exact w_M_X11_goes__0_157 C hr hk73 hf hP hS (lv_sub hl [0, 1] rfl)
set_option maxRecDepth 20000 in
theorem w_M_X11_goes__0_139 {p : Program} {l : Launch} {e : Env} {s : State} {m : MethodId} {args : Array Value} {below : List Frame} {meth : Method} {c : Code} {A : Nat → Prop} {Q : State → Prop} {D : va_G} {ca : Nat → ClassId} {a : Nat → Nat} {u : fw_S} {r : Int32} {k73 : fw_S → Int32 → Option (Int32 × fw_S)} (C : CX (WM ca a) D (tyv ca) p s m args c A prog_13_method_35_code 2 RX11) (hr : (r = 0 ∨ r = 1) → RX (WM ca a) D p l e rm_M_X11_goes__0 s m args below meth c A prog_13_method_35_code Q .ireturn [.int r] u) (hk73 : ∀ (t : fw_S) (x1 : Int32) (H : Heap) (locs : List Loc) (ls : Array Slot), k73 t x1 = some (r, u) → va_P D classes (WM ca a t) H → va_S A s.heap H locs → lv_has ls 2 [(0, .ref (a 0)), (1, .int x1)] → W p l e rm_M_X11_goes__0 s m args below meth c H locs 0 0 Q (F0 m 73 ls [])) {t : fw_S} {x1 : Int32} {H : Heap} {locs : List Loc} {ls : Array Slot} (hf : b_M_X11_goes__0_139 k73 t x1 = some (r, u)) (hP : va_P D classes (WM ca a t) H) (hS : va_S A s.heap H locs) (hl : lv_has ls 2 [(0, .ref (a 0)), (1, .int x1)]) : W p l e rm_M_X11_goes__0 s m args below meth c H locs 0 0 Q (F0 m 139 ls []) := by
  obtain ⟨hx, hb, hml, hown, hts, hN, hK, hD, hA⟩ := id C
  have hf : (b_M_X11_goes__0_207 k73 t x1) = some (r, u) := hf
  refine lv_goto (tgt := 207) hx hb dX11_goes_139 (by decide) ?_
  exact w_M_X11_goes__0_207 C hr hk73 hf hP hS (lv_sub hl [0, 1] rfl)
set_option maxRecDepth 20000 in
theorem w_M_X11_goes__0_91 {p : Program} {l : Launch} {e : Env} {s : State} {m : MethodId} {args : Array Value} {below : List Frame} {meth : Method} {c : Code} {A : Nat → Prop} {Q : State → Prop} {D : va_G} {ca : Nat → ClassId} {a : Nat → Nat} {u : fw_S} {r : Int32} {k73 : fw_S → Int32 → Option (Int32 × fw_S)} (C : CX (WM ca a) D (tyv ca) p s m args c A prog_13_method_35_code 2 RX11) (hr : (r = 0 ∨ r = 1) → RX (WM ca a) D p l e rm_M_X11_goes__0 s m args below meth c A prog_13_method_35_code Q .ireturn [.int r] u) (hk73 : ∀ (t : fw_S) (x1 : Int32) (H : Heap) (locs : List Loc) (ls : Array Slot), k73 t x1 = some (r, u) → va_P D classes (WM ca a t) H → va_S A s.heap H locs → lv_has ls 2 [(0, .ref (a 0)), (1, .int x1)] → W p l e rm_M_X11_goes__0 s m args below meth c H locs 0 0 Q (F0 m 73 ls [])) {t : fw_S} {x1 : Int32} {H : Heap} {locs : List Loc} {ls : Array Slot} (hf : b_M_X11_goes__0_91 k73 t x1 = some (r, u)) (hP : va_P D classes (WM ca a t) H) (hS : va_S A s.heap H locs) (hl : lv_has ls 2 [(0, .ref (a 0)), (1, .int x1)]) : W p l e rm_M_X11_goes__0 s m args below meth c H locs 0 0 Q (F0 m 91 ls []) := by
  obtain ⟨hx, hb, hml, hown, hts, hN, hK, hD, hA⟩ := id C
  have hf : (fb_g (¬ (x1 < 0 ∨ 32 ≤ x1.toNatClampNeg)) (fb_g (¬ (x1 < 0 ∨ 32 ≤ x1.toNatClampNeg)) (fb_l (up_F t 0 (upd (st_F t 0) x1.toNatClampNeg (st_F t 15 x1.toNatClampNeg))) fun t_1 => (fb_g (¬ (x1 < 0 ∨ 32 ≤ x1.toNatClampNeg)) (fb_g (¬ (x1 < 0 ∨ 32 ≤ x1.toNatClampNeg)) (fb_l (up_F t_1 5 (upd (st_F t_1 5) x1.toNatClampNeg (st_F t_1 16 x1.toNatClampNeg))) fun t_2 => (fb_g (¬ (x1 < 0 ∨ 32 ≤ x1.toNatClampNeg)) (fb_l (up_F t_2 2 (upd (st_F t_2 2) x1.toNatClampNeg ((0 : Int32)))) fun t_3 => (fb_g (¬ (x1 < 0 ∨ 32 ≤ x1.toNatClampNeg)) (fb_l (up_F t_3 3 (upd (st_F t_3 3) x1.toNatClampNeg ((0 : Int32)))) fun t_4 => (fb_g (¬ (x1 < 0 ∨ 32 ≤ x1.toNatClampNeg)) (if (st_F t_4 0 x1.toNatClampNeg) = ((2 : Int32)) then b_M_X11_goes__0_139 k73 t_4 x1 else b_M_X11_goes__0_142 k73 t_4 x1)))))))))))) = some (r, u) := hf
  refine lv_aload_n hx hb dX11_goes_91 rfl (lv_at hl 0 rfl) ?_
  refine va_get (D := D) (ci := 11) (v := .ref (a 1)) (C := RX11) (T := TX11) (N := 76) hx hb hts inX11 hown hK hP 0 (heM_0 ca a t) rfl 0 (by decide) (hts _ kw_1192) (fun _ h9 => h9) rfl dX11_goes_92 ?_
  refine lv_iload_n hx hb dX11_goes_95 rfl (lv_at hl 1 rfl) ?_
  refine lv_aload_n hx hb dX11_goes_96 rfl (lv_at hl 0 rfl) ?_
  refine va_get (D := D) (ci := 11) (v := .ref (a 17)) (C := RX11) (T := TX11) (N := 76) hx hb hts inX11 hown hK hP 0 (heM_0 ca a t) rfl 16 (by decide) (hts _ kw_1208) (fun _ h9 => h9) rfl dX11_goes_97 ?_
  refine lv_iload_n hx hb dX11_goes_100 rfl (lv_at hl 1 rfl) ?_
  obtain ⟨h_101, hf⟩ := fb_if hf
  refine va_iald hx hb hK hP 17 0 (haM_17 ca a t) rfl h_101 dX11_goes_101 ?_
  obtain ⟨h_102, hf⟩ := fb_if hf
  refine va_iast hx hb hK hP (hD t) hS 1 0 (haM_1 ca a t) rfl h_102 dX11_goes_102 (fun H locs hP _ hS => ?_)
  rw [saM_1] at hP
  obtain ⟨t_1, e_102, hf⟩ := fb_ls hf
  rw [← e_102] at hP
  refine lv_aload_n hx hb dX11_goes_103 rfl (lv_at hl 0 rfl) ?_
  refine va_get (D := D) (ci := 11) (v := .ref (a 6)) (C := RX11) (T := TX11) (N := 76) hx hb hts inX11 hown hK hP 0 (heM_0 ca a t_1) rfl 5 (by decide) (hts _ kw_1197) (fun _ h9 => h9) rfl dX11_goes_104 ?_
  refine lv_iload_n hx hb dX11_goes_107 rfl (lv_at hl 1 rfl) ?_
  refine lv_aload_n hx hb dX11_goes_108 rfl (lv_at hl 0 rfl) ?_
  refine va_get (D := D) (ci := 11) (v := .ref (a 18)) (C := RX11) (T := TX11) (N := 76) hx hb hts inX11 hown hK hP 0 (heM_0 ca a t_1) rfl 17 (by decide) (hts _ kw_1209) (fun _ h9 => h9) rfl dX11_goes_109 ?_
  refine lv_iload_n hx hb dX11_goes_112 rfl (lv_at hl 1 rfl) ?_
  obtain ⟨h_113, hf⟩ := fb_if hf
  refine va_iald hx hb hK hP 18 0 (haM_18 ca a t_1) rfl h_113 dX11_goes_113 ?_
  obtain ⟨h_114, hf⟩ := fb_if hf
  refine va_iast hx hb hK hP (hD t_1) hS 6 0 (haM_6 ca a t_1) rfl h_114 dX11_goes_114 (fun H locs hP _ hS => ?_)
  rw [saM_6] at hP
  obtain ⟨t_2, e_114, hf⟩ := fb_ls hf
  rw [← e_114] at hP
  refine lv_aload_n hx hb dX11_goes_115 rfl (lv_at hl 0 rfl) ?_
  refine va_get (D := D) (ci := 11) (v := .ref (a 3)) (C := RX11) (T := TX11) (N := 76) hx hb hts inX11 hown hK hP 0 (heM_0 ca a t_2) rfl 2 (by decide) (hts _ kw_1194) (fun _ h9 => h9) rfl dX11_goes_116 ?_
  refine lv_iload_n hx hb dX11_goes_119 rfl (lv_at hl 1 rfl) ?_
  refine lv_iconst (v := 0) hx hb dX11_goes_120 (by decide) ?_
  obtain ⟨h_121, hf⟩ := fb_if hf
  refine va_iast hx hb hK hP (hD t_2) hS 3 0 (haM_3 ca a t_2) rfl h_121 dX11_goes_121 (fun H locs hP _ hS => ?_)
  rw [saM_3] at hP
  obtain ⟨t_3, e_121, hf⟩ := fb_ls hf
  rw [← e_121] at hP
  refine lv_aload_n hx hb dX11_goes_122 rfl (lv_at hl 0 rfl) ?_
  refine va_get (D := D) (ci := 11) (v := .ref (a 4)) (C := RX11) (T := TX11) (N := 76) hx hb hts inX11 hown hK hP 0 (heM_0 ca a t_3) rfl 3 (by decide) (hts _ kw_1195) (fun _ h9 => h9) rfl dX11_goes_123 ?_
  refine lv_iload_n hx hb dX11_goes_126 rfl (lv_at hl 1 rfl) ?_
  refine lv_iconst (v := 0) hx hb dX11_goes_127 (by decide) ?_
  obtain ⟨h_128, hf⟩ := fb_if hf
  refine va_iast hx hb hK hP (hD t_3) hS 4 0 (haM_4 ca a t_3) rfl h_128 dX11_goes_128 (fun H locs hP _ hS => ?_)
  rw [saM_4] at hP
  obtain ⟨t_4, e_128, hf⟩ := fb_ls hf
  rw [← e_128] at hP
  refine lv_aload_n hx hb dX11_goes_129 rfl (lv_at hl 0 rfl) ?_
  refine va_get (D := D) (ci := 11) (v := .ref (a 1)) (C := RX11) (T := TX11) (N := 76) hx hb hts inX11 hown hK hP 0 (heM_0 ca a t_4) rfl 0 (by decide) (hts _ kw_1192) (fun _ h9 => h9) rfl dX11_goes_130 ?_
  refine lv_iload_n hx hb dX11_goes_133 rfl (lv_at hl 1 rfl) ?_
  obtain ⟨h_134, hf⟩ := fb_if hf
  refine va_iald hx hb hK hP 1 0 (haM_1 ca a t_4) rfl h_134 dX11_goes_134 ?_
  refine lv_iconst (v := 2) hx hb dX11_goes_135 (by decide) ?_
  refine lv_icmp_ne (tgt := 142) hx hb dX11_goes_136 (by decide) (fun h_136 => ?_) (fun h_136 => ?_)
  · have hf := fb_f h_136 hf
    exact w_M_X11_goes__0_142 C hr hk73 hf hP hS (lv_sub hl [0, 1] rfl)
  · have hf := fb_t h_136 hf
    exact w_M_X11_goes__0_139 C hr hk73 hf hP hS (lv_sub hl [0, 1] rfl)
set_option maxRecDepth 20000 in
theorem w_M_X11_goes__0_88 {p : Program} {l : Launch} {e : Env} {s : State} {m : MethodId} {args : Array Value} {below : List Frame} {meth : Method} {c : Code} {A : Nat → Prop} {Q : State → Prop} {D : va_G} {ca : Nat → ClassId} {a : Nat → Nat} {u : fw_S} {r : Int32} {k73 : fw_S → Int32 → Option (Int32 × fw_S)} (C : CX (WM ca a) D (tyv ca) p s m args c A prog_13_method_35_code 2 RX11) (hr : (r = 0 ∨ r = 1) → RX (WM ca a) D p l e rm_M_X11_goes__0 s m args below meth c A prog_13_method_35_code Q .ireturn [.int r] u) (hk73 : ∀ (t : fw_S) (x1 : Int32) (H : Heap) (locs : List Loc) (ls : Array Slot), k73 t x1 = some (r, u) → va_P D classes (WM ca a t) H → va_S A s.heap H locs → lv_has ls 2 [(0, .ref (a 0)), (1, .int x1)] → W p l e rm_M_X11_goes__0 s m args below meth c H locs 0 0 Q (F0 m 73 ls [])) {t : fw_S} {x1 : Int32} {H : Heap} {locs : List Loc} {ls : Array Slot} (hf : b_M_X11_goes__0_88 k73 t x1 = some (r, u)) (hP : va_P D classes (WM ca a t) H) (hS : va_S A s.heap H locs) (hl : lv_has ls 2 [(0, .ref (a 0)), (1, .int x1)]) : W p l e rm_M_X11_goes__0 s m args below meth c H locs 0 0 Q (F0 m 88 ls []) := by
  obtain ⟨hx, hb, hml, hown, hts, hN, hK, hD, hA⟩ := id C
  have hf : (b_M_X11_goes__0_207 k73 t x1) = some (r, u) := hf
  refine lv_goto (tgt := 207) hx hb dX11_goes_88 (by decide) ?_
  exact w_M_X11_goes__0_207 C hr hk73 hf hP hS (lv_sub hl [0, 1] rfl)
set_option maxRecDepth 20000 in
theorem w_M_X11_goes__0_79 {p : Program} {l : Launch} {e : Env} {s : State} {m : MethodId} {args : Array Value} {below : List Frame} {meth : Method} {c : Code} {A : Nat → Prop} {Q : State → Prop} {D : va_G} {ca : Nat → ClassId} {a : Nat → Nat} {u : fw_S} {r : Int32} {k73 : fw_S → Int32 → Option (Int32 × fw_S)} (C : CX (WM ca a) D (tyv ca) p s m args c A prog_13_method_35_code 2 RX11) (hr : (r = 0 ∨ r = 1) → RX (WM ca a) D p l e rm_M_X11_goes__0 s m args below meth c A prog_13_method_35_code Q .ireturn [.int r] u) (hk73 : ∀ (t : fw_S) (x1 : Int32) (H : Heap) (locs : List Loc) (ls : Array Slot), k73 t x1 = some (r, u) → va_P D classes (WM ca a t) H → va_S A s.heap H locs → lv_has ls 2 [(0, .ref (a 0)), (1, .int x1)] → W p l e rm_M_X11_goes__0 s m args below meth c H locs 0 0 Q (F0 m 73 ls [])) {t : fw_S} {x1 : Int32} {H : Heap} {locs : List Loc} {ls : Array Slot} (hf : b_M_X11_goes__0_79 k73 t x1 = some (r, u)) (hP : va_P D classes (WM ca a t) H) (hS : va_S A s.heap H locs) (hl : lv_has ls 2 [(0, .ref (a 0)), (1, .int x1)]) : W p l e rm_M_X11_goes__0 s m args below meth c H locs 0 0 Q (F0 m 79 ls []) := by
  obtain ⟨hx, hb, hml, hown, hts, hN, hK, hD, hA⟩ := id C
  have hf : (fb_g (¬ (x1 < 0 ∨ 32 ≤ x1.toNatClampNeg)) (if (st_F t 13 x1.toNatClampNeg) = 0 then b_M_X11_goes__0_88 k73 t x1 else b_M_X11_goes__0_91 k73 t x1)) = some (r, u) := hf
  refine lv_aload_n hx hb dX11_goes_79 rfl (lv_at hl 0 rfl) ?_
  refine va_get (D := D) (ci := 11) (v := .ref (a 15)) (C := RX11) (T := TX11) (N := 76) hx hb hts inX11 hown hK hP 0 (heM_0 ca a t) rfl 14 (by decide) (hts _ kw_1206) (fun _ h9 => h9) rfl dX11_goes_80 ?_
  refine lv_iload_n hx hb dX11_goes_83 rfl (lv_at hl 1 rfl) ?_
  obtain ⟨h_84, hf⟩ := fb_if hf
  refine va_zald hx hb hK hP 15 2 (haM_15 ca a t) rfl h_84 dX11_goes_84 ?_
  refine lv_if_ne (tgt := 91) hx hb dX11_goes_85 (by decide) (fun h_85 => ?_) (fun h_85 => ?_)
  · have hf := fb_f h_85 hf
    exact w_M_X11_goes__0_91 C hr hk73 hf hP hS (lv_sub hl [0, 1] rfl)
  · have hf := fb_t h_85 hf
    exact w_M_X11_goes__0_88 C hr hk73 hf hP hS (lv_sub hl [0, 1] rfl)
set_option maxRecDepth 20000 in
theorem w_M_X11_goes__0_73 {p : Program} {l : Launch} {e : Env} {s : State} {m : MethodId} {args : Array Value} {below : List Frame} {meth : Method} {c : Code} {A : Nat → Prop} {Q : State → Prop} {D : va_G} {ca : Nat → ClassId} {a : Nat → Nat} {u : fw_S} {r : Int32}  (C : CX (WM ca a) D (tyv ca) p s m args c A prog_13_method_35_code 2 RX11) (hr : (r = 0 ∨ r = 1) → RX (WM ca a) D p l e rm_M_X11_goes__0 s m args below meth c A prog_13_method_35_code Q .ireturn [.int r] u) : ∀ (n : Nat) (t : fw_S) (x1 : Int32) (H : Heap) (locs : List Loc) (ls : Array Slot), b_M_X11_goes__0_73  n t x1 = some (r, u) → va_P D classes (WM ca a t) H → va_S A s.heap H locs → lv_has ls 2 [(0, .ref (a 0)), (1, .int x1)] → W p l e rm_M_X11_goes__0 s m args below meth c H locs 0 0 Q (F0 m 73 ls []) := by
  obtain ⟨hx, hb, hml, hown, hts, hN, hK, hD, hA⟩ := id C
  intro n
  induction n with
  | zero => intro t x1 H locs ls hf; cases hf
  | succ n hk73 =>
    intro t x1 H locs ls hf hP hS hl
    have hf : (if ((32 : Int32)) ≤ x1 then b_M_X11_goes__0_213 t else b_M_X11_goes__0_79 (b_M_X11_goes__0_73 n) t x1) = some (r, u) := hf
    refine lv_iload_n hx hb dX11_goes_73 rfl (lv_at hl 1 rfl) ?_
    refine lv_bipush (v := 32) hx hb dX11_goes_74 (by decide) ?_
    refine lv_icmp_ge (tgt := 213) hx hb dX11_goes_76 (by decide) (fun h_76 => ?_) (fun h_76 => ?_)
    · have hf := fb_t h_76 hf
      exact w_M_X11_goes__0_213 C hr hf hP hS (lv_sub hl [0] rfl)
    · have hf := fb_f h_76 hf
      exact w_M_X11_goes__0_79 C hr hk73 hf hP hS (lv_sub hl [0, 1] rfl)
set_option maxRecDepth 20000 in
theorem w_M_X11_goes__0_71 {p : Program} {l : Launch} {e : Env} {s : State} {m : MethodId} {args : Array Value} {below : List Frame} {meth : Method} {c : Code} {A : Nat → Prop} {Q : State → Prop} {D : va_G} {ca : Nat → ClassId} {a : Nat → Nat} {u : fw_S} {r : Int32}  (C : CX (WM ca a) D (tyv ca) p s m args c A prog_13_method_35_code 2 RX11) (hr : (r = 0 ∨ r = 1) → RX (WM ca a) D p l e rm_M_X11_goes__0 s m args below meth c A prog_13_method_35_code Q .ireturn [.int r] u) {t : fw_S}  {H : Heap} {locs : List Loc} {ls : Array Slot} (hf : b_M_X11_goes__0_71  t  = some (r, u)) (hP : va_P D classes (WM ca a t) H) (hS : va_S A s.heap H locs) (hl : lv_has ls 2 [(0, .ref (a 0))]) : W p l e rm_M_X11_goes__0 s m args below meth c H locs 0 0 Q (F0 m 71 ls []) := by
  obtain ⟨hx, hb, hml, hown, hts, hN, hK, hD, hA⟩ := id C
  have hf : (b_M_X11_goes__0_73 3000 t ((0 : Int32))) = some (r, u) := hf
  refine lv_iconst (v := 0) hx hb dX11_goes_71 (by decide) ?_
  refine lv_istore_n (lv' := [(1, .int ((0 : Int32))), (0, .ref (a 0))]) hx hb dX11_goes_72 rfl hl (by decide) rfl (fun ls hl => ?_)
  exact w_M_X11_goes__0_73 C hr 3000 t ((0 : Int32)) _ _ _ hf hP hS (lv_sub hl [1, 0] rfl)
set_option maxRecDepth 20000 in
theorem w_M_X11_goes__0_36 {p : Program} {l : Launch} {e : Env} {s : State} {m : MethodId} {args : Array Value} {below : List Frame} {meth : Method} {c : Code} {A : Nat → Prop} {Q : State → Prop} {D : va_G} {ca : Nat → ClassId} {a : Nat → Nat} {u : fw_S} {r : Int32} {k30 : fw_S → Int32 → Option (Int32 × fw_S)} (C : CX (WM ca a) D (tyv ca) p s m args c A prog_13_method_35_code 2 RX11) (hr : (r = 0 ∨ r = 1) → RX (WM ca a) D p l e rm_M_X11_goes__0 s m args below meth c A prog_13_method_35_code Q .ireturn [.int r] u) (hk30 : ∀ (t : fw_S) (x1 : Int32) (H : Heap) (locs : List Loc) (ls : Array Slot), k30 t x1 = some (r, u) → va_P D classes (WM ca a t) H → va_S A s.heap H locs → lv_has ls 2 [(0, .ref (a 0)), (1, .int x1)] → W p l e rm_M_X11_goes__0 s m args below meth c H locs 0 0 Q (F0 m 30 ls [])) {t : fw_S} {x1 : Int32} {H : Heap} {locs : List Loc} {ls : Array Slot} (hf : b_M_X11_goes__0_36 k30 t x1 = some (r, u)) (hP : va_P D classes (WM ca a t) H) (hS : va_S A s.heap H locs) (hl : lv_has ls 2 [(0, .ref (a 0)), (1, .int x1)]) : W p l e rm_M_X11_goes__0 s m args below meth c H locs 0 0 Q (F0 m 36 ls []) := by
  obtain ⟨hx, hb, hml, hown, hts, hN, hK, hD, hA⟩ := id C
  have hf : (fb_g (¬ (x1 < 0 ∨ 32 ≤ x1.toNatClampNeg)) (fb_l (up_F t 7 (upd (st_F t 7) x1.toNatClampNeg (vp_nar .boolean ((0 : Int32))))) fun t_1 => (fb_g (¬ (x1 < 0 ∨ 32 ≤ x1.toNatClampNeg)) (fb_l (up_F t_1 8 (upd (st_F t_1 8) x1.toNatClampNeg (vp_nar .boolean ((0 : Int32))))) fun t_2 => (fb_g (¬ (x1 < 0 ∨ 32 ≤ x1.toNatClampNeg)) (fb_l (up_F t_2 4 (upd (st_F t_2 4) x1.toNatClampNeg ((-5 : Int32)))) fun t_3 => (fb_g (¬ (x1 < 0 ∨ 32 ≤ x1.toNatClampNeg)) (fb_l (up_F t_3 28 (upd (st_F t_3 28) x1.toNatClampNeg ((0 : Int32)))) fun t_4 => (k30 t_4 (x1 + 1)))))))))) = some (r, u) := hf
  refine lv_aload_n hx hb dX11_goes_36 rfl (lv_at hl 0 rfl) ?_
  refine va_get (D := D) (ci := 11) (v := .ref (a 9)) (C := RX11) (T := TX11) (N := 76) hx hb hts inX11 hown hK hP 0 (heM_0 ca a t) rfl 8 (by decide) (hts _ kw_1200) (fun _ h9 => h9) rfl dX11_goes_37 ?_
  refine lv_iload_n hx hb dX11_goes_40 rfl (lv_at hl 1 rfl) ?_
  refine lv_iconst (v := 0) hx hb dX11_goes_41 (by decide) ?_
  obtain ⟨h_42, hf⟩ := fb_if hf
  refine va_zast hx hb hK hP (hD t) hS 9 2 (haM_9 ca a t) rfl h_42 dX11_goes_42 (fun H locs hP _ hS => ?_)
  rw [saM_9] at hP
  obtain ⟨t_1, e_42, hf⟩ := fb_ls hf
  rw [← e_42] at hP
  refine lv_aload_n hx hb dX11_goes_43 rfl (lv_at hl 0 rfl) ?_
  refine va_get (D := D) (ci := 11) (v := .ref (a 10)) (C := RX11) (T := TX11) (N := 76) hx hb hts inX11 hown hK hP 0 (heM_0 ca a t_1) rfl 9 (by decide) (hts _ kw_1201) (fun _ h9 => h9) rfl dX11_goes_44 ?_
  refine lv_iload_n hx hb dX11_goes_47 rfl (lv_at hl 1 rfl) ?_
  refine lv_iconst (v := 0) hx hb dX11_goes_48 (by decide) ?_
  obtain ⟨h_49, hf⟩ := fb_if hf
  refine va_zast hx hb hK hP (hD t_1) hS 10 2 (haM_10 ca a t_1) rfl h_49 dX11_goes_49 (fun H locs hP _ hS => ?_)
  rw [saM_10] at hP
  obtain ⟨t_2, e_49, hf⟩ := fb_ls hf
  rw [← e_49] at hP
  refine lv_aload_n hx hb dX11_goes_50 rfl (lv_at hl 0 rfl) ?_
  refine va_get (D := D) (ci := 11) (v := .ref (a 5)) (C := RX11) (T := TX11) (N := 76) hx hb hts inX11 hown hK hP 0 (heM_0 ca a t_2) rfl 4 (by decide) (hts _ kw_1196) (fun _ h9 => h9) rfl dX11_goes_51 ?_
  refine lv_iload_n hx hb dX11_goes_54 rfl (lv_at hl 1 rfl) ?_
  refine lv_bipush (v := (-5)) hx hb dX11_goes_55 (by decide) ?_
  obtain ⟨h_57, hf⟩ := fb_if hf
  refine va_iast hx hb hK hP (hD t_2) hS 5 0 (haM_5 ca a t_2) rfl h_57 dX11_goes_57 (fun H locs hP _ hS => ?_)
  rw [saM_5] at hP
  obtain ⟨t_3, e_57, hf⟩ := fb_ls hf
  rw [← e_57] at hP
  refine lv_aload_n hx hb dX11_goes_58 rfl (lv_at hl 0 rfl) ?_
  refine va_get (D := D) (ci := 11) (v := .ref (a 33)) (C := RX11) (T := TX11) (N := 76) hx hb hts inX11 hown hK hP 0 (heM_0 ca a t_3) rfl 33 (by decide) (hts _ kw_1225) (fun _ h9 => h9) rfl dX11_goes_59 ?_
  refine lv_iload_n hx hb dX11_goes_62 rfl (lv_at hl 1 rfl) ?_
  refine lv_iconst (v := 0) hx hb dX11_goes_63 (by decide) ?_
  obtain ⟨h_64, hf⟩ := fb_if hf
  refine va_iast hx hb hK hP (hD t_3) hS 33 0 (haM_33 ca a t_3) rfl h_64 dX11_goes_64 (fun H locs hP _ hS => ?_)
  rw [saM_33] at hP
  obtain ⟨t_4, e_64, hf⟩ := fb_ls hf
  rw [← e_64] at hP
  refine lv_iinc (v := x1 + 1) (lv' := [(1, .int (x1 + 1)), (0, .ref (a 0))]) hx hb dX11_goes_65 hl (k := 1) rfl rfl (by decide) rfl (fun ls hl => ?_)
  refine lv_goto (tgt := 30) hx hb dX11_goes_68 (by decide) ?_
  exact hk30 t_4 (x1 + 1) _ _ _ hf hP hS (lv_sub hl [1, 0] rfl)
set_option maxRecDepth 20000 in
theorem w_M_X11_goes__0_30 {p : Program} {l : Launch} {e : Env} {s : State} {m : MethodId} {args : Array Value} {below : List Frame} {meth : Method} {c : Code} {A : Nat → Prop} {Q : State → Prop} {D : va_G} {ca : Nat → ClassId} {a : Nat → Nat} {u : fw_S} {r : Int32}  (C : CX (WM ca a) D (tyv ca) p s m args c A prog_13_method_35_code 2 RX11) (hr : (r = 0 ∨ r = 1) → RX (WM ca a) D p l e rm_M_X11_goes__0 s m args below meth c A prog_13_method_35_code Q .ireturn [.int r] u) : ∀ (n : Nat) (t : fw_S) (x1 : Int32) (H : Heap) (locs : List Loc) (ls : Array Slot), b_M_X11_goes__0_30  n t x1 = some (r, u) → va_P D classes (WM ca a t) H → va_S A s.heap H locs → lv_has ls 2 [(0, .ref (a 0)), (1, .int x1)] → W p l e rm_M_X11_goes__0 s m args below meth c H locs 0 0 Q (F0 m 30 ls []) := by
  obtain ⟨hx, hb, hml, hown, hts, hN, hK, hD, hA⟩ := id C
  intro n
  induction n with
  | zero => intro t x1 H locs ls hf; cases hf
  | succ n hk30 =>
    intro t x1 H locs ls hf hP hS hl
    have hf : (if ((32 : Int32)) ≤ x1 then b_M_X11_goes__0_71 t else b_M_X11_goes__0_36 (b_M_X11_goes__0_30 n) t x1) = some (r, u) := hf
    refine lv_iload_n hx hb dX11_goes_30 rfl (lv_at hl 1 rfl) ?_
    refine lv_bipush (v := 32) hx hb dX11_goes_31 (by decide) ?_
    refine lv_icmp_ge (tgt := 71) hx hb dX11_goes_33 (by decide) (fun h_33 => ?_) (fun h_33 => ?_)
    · have hf := fb_t h_33 hf
      exact w_M_X11_goes__0_71 C hr hf hP hS (lv_sub hl [0] rfl)
    · have hf := fb_f h_33 hf
      exact w_M_X11_goes__0_36 C hr hk30 hf hP hS (lv_sub hl [0, 1] rfl)
set_option maxRecDepth 20000 in
theorem w_M_X11_goes__0_0 {p : Program} {l : Launch} {e : Env} {s : State} {m : MethodId} {args : Array Value} {below : List Frame} {meth : Method} {c : Code} {A : Nat → Prop} {Q : State → Prop} {D : va_G} {ca : Nat → ClassId} {a : Nat → Nat} {u : fw_S} {r : Int32}  (C : CX (WM ca a) D (tyv ca) p s m args c A prog_13_method_35_code 2 RX11) (hr : (r = 0 ∨ r = 1) → RX (WM ca a) D p l e rm_M_X11_goes__0 s m args below meth c A prog_13_method_35_code Q .ireturn [.int r] u) {t : fw_S}  {H : Heap} {locs : List Loc} {ls : Array Slot} (hf : b_M_X11_goes__0_0  t  = some (r, u)) (hP : va_P D classes (WM ca a t) H) (hS : va_S A s.heap H locs) (hl : lv_has ls 2 [(0, .ref (a 0))]) : W p l e rm_M_X11_goes__0 s m args below meth c H locs 0 0 Q (F0 m 0 ls []) := by
  obtain ⟨hx, hb, hml, hown, hts, hN, hK, hD, hA⟩ := id C
  have hf : (fb_v (f_M_X11_keepsAhead__0 t) fun t_1 => (fb_v (f_M_X11_swaps__0 t_1) fun t_2 => (fb_g (((0 : Int32)) = 0 ∨ ((0 : Int32)) = 1) (fb_l (up_I t_2 1 ((0 : Int32))) fun t_3 => (fb_l (up_I t_3 4 ((0 : Int32))) fun t_4 => (fb_l (up_I t_4 2 ((0 : Int32))) fun t_5 => (fb_l (up_I t_5 3 ((0 : Int32))) fun t_6 => (b_M_X11_goes__0_30 3000 t_6 ((0 : Int32)))))))))) = some (r, u) := hf
  refine lv_aload_n hx hb dX11_goes_0 rfl (lv_at hl 0 rfl) ?_
  obtain ⟨t_1, g_1, hf⟩ := fb_vs hf
  refine fw_V1 (As := []) (rest := []) (n := 0) (q0 := 0) C (c_M_X11_keepsAhead__0 (l := l) (D := D) (ca := ca) (a := a) g_1) kw_1460 kw_1462 kw_102 kw_1463 kw_49 hP hS hl (heM_0 ca a t) rfl rfl rfl (by decide) (by decide +kernel) ⟨Nat.le_of_ble_eq_true rfl, Nat.le_of_ble_eq_true rfl⟩ rfl rfl (Nat.le_of_ble_eq_true rfl) dX11_goes_1 (fun H locs hP hS => ?_)
  refine W.eq (g2 := F0 m 4 ls []) rfl ?_
  refine lv_aload_n hx hb dX11_goes_4 rfl (lv_at hl 0 rfl) ?_
  obtain ⟨t_2, g_5, hf⟩ := fb_vs hf
  refine fw_V1 (As := []) (rest := []) (n := 0) (q0 := 0) C (c_M_X11_swaps__0 (l := l) (D := D) (ca := ca) (a := a) g_5) kw_1464 kw_1466 kw_102 kw_1467 kw_50 hP hS hl (heM_0 ca a t_1) rfl rfl rfl (by decide) (by decide +kernel) ⟨Nat.le_of_ble_eq_true rfl, Nat.le_of_ble_eq_true rfl⟩ rfl rfl (Nat.le_of_ble_eq_true rfl) dX11_goes_5 (fun H locs hP hS => ?_)
  refine W.eq (g2 := F0 m 8 ls []) rfl ?_
  refine lv_aload_n hx hb dX11_goes_8 rfl (lv_at hl 0 rfl) ?_
  refine lv_iconst (v := 0) hx hb dX11_goes_9 (by decide) ?_
  obtain ⟨h_10, hf⟩ := fb_if hf
  refine va_put (D := D) (ci := 11) (v := .int ((0 : Int32))) (ty := .boolean) (C := RX11) (T := TX11) (N := 76) hx hb hts inX11 tyX11 tyX11_ok nmX11 hown hK hP (hD t_2) hS 0 (heM_0 ca a t_2) rfl 34 (by decide) (hts _ kw_1226) (fun _ h9 => h9) rfl (by decide +kernel) (fb_z h_10).1 (fb_z h_10).2 (Nat.le_of_ble_eq_true rfl) dX11_goes_10 (fun H locs hP _ hS => ?_)
  rw [suM_0_34] at hP
  obtain ⟨t_3, e_10, hf⟩ := fb_ls hf
  rw [← e_10] at hP
  refine lv_aload_n hx hb dX11_goes_13 rfl (lv_at hl 0 rfl) ?_
  refine lv_iconst (v := 0) hx hb dX11_goes_14 (by decide) ?_
  refine va_put (D := D) (ci := 11) (v := .int ((0 : Int32))) (ty := .int) (C := RX11) (T := TX11) (N := 76) hx hb hts inX11 tyX11 tyX11_ok nmX11 hown hK hP (hD t_3) hS 0 (heM_0 ca a t_3) rfl 37 (by decide) (hts _ kw_1229) (fun _ h9 => h9) rfl (by decide +kernel) rfl rfl (Nat.le_of_ble_eq_true rfl) dX11_goes_15 (fun H locs hP _ hS => ?_)
  rw [suM_0_37] at hP
  obtain ⟨t_4, e_15, hf⟩ := fb_ls hf
  rw [← e_15] at hP
  refine lv_aload_n hx hb dX11_goes_18 rfl (lv_at hl 0 rfl) ?_
  refine lv_iconst (v := 0) hx hb dX11_goes_19 (by decide) ?_
  refine va_put (D := D) (ci := 11) (v := .int ((0 : Int32))) (ty := .int) (C := RX11) (T := TX11) (N := 76) hx hb hts inX11 tyX11 tyX11_ok nmX11 hown hK hP (hD t_4) hS 0 (heM_0 ca a t_4) rfl 35 (by decide) (hts _ kw_1227) (fun _ h9 => h9) rfl (by decide +kernel) rfl rfl (Nat.le_of_ble_eq_true rfl) dX11_goes_20 (fun H locs hP _ hS => ?_)
  rw [suM_0_35] at hP
  obtain ⟨t_5, e_20, hf⟩ := fb_ls hf
  rw [← e_20] at hP
  refine lv_aload_n hx hb dX11_goes_23 rfl (lv_at hl 0 rfl) ?_
  refine lv_iconst (v := 0) hx hb dX11_goes_24 (by decide) ?_
  refine va_put (D := D) (ci := 11) (v := .int ((0 : Int32))) (ty := .int) (C := RX11) (T := TX11) (N := 76) hx hb hts inX11 tyX11 tyX11_ok nmX11 hown hK hP (hD t_5) hS 0 (heM_0 ca a t_5) rfl 36 (by decide) (hts _ kw_1228) (fun _ h9 => h9) rfl (by decide +kernel) rfl rfl (Nat.le_of_ble_eq_true rfl) dX11_goes_25 (fun H locs hP _ hS => ?_)
  rw [suM_0_36] at hP
  obtain ⟨t_6, e_25, hf⟩ := fb_ls hf
  rw [← e_25] at hP
  refine lv_iconst (v := 0) hx hb dX11_goes_28 (by decide) ?_
  refine lv_istore_n (lv' := [(1, .int ((0 : Int32))), (0, .ref (a 0))]) hx hb dX11_goes_29 rfl hl (by decide) rfl (fun ls hl => ?_)
  exact w_M_X11_goes__0_30 C hr 3000 t_6 ((0 : Int32)) _ _ _ hf hP hS (lv_sub hl [1, 0] rfl)
set_option maxRecDepth 20000 in
theorem c_M_X11_goes__0 {l : Launch} {D : va_G} {ca : Nat → ClassId} {a : Nat → Nat} {t : fw_S}  {u : fw_S} {r : Int32} (hf : f_M_X11_goes__0 t  = some (r, u)) : MC (WM ca a) D (tyv ca) l yX11_goes (.code yX11_goes prog_13_method_35_code 2 (some .boolean) :: lw_gd) rm_M_X11_goes__0 [.ref (a 0)] (some (.int r)) t u := by
  refine fw_met (okM ca a) (by decide +kernel) rfl rfl (Nat.le_of_ble_eq_true rfl) ?_
  intro p e s m args below meth c A Q ls C hr hk hP hS hl hQ
  exact w_M_X11_goes__0_0 C (fun hz => fw_rz C hr hk hz hQ) hf hP hS (lv_sub hl [0] rfl)
/-! ReactiveSheetModel.laysBack()V ['m'] -/
abbrev rm_M_X11_laysBack__0 : Room := { frames := 0, cells := 0, slots := 0, locals := 0 }
def b_M_X11_laysBack__0_151  (t : fw_S)  : Option fw_S := some t
def b_M_X11_laysBack__0_133 (k124 : fw_S → Int32 → Option fw_S) (t : fw_S) (x1 : Int32) : Option fw_S := fb_g (¬ (x1 < 0 ∨ 1024 ≤ x1.toNatClampNeg)) (fb_g (¬ (x1 < 0 ∨ 1024 ≤ x1.toNatClampNeg)) (fb_l (up_F t 6 (upd (st_F t 6) x1.toNatClampNeg (st_F t 25 x1.toNatClampNeg))) fun t_1 => (k124 t_1 (x1 + 1))))
def b_M_X11_laysBack__0_124  : Nat → (fw_S → Int32 → Option fw_S)
  | 0 => fun _ _ => none
  | n + 1 => fun t x1 => if ((1024 : Int32)) ≤ x1 then b_M_X11_laysBack__0_151 t else b_M_X11_laysBack__0_133 (b_M_X11_laysBack__0_124 n) t x1
def b_M_X11_laysBack__0_122  (t : fw_S)  : Option fw_S := b_M_X11_laysBack__0_124 3000 t ((0 : Int32))
def b_M_X11_laysBack__0_8 (k2 : fw_S → Int32 → Option fw_S) (t : fw_S) (x1 : Int32) : Option fw_S := fb_g (¬ (x1 < 0 ∨ 32 ≤ x1.toNatClampNeg)) (fb_g (¬ (x1 < 0 ∨ 32 ≤ x1.toNatClampNeg)) (fb_l (up_F t 0 (upd (st_F t 0) x1.toNatClampNeg (st_F t 19 x1.toNatClampNeg))) fun t_1 => (fb_g (¬ (x1 < 0 ∨ 32 ≤ x1.toNatClampNeg)) (fb_g (¬ (x1 < 0 ∨ 32 ≤ x1.toNatClampNeg)) (fb_l (up_F t_1 1 (upd (st_F t_1 1) x1.toNatClampNeg (st_F t_1 20 x1.toNatClampNeg))) fun t_2 => (fb_g (¬ (x1 < 0 ∨ 32 ≤ x1.toNatClampNeg)) (fb_g (¬ (x1 < 0 ∨ 32 ≤ x1.toNatClampNeg)) (fb_l (up_F t_2 2 (upd (st_F t_2 2) x1.toNatClampNeg (st_F t_2 21 x1.toNatClampNeg))) fun t_3 => (fb_g (¬ (x1 < 0 ∨ 32 ≤ x1.toNatClampNeg)) (fb_g (¬ (x1 < 0 ∨ 32 ≤ x1.toNatClampNeg)) (fb_l (up_F t_3 3 (upd (st_F t_3 3) x1.toNatClampNeg (st_F t_3 22 x1.toNatClampNeg))) fun t_4 => (fb_g (¬ (x1 < 0 ∨ 32 ≤ x1.toNatClampNeg)) (fb_g (¬ (x1 < 0 ∨ 32 ≤ x1.toNatClampNeg)) (fb_l (up_F t_4 4 (upd (st_F t_4 4) x1.toNatClampNeg (st_F t_4 23 x1.toNatClampNeg))) fun t_5 => (fb_g (¬ (x1 < 0 ∨ 32 ≤ x1.toNatClampNeg)) (fb_g (¬ (x1 < 0 ∨ 32 ≤ x1.toNatClampNeg)) (fb_l (up_F t_5 5 (upd (st_F t_5 5) x1.toNatClampNeg (st_F t_5 24 x1.toNatClampNeg))) fun t_6 => (fb_g (¬ (x1 < 0 ∨ 32 ≤ x1.toNatClampNeg)) (fb_g (¬ (x1 < 0 ∨ 32 ≤ x1.toNatClampNeg)) (fb_l (up_G t_6 0 (vp_updL (st_G t_6 0) x1.toNatClampNeg (st_G t_6 3 x1.toNatClampNeg))) fun t_7 => (fb_g (¬ (x1 < 0 ∨ 32 ≤ x1.toNatClampNeg)) (fb_g (¬ (x1 < 0 ∨ 32 ≤ x1.toNatClampNeg)) (fb_l (up_F t_7 7 (upd (st_F t_7 7) x1.toNatClampNeg (vp_nar .boolean (st_F t_7 26 x1.toNatClampNeg)))) fun t_8 => (fb_g (¬ (x1 < 0 ∨ 32 ≤ x1.toNatClampNeg)) (fb_g (¬ (x1 < 0 ∨ 32 ≤ x1.toNatClampNeg)) (fb_l (up_F t_8 8 (upd (st_F t_8 8) x1.toNatClampNeg (vp_nar .boolean (st_F t_8 27 x1.toNatClampNeg)))) fun t_9 => (k2 t_9 (x1 + 1))))))))))))))))))))))))))))
def b_M_X11_laysBack__0_2  : Nat → (fw_S → Int32 → Option fw_S)
  | 0 => fun _ _ => none
  | n + 1 => fun t x1 => if ((32 : Int32)) ≤ x1 then b_M_X11_laysBack__0_122 t else b_M_X11_laysBack__0_8 (b_M_X11_laysBack__0_2 n) t x1
def b_M_X11_laysBack__0_0  (t : fw_S)  : Option fw_S := b_M_X11_laysBack__0_2 3000 t ((0 : Int32))
def f_M_X11_laysBack__0 (t : fw_S)  : Option fw_S := b_M_X11_laysBack__0_0 t 
set_option maxRecDepth 20000 in
theorem w_M_X11_laysBack__0_151 {p : Program} {l : Launch} {e : Env} {s : State} {m : MethodId} {args : Array Value} {below : List Frame} {meth : Method} {c : Code} {A : Nat → Prop} {Q : State → Prop} {D : va_G} {ca : Nat → ClassId} {a : Nat → Nat} {u : fw_S}  (C : CX (WM ca a) D (tyv ca) p s m args c A prog_13_method_32_code 2 RX11) (hr : True → RX (WM ca a) D p l e rm_M_X11_laysBack__0 s m args below meth c A prog_13_method_32_code Q .return_ [] u) {t : fw_S}  {H : Heap} {locs : List Loc} {ls : Array Slot} (hf : b_M_X11_laysBack__0_151  t  = some u) (hP : va_P D classes (WM ca a t) H) (hS : va_S A s.heap H locs) (hl : lv_has ls 2 []) : W p l e rm_M_X11_laysBack__0 s m args below meth c H locs 0 0 Q (F0 m 151 ls []) := by
  obtain ⟨hx, hb, hml, hown, hts, hN, hK, hD, hA⟩ := id C
  have hf : (some t) = some u := hf
  have e_151 := fb_ev hf
  subst e_151
  exact hr trivial _ _ _ _ hP hS dX11_laysBack_151
set_option maxRecDepth 20000 in
theorem w_M_X11_laysBack__0_133 {p : Program} {l : Launch} {e : Env} {s : State} {m : MethodId} {args : Array Value} {below : List Frame} {meth : Method} {c : Code} {A : Nat → Prop} {Q : State → Prop} {D : va_G} {ca : Nat → ClassId} {a : Nat → Nat} {u : fw_S} {k124 : fw_S → Int32 → Option fw_S} (C : CX (WM ca a) D (tyv ca) p s m args c A prog_13_method_32_code 2 RX11) (hr : True → RX (WM ca a) D p l e rm_M_X11_laysBack__0 s m args below meth c A prog_13_method_32_code Q .return_ [] u) (hk124 : ∀ (t : fw_S) (x1 : Int32) (H : Heap) (locs : List Loc) (ls : Array Slot), k124 t x1 = some u → va_P D classes (WM ca a t) H → va_S A s.heap H locs → lv_has ls 2 [(0, .ref (a 0)), (1, .int x1)] → W p l e rm_M_X11_laysBack__0 s m args below meth c H locs 0 0 Q (F0 m 124 ls [])) {t : fw_S} {x1 : Int32} {H : Heap} {locs : List Loc} {ls : Array Slot} (hf : b_M_X11_laysBack__0_133 k124 t x1 = some u) (hP : va_P D classes (WM ca a t) H) (hS : va_S A s.heap H locs) (hl : lv_has ls 2 [(0, .ref (a 0)), (1, .int x1)]) : W p l e rm_M_X11_laysBack__0 s m args below meth c H locs 0 0 Q (F0 m 133 ls []) := by
  obtain ⟨hx, hb, hml, hown, hts, hN, hK, hD, hA⟩ := id C
  have hf : (fb_g (¬ (x1 < 0 ∨ 1024 ≤ x1.toNatClampNeg)) (fb_g (¬ (x1 < 0 ∨ 1024 ≤ x1.toNatClampNeg)) (fb_l (up_F t 6 (upd (st_F t 6) x1.toNatClampNeg (st_F t 25 x1.toNatClampNeg))) fun t_1 => (k124 t_1 (x1 + 1))))) = some u := hf
  refine lv_aload_n hx hb dX11_laysBack_133 rfl (lv_at hl 0 rfl) ?_
  refine va_get (D := D) (ci := 11) (v := .ref (a 8)) (C := RX11) (T := TX11) (N := 76) hx hb hts inX11 hown hK hP 0 (heM_0 ca a t) rfl 7 (by decide) (hts _ kw_1199) (fun _ h9 => h9) rfl dX11_laysBack_134 ?_
  refine lv_iload_n hx hb dX11_laysBack_137 rfl (lv_at hl 1 rfl) ?_
  refine lv_aload_n hx hb dX11_laysBack_138 rfl (lv_at hl 0 rfl) ?_
  refine va_get (D := D) (ci := 11) (v := .ref (a 29)) (C := RX11) (T := TX11) (N := 76) hx hb hts inX11 hown hK hP 0 (heM_0 ca a t) rfl 29 (by decide) (hts _ kw_1221) (fun _ h9 => h9) rfl dX11_laysBack_139 ?_
  refine lv_iload_n hx hb dX11_laysBack_142 rfl (lv_at hl 1 rfl) ?_
  obtain ⟨h_143, hf⟩ := fb_if hf
  refine va_iald hx hb hK hP 29 0 (haM_29 ca a t) rfl h_143 dX11_laysBack_143 ?_
  obtain ⟨h_144, hf⟩ := fb_if hf
  refine va_iast hx hb hK hP (hD t) hS 8 0 (haM_8 ca a t) rfl h_144 dX11_laysBack_144 (fun H locs hP _ hS => ?_)
  rw [saM_8] at hP
  obtain ⟨t_1, e_144, hf⟩ := fb_ls hf
  rw [← e_144] at hP
  refine lv_iinc (v := x1 + 1) (lv' := [(1, .int (x1 + 1)), (0, .ref (a 0))]) hx hb dX11_laysBack_145 hl (k := 1) rfl rfl (by decide) rfl (fun ls hl => ?_)
  refine lv_goto (tgt := 124) hx hb dX11_laysBack_148 (by decide) ?_
  exact hk124 t_1 (x1 + 1) _ _ _ hf hP hS (lv_sub hl [1, 0] rfl)
set_option maxRecDepth 20000 in
theorem w_M_X11_laysBack__0_124 {p : Program} {l : Launch} {e : Env} {s : State} {m : MethodId} {args : Array Value} {below : List Frame} {meth : Method} {c : Code} {A : Nat → Prop} {Q : State → Prop} {D : va_G} {ca : Nat → ClassId} {a : Nat → Nat} {u : fw_S}  (C : CX (WM ca a) D (tyv ca) p s m args c A prog_13_method_32_code 2 RX11) (hr : True → RX (WM ca a) D p l e rm_M_X11_laysBack__0 s m args below meth c A prog_13_method_32_code Q .return_ [] u) : ∀ (n : Nat) (t : fw_S) (x1 : Int32) (H : Heap) (locs : List Loc) (ls : Array Slot), b_M_X11_laysBack__0_124  n t x1 = some u → va_P D classes (WM ca a t) H → va_S A s.heap H locs → lv_has ls 2 [(0, .ref (a 0)), (1, .int x1)] → W p l e rm_M_X11_laysBack__0 s m args below meth c H locs 0 0 Q (F0 m 124 ls []) := by
  obtain ⟨hx, hb, hml, hown, hts, hN, hK, hD, hA⟩ := id C
  intro n
  induction n with
  | zero => intro t x1 H locs ls hf; cases hf
  | succ n hk124 =>
    intro t x1 H locs ls hf hP hS hl
    have hf : (if ((1024 : Int32)) ≤ x1 then b_M_X11_laysBack__0_151 t else b_M_X11_laysBack__0_133 (b_M_X11_laysBack__0_124 n) t x1) = some u := hf
    refine lv_iload_n hx hb dX11_laysBack_124 rfl (lv_at hl 1 rfl) ?_
    refine lv_aload_n hx hb dX11_laysBack_125 rfl (lv_at hl 0 rfl) ?_
    refine va_get (D := D) (ci := 11) (v := .ref (a 8)) (C := RX11) (T := TX11) (N := 76) hx hb hts inX11 hown hK hP 0 (heM_0 ca a t) rfl 7 (by decide) (hts _ kw_1199) (fun _ h9 => h9) rfl dX11_laysBack_126 ?_
    refine va_alen (v := 1024) hx hb hK hP 8 0 (haM_8 ca a t) rfl rfl dX11_laysBack_129 ?_
    refine lv_icmp_ge (tgt := 151) hx hb dX11_laysBack_130 (by decide) (fun h_130 => ?_) (fun h_130 => ?_)
    · have hf := fb_t h_130 hf
      exact w_M_X11_laysBack__0_151 C hr hf hP hS (lv_sub hl [] rfl)
    · have hf := fb_f h_130 hf
      exact w_M_X11_laysBack__0_133 C hr hk124 hf hP hS (lv_sub hl [0, 1] rfl)
set_option maxRecDepth 20000 in
theorem w_M_X11_laysBack__0_122 {p : Program} {l : Launch} {e : Env} {s : State} {m : MethodId} {args : Array Value} {below : List Frame} {meth : Method} {c : Code} {A : Nat → Prop} {Q : State → Prop} {D : va_G} {ca : Nat → ClassId} {a : Nat → Nat} {u : fw_S}  (C : CX (WM ca a) D (tyv ca) p s m args c A prog_13_method_32_code 2 RX11) (hr : True → RX (WM ca a) D p l e rm_M_X11_laysBack__0 s m args below meth c A prog_13_method_32_code Q .return_ [] u) {t : fw_S}  {H : Heap} {locs : List Loc} {ls : Array Slot} (hf : b_M_X11_laysBack__0_122  t  = some u) (hP : va_P D classes (WM ca a t) H) (hS : va_S A s.heap H locs) (hl : lv_has ls 2 [(0, .ref (a 0))]) : W p l e rm_M_X11_laysBack__0 s m args below meth c H locs 0 0 Q (F0 m 122 ls []) := by
  obtain ⟨hx, hb, hml, hown, hts, hN, hK, hD, hA⟩ := id C
  have hf : (b_M_X11_laysBack__0_124 3000 t ((0 : Int32))) = some u := hf
  refine lv_iconst (v := 0) hx hb dX11_laysBack_122 (by decide) ?_
  refine lv_istore_n (lv' := [(1, .int ((0 : Int32))), (0, .ref (a 0))]) hx hb dX11_laysBack_123 rfl hl (by decide) rfl (fun ls hl => ?_)
  exact w_M_X11_laysBack__0_124 C hr 3000 t ((0 : Int32)) _ _ _ hf hP hS (lv_sub hl [1, 0] rfl)
set_option maxRecDepth 20000 in
theorem w_M_X11_laysBack__0_8 {p : Program} {l : Launch} {e : Env} {s : State} {m : MethodId} {args : Array Value} {below : List Frame} {meth : Method} {c : Code} {A : Nat → Prop} {Q : State → Prop} {D : va_G} {ca : Nat → ClassId} {a : Nat → Nat} {u : fw_S} {k2 : fw_S → Int32 → Option fw_S} (C : CX (WM ca a) D (tyv ca) p s m args c A prog_13_method_32_code 2 RX11) (hr : True → RX (WM ca a) D p l e rm_M_X11_laysBack__0 s m args below meth c A prog_13_method_32_code Q .return_ [] u) (hk2 : ∀ (t : fw_S) (x1 : Int32) (H : Heap) (locs : List Loc) (ls : Array Slot), k2 t x1 = some u → va_P D classes (WM ca a t) H → va_S A s.heap H locs → lv_has ls 2 [(0, .ref (a 0)), (1, .int x1)] → W p l e rm_M_X11_laysBack__0 s m args below meth c H locs 0 0 Q (F0 m 2 ls [])) {t : fw_S} {x1 : Int32} {H : Heap} {locs : List Loc} {ls : Array Slot} (hf : b_M_X11_laysBack__0_8 k2 t x1 = some u) (hP : va_P D classes (WM ca a t) H) (hS : va_S A s.heap H locs) (hl : lv_has ls 2 [(0, .ref (a 0)), (1, .int x1)]) : W p l e rm_M_X11_laysBack__0 s m args below meth c H locs 0 0 Q (F0 m 8 ls []) := by
  obtain ⟨hx, hb, hml, hown, hts, hN, hK, hD, hA⟩ := id C
  have hf : (fb_g (¬ (x1 < 0 ∨ 32 ≤ x1.toNatClampNeg)) (fb_g (¬ (x1 < 0 ∨ 32 ≤ x1.toNatClampNeg)) (fb_l (up_F t 0 (upd (st_F t 0) x1.toNatClampNeg (st_F t 19 x1.toNatClampNeg))) fun t_1 => (fb_g (¬ (x1 < 0 ∨ 32 ≤ x1.toNatClampNeg)) (fb_g (¬ (x1 < 0 ∨ 32 ≤ x1.toNatClampNeg)) (fb_l (up_F t_1 1 (upd (st_F t_1 1) x1.toNatClampNeg (st_F t_1 20 x1.toNatClampNeg))) fun t_2 => (fb_g (¬ (x1 < 0 ∨ 32 ≤ x1.toNatClampNeg)) (fb_g (¬ (x1 < 0 ∨ 32 ≤ x1.toNatClampNeg)) (fb_l (up_F t_2 2 (upd (st_F t_2 2) x1.toNatClampNeg (st_F t_2 21 x1.toNatClampNeg))) fun t_3 => (fb_g (¬ (x1 < 0 ∨ 32 ≤ x1.toNatClampNeg)) (fb_g (¬ (x1 < 0 ∨ 32 ≤ x1.toNatClampNeg)) (fb_l (up_F t_3 3 (upd (st_F t_3 3) x1.toNatClampNeg (st_F t_3 22 x1.toNatClampNeg))) fun t_4 => (fb_g (¬ (x1 < 0 ∨ 32 ≤ x1.toNatClampNeg)) (fb_g (¬ (x1 < 0 ∨ 32 ≤ x1.toNatClampNeg)) (fb_l (up_F t_4 4 (upd (st_F t_4 4) x1.toNatClampNeg (st_F t_4 23 x1.toNatClampNeg))) fun t_5 => (fb_g (¬ (x1 < 0 ∨ 32 ≤ x1.toNatClampNeg)) (fb_g (¬ (x1 < 0 ∨ 32 ≤ x1.toNatClampNeg)) (fb_l (up_F t_5 5 (upd (st_F t_5 5) x1.toNatClampNeg (st_F t_5 24 x1.toNatClampNeg))) fun t_6 => (fb_g (¬ (x1 < 0 ∨ 32 ≤ x1.toNatClampNeg)) (fb_g (¬ (x1 < 0 ∨ 32 ≤ x1.toNatClampNeg)) (fb_l (up_G t_6 0 (vp_updL (st_G t_6 0) x1.toNatClampNeg (st_G t_6 3 x1.toNatClampNeg))) fun t_7 => (fb_g (¬ (x1 < 0 ∨ 32 ≤ x1.toNatClampNeg)) (fb_g (¬ (x1 < 0 ∨ 32 ≤ x1.toNatClampNeg)) (fb_l (up_F t_7 7 (upd (st_F t_7 7) x1.toNatClampNeg (vp_nar .boolean (st_F t_7 26 x1.toNatClampNeg)))) fun t_8 => (fb_g (¬ (x1 < 0 ∨ 32 ≤ x1.toNatClampNeg)) (fb_g (¬ (x1 < 0 ∨ 32 ≤ x1.toNatClampNeg)) (fb_l (up_F t_8 8 (upd (st_F t_8 8) x1.toNatClampNeg (vp_nar .boolean (st_F t_8 27 x1.toNatClampNeg)))) fun t_9 => (k2 t_9 (x1 + 1))))))))))))))))))))))))))))) = some u := hf
  refine lv_aload_n hx hb dX11_laysBack_8 rfl (lv_at hl 0 rfl) ?_
  refine va_get (D := D) (ci := 11) (v := .ref (a 1)) (C := RX11) (T := TX11) (N := 76) hx hb hts inX11 hown hK hP 0 (heM_0 ca a t) rfl 0 (by decide) (hts _ kw_1192) (fun _ h9 => h9) rfl dX11_laysBack_9 ?_
  refine lv_iload_n hx hb dX11_laysBack_12 rfl (lv_at hl 1 rfl) ?_
  refine lv_aload_n hx hb dX11_laysBack_13 rfl (lv_at hl 0 rfl) ?_
  refine va_get (D := D) (ci := 11) (v := .ref (a 23)) (C := RX11) (T := TX11) (N := 76) hx hb hts inX11 hown hK hP 0 (heM_0 ca a t) rfl 23 (by decide) (hts _ kw_1215) (fun _ h9 => h9) rfl dX11_laysBack_14 ?_
  refine lv_iload_n hx hb dX11_laysBack_17 rfl (lv_at hl 1 rfl) ?_
  obtain ⟨h_18, hf⟩ := fb_if hf
  refine va_iald hx hb hK hP 23 0 (haM_23 ca a t) rfl h_18 dX11_laysBack_18 ?_
  obtain ⟨h_19, hf⟩ := fb_if hf
  refine va_iast hx hb hK hP (hD t) hS 1 0 (haM_1 ca a t) rfl h_19 dX11_laysBack_19 (fun H locs hP _ hS => ?_)
  rw [saM_1] at hP
  obtain ⟨t_1, e_19, hf⟩ := fb_ls hf
  rw [← e_19] at hP
  refine lv_aload_n hx hb dX11_laysBack_20 rfl (lv_at hl 0 rfl) ?_
  refine va_get (D := D) (ci := 11) (v := .ref (a 2)) (C := RX11) (T := TX11) (N := 76) hx hb hts inX11 hown hK hP 0 (heM_0 ca a t_1) rfl 1 (by decide) (hts _ kw_1193) (fun _ h9 => h9) rfl dX11_laysBack_21 ?_
  refine lv_iload_n hx hb dX11_laysBack_24 rfl (lv_at hl 1 rfl) ?_
  refine lv_aload_n hx hb dX11_laysBack_25 rfl (lv_at hl 0 rfl) ?_
  refine va_get (D := D) (ci := 11) (v := .ref (a 24)) (C := RX11) (T := TX11) (N := 76) hx hb hts inX11 hown hK hP 0 (heM_0 ca a t_1) rfl 24 (by decide) (hts _ kw_1216) (fun _ h9 => h9) rfl dX11_laysBack_26 ?_
  refine lv_iload_n hx hb dX11_laysBack_29 rfl (lv_at hl 1 rfl) ?_
  obtain ⟨h_30, hf⟩ := fb_if hf
  refine va_iald hx hb hK hP 24 0 (haM_24 ca a t_1) rfl h_30 dX11_laysBack_30 ?_
  obtain ⟨h_31, hf⟩ := fb_if hf
  refine va_iast hx hb hK hP (hD t_1) hS 2 0 (haM_2 ca a t_1) rfl h_31 dX11_laysBack_31 (fun H locs hP _ hS => ?_)
  rw [saM_2] at hP
  obtain ⟨t_2, e_31, hf⟩ := fb_ls hf
  rw [← e_31] at hP
  refine lv_aload_n hx hb dX11_laysBack_32 rfl (lv_at hl 0 rfl) ?_
  refine va_get (D := D) (ci := 11) (v := .ref (a 3)) (C := RX11) (T := TX11) (N := 76) hx hb hts inX11 hown hK hP 0 (heM_0 ca a t_2) rfl 2 (by decide) (hts _ kw_1194) (fun _ h9 => h9) rfl dX11_laysBack_33 ?_
  refine lv_iload_n hx hb dX11_laysBack_36 rfl (lv_at hl 1 rfl) ?_
  refine lv_aload_n hx hb dX11_laysBack_37 rfl (lv_at hl 0 rfl) ?_
  refine va_get (D := D) (ci := 11) (v := .ref (a 25)) (C := RX11) (T := TX11) (N := 76) hx hb hts inX11 hown hK hP 0 (heM_0 ca a t_2) rfl 25 (by decide) (hts _ kw_1217) (fun _ h9 => h9) rfl dX11_laysBack_38 ?_
  refine lv_iload_n hx hb dX11_laysBack_41 rfl (lv_at hl 1 rfl) ?_
  obtain ⟨h_42, hf⟩ := fb_if hf
  refine va_iald hx hb hK hP 25 0 (haM_25 ca a t_2) rfl h_42 dX11_laysBack_42 ?_
  obtain ⟨h_43, hf⟩ := fb_if hf
  refine va_iast hx hb hK hP (hD t_2) hS 3 0 (haM_3 ca a t_2) rfl h_43 dX11_laysBack_43 (fun H locs hP _ hS => ?_)
  rw [saM_3] at hP
  obtain ⟨t_3, e_43, hf⟩ := fb_ls hf
  rw [← e_43] at hP
  refine lv_aload_n hx hb dX11_laysBack_44 rfl (lv_at hl 0 rfl) ?_
  refine va_get (D := D) (ci := 11) (v := .ref (a 4)) (C := RX11) (T := TX11) (N := 76) hx hb hts inX11 hown hK hP 0 (heM_0 ca a t_3) rfl 3 (by decide) (hts _ kw_1195) (fun _ h9 => h9) rfl dX11_laysBack_45 ?_
  refine lv_iload_n hx hb dX11_laysBack_48 rfl (lv_at hl 1 rfl) ?_
  refine lv_aload_n hx hb dX11_laysBack_49 rfl (lv_at hl 0 rfl) ?_
  refine va_get (D := D) (ci := 11) (v := .ref (a 26)) (C := RX11) (T := TX11) (N := 76) hx hb hts inX11 hown hK hP 0 (heM_0 ca a t_3) rfl 26 (by decide) (hts _ kw_1218) (fun _ h9 => h9) rfl dX11_laysBack_50 ?_
  refine lv_iload_n hx hb dX11_laysBack_53 rfl (lv_at hl 1 rfl) ?_
  obtain ⟨h_54, hf⟩ := fb_if hf
  refine va_iald hx hb hK hP 26 0 (haM_26 ca a t_3) rfl h_54 dX11_laysBack_54 ?_
  obtain ⟨h_55, hf⟩ := fb_if hf
  refine va_iast hx hb hK hP (hD t_3) hS 4 0 (haM_4 ca a t_3) rfl h_55 dX11_laysBack_55 (fun H locs hP _ hS => ?_)
  rw [saM_4] at hP
  obtain ⟨t_4, e_55, hf⟩ := fb_ls hf
  rw [← e_55] at hP
  refine lv_aload_n hx hb dX11_laysBack_56 rfl (lv_at hl 0 rfl) ?_
  refine va_get (D := D) (ci := 11) (v := .ref (a 5)) (C := RX11) (T := TX11) (N := 76) hx hb hts inX11 hown hK hP 0 (heM_0 ca a t_4) rfl 4 (by decide) (hts _ kw_1196) (fun _ h9 => h9) rfl dX11_laysBack_57 ?_
  refine lv_iload_n hx hb dX11_laysBack_60 rfl (lv_at hl 1 rfl) ?_
  refine lv_aload_n hx hb dX11_laysBack_61 rfl (lv_at hl 0 rfl) ?_
  refine va_get (D := D) (ci := 11) (v := .ref (a 27)) (C := RX11) (T := TX11) (N := 76) hx hb hts inX11 hown hK hP 0 (heM_0 ca a t_4) rfl 27 (by decide) (hts _ kw_1219) (fun _ h9 => h9) rfl dX11_laysBack_62 ?_
  refine lv_iload_n hx hb dX11_laysBack_65 rfl (lv_at hl 1 rfl) ?_
  obtain ⟨h_66, hf⟩ := fb_if hf
  refine va_iald hx hb hK hP 27 0 (haM_27 ca a t_4) rfl h_66 dX11_laysBack_66 ?_
  obtain ⟨h_67, hf⟩ := fb_if hf
  refine va_iast hx hb hK hP (hD t_4) hS 5 0 (haM_5 ca a t_4) rfl h_67 dX11_laysBack_67 (fun H locs hP _ hS => ?_)
  rw [saM_5] at hP
  obtain ⟨t_5, e_67, hf⟩ := fb_ls hf
  rw [← e_67] at hP
  refine lv_aload_n hx hb dX11_laysBack_68 rfl (lv_at hl 0 rfl) ?_
  refine va_get (D := D) (ci := 11) (v := .ref (a 6)) (C := RX11) (T := TX11) (N := 76) hx hb hts inX11 hown hK hP 0 (heM_0 ca a t_5) rfl 5 (by decide) (hts _ kw_1197) (fun _ h9 => h9) rfl dX11_laysBack_69 ?_
  refine lv_iload_n hx hb dX11_laysBack_72 rfl (lv_at hl 1 rfl) ?_
  refine lv_aload_n hx hb dX11_laysBack_73 rfl (lv_at hl 0 rfl) ?_
  refine va_get (D := D) (ci := 11) (v := .ref (a 28)) (C := RX11) (T := TX11) (N := 76) hx hb hts inX11 hown hK hP 0 (heM_0 ca a t_5) rfl 28 (by decide) (hts _ kw_1220) (fun _ h9 => h9) rfl dX11_laysBack_74 ?_
  refine lv_iload_n hx hb dX11_laysBack_77 rfl (lv_at hl 1 rfl) ?_
  obtain ⟨h_78, hf⟩ := fb_if hf
  refine va_iald hx hb hK hP 28 0 (haM_28 ca a t_5) rfl h_78 dX11_laysBack_78 ?_
  obtain ⟨h_79, hf⟩ := fb_if hf
  refine va_iast hx hb hK hP (hD t_5) hS 6 0 (haM_6 ca a t_5) rfl h_79 dX11_laysBack_79 (fun H locs hP _ hS => ?_)
  rw [saM_6] at hP
  obtain ⟨t_6, e_79, hf⟩ := fb_ls hf
  rw [← e_79] at hP
  refine lv_aload_n hx hb dX11_laysBack_80 rfl (lv_at hl 0 rfl) ?_
  refine va_get (D := D) (ci := 11) (v := .ref (a 7)) (C := RX11) (T := TX11) (N := 76) hx hb hts inX11 hown hK hP 0 (heM_0 ca a t_6) rfl 6 (by decide) (hts _ kw_1198) (fun _ h9 => h9) rfl dX11_laysBack_81 ?_
  refine lv_iload_n hx hb dX11_laysBack_84 rfl (lv_at hl 1 rfl) ?_
  refine lv_aload_n hx hb dX11_laysBack_85 rfl (lv_at hl 0 rfl) ?_
  refine va_get (D := D) (ci := 11) (v := .ref (a 30)) (C := RX11) (T := TX11) (N := 76) hx hb hts inX11 hown hK hP 0 (heM_0 ca a t_6) rfl 30 (by decide) (hts _ kw_1222) (fun _ h9 => h9) rfl dX11_laysBack_86 ?_
  refine lv_iload_n hx hb dX11_laysBack_89 rfl (lv_at hl 1 rfl) ?_
  obtain ⟨h_90, hf⟩ := fb_if hf
  refine va_lald hx hb hK hP 30 1 (haM_30 ca a t_6) rfl h_90 dX11_laysBack_90 ?_
  obtain ⟨h_91, hf⟩ := fb_if hf
  refine va_last hx hb hK hP (hD t_6) hS 7 1 (haM_7 ca a t_6) rfl h_91 dX11_laysBack_91 (fun H locs hP _ hS => ?_)
  rw [saM_7] at hP
  obtain ⟨t_7, e_91, hf⟩ := fb_ls hf
  rw [← e_91] at hP
  refine lv_aload_n hx hb dX11_laysBack_92 rfl (lv_at hl 0 rfl) ?_
  refine va_get (D := D) (ci := 11) (v := .ref (a 9)) (C := RX11) (T := TX11) (N := 76) hx hb hts inX11 hown hK hP 0 (heM_0 ca a t_7) rfl 8 (by decide) (hts _ kw_1200) (fun _ h9 => h9) rfl dX11_laysBack_93 ?_
  refine lv_iload_n hx hb dX11_laysBack_96 rfl (lv_at hl 1 rfl) ?_
  refine lv_aload_n hx hb dX11_laysBack_97 rfl (lv_at hl 0 rfl) ?_
  refine va_get (D := D) (ci := 11) (v := .ref (a 31)) (C := RX11) (T := TX11) (N := 76) hx hb hts inX11 hown hK hP 0 (heM_0 ca a t_7) rfl 31 (by decide) (hts _ kw_1223) (fun _ h9 => h9) rfl dX11_laysBack_98 ?_
  refine lv_iload_n hx hb dX11_laysBack_101 rfl (lv_at hl 1 rfl) ?_
  obtain ⟨h_102, hf⟩ := fb_if hf
  refine va_zald hx hb hK hP 31 2 (haM_31 ca a t_7) rfl h_102 dX11_laysBack_102 ?_
  obtain ⟨h_103, hf⟩ := fb_if hf
  refine va_zast hx hb hK hP (hD t_7) hS 9 2 (haM_9 ca a t_7) rfl h_103 dX11_laysBack_103 (fun H locs hP _ hS => ?_)
  rw [saM_9] at hP
  obtain ⟨t_8, e_103, hf⟩ := fb_ls hf
  rw [← e_103] at hP
  refine lv_aload_n hx hb dX11_laysBack_104 rfl (lv_at hl 0 rfl) ?_
  refine va_get (D := D) (ci := 11) (v := .ref (a 10)) (C := RX11) (T := TX11) (N := 76) hx hb hts inX11 hown hK hP 0 (heM_0 ca a t_8) rfl 9 (by decide) (hts _ kw_1201) (fun _ h9 => h9) rfl dX11_laysBack_105 ?_
  refine lv_iload_n hx hb dX11_laysBack_108 rfl (lv_at hl 1 rfl) ?_
  refine lv_aload_n hx hb dX11_laysBack_109 rfl (lv_at hl 0 rfl) ?_
  refine va_get (D := D) (ci := 11) (v := .ref (a 32)) (C := RX11) (T := TX11) (N := 76) hx hb hts inX11 hown hK hP 0 (heM_0 ca a t_8) rfl 32 (by decide) (hts _ kw_1224) (fun _ h9 => h9) rfl dX11_laysBack_110 ?_
  refine lv_iload_n hx hb dX11_laysBack_113 rfl (lv_at hl 1 rfl) ?_
  obtain ⟨h_114, hf⟩ := fb_if hf
  refine va_zald hx hb hK hP 32 2 (haM_32 ca a t_8) rfl h_114 dX11_laysBack_114 ?_
  obtain ⟨h_115, hf⟩ := fb_if hf
  refine va_zast hx hb hK hP (hD t_8) hS 10 2 (haM_10 ca a t_8) rfl h_115 dX11_laysBack_115 (fun H locs hP _ hS => ?_)
  rw [saM_10] at hP
  obtain ⟨t_9, e_115, hf⟩ := fb_ls hf
  rw [← e_115] at hP
  refine lv_iinc (v := x1 + 1) (lv' := [(1, .int (x1 + 1)), (0, .ref (a 0))]) hx hb dX11_laysBack_116 hl (k := 1) rfl rfl (by decide) rfl (fun ls hl => ?_)
  refine lv_goto (tgt := 2) hx hb dX11_laysBack_119 (by decide) ?_
  exact hk2 t_9 (x1 + 1) _ _ _ hf hP hS (lv_sub hl [1, 0] rfl)
set_option maxRecDepth 20000 in
theorem w_M_X11_laysBack__0_2 {p : Program} {l : Launch} {e : Env} {s : State} {m : MethodId} {args : Array Value} {below : List Frame} {meth : Method} {c : Code} {A : Nat → Prop} {Q : State → Prop} {D : va_G} {ca : Nat → ClassId} {a : Nat → Nat} {u : fw_S}  (C : CX (WM ca a) D (tyv ca) p s m args c A prog_13_method_32_code 2 RX11) (hr : True → RX (WM ca a) D p l e rm_M_X11_laysBack__0 s m args below meth c A prog_13_method_32_code Q .return_ [] u) : ∀ (n : Nat) (t : fw_S) (x1 : Int32) (H : Heap) (locs : List Loc) (ls : Array Slot), b_M_X11_laysBack__0_2  n t x1 = some u → va_P D classes (WM ca a t) H → va_S A s.heap H locs → lv_has ls 2 [(0, .ref (a 0)), (1, .int x1)] → W p l e rm_M_X11_laysBack__0 s m args below meth c H locs 0 0 Q (F0 m 2 ls []) := by
  obtain ⟨hx, hb, hml, hown, hts, hN, hK, hD, hA⟩ := id C
  intro n
  induction n with
  | zero => intro t x1 H locs ls hf; cases hf
  | succ n hk2 =>
    intro t x1 H locs ls hf hP hS hl
    have hf : (if ((32 : Int32)) ≤ x1 then b_M_X11_laysBack__0_122 t else b_M_X11_laysBack__0_8 (b_M_X11_laysBack__0_2 n) t x1) = some u := hf
    refine lv_iload_n hx hb dX11_laysBack_2 rfl (lv_at hl 1 rfl) ?_
    refine lv_bipush (v := 32) hx hb dX11_laysBack_3 (by decide) ?_
    refine lv_icmp_ge (tgt := 122) hx hb dX11_laysBack_5 (by decide) (fun h_5 => ?_) (fun h_5 => ?_)
    · have hf := fb_t h_5 hf
      exact w_M_X11_laysBack__0_122 C hr hf hP hS (lv_sub hl [0] rfl)
    · have hf := fb_f h_5 hf
      exact w_M_X11_laysBack__0_8 C hr hk2 hf hP hS (lv_sub hl [0, 1] rfl)
set_option maxRecDepth 20000 in
theorem w_M_X11_laysBack__0_0 {p : Program} {l : Launch} {e : Env} {s : State} {m : MethodId} {args : Array Value} {below : List Frame} {meth : Method} {c : Code} {A : Nat → Prop} {Q : State → Prop} {D : va_G} {ca : Nat → ClassId} {a : Nat → Nat} {u : fw_S}  (C : CX (WM ca a) D (tyv ca) p s m args c A prog_13_method_32_code 2 RX11) (hr : True → RX (WM ca a) D p l e rm_M_X11_laysBack__0 s m args below meth c A prog_13_method_32_code Q .return_ [] u) {t : fw_S}  {H : Heap} {locs : List Loc} {ls : Array Slot} (hf : b_M_X11_laysBack__0_0  t  = some u) (hP : va_P D classes (WM ca a t) H) (hS : va_S A s.heap H locs) (hl : lv_has ls 2 [(0, .ref (a 0))]) : W p l e rm_M_X11_laysBack__0 s m args below meth c H locs 0 0 Q (F0 m 0 ls []) := by
  obtain ⟨hx, hb, hml, hown, hts, hN, hK, hD, hA⟩ := id C
  have hf : (b_M_X11_laysBack__0_2 3000 t ((0 : Int32))) = some u := hf
  refine lv_iconst (v := 0) hx hb dX11_laysBack_0 (by decide) ?_
  refine lv_istore_n (lv' := [(1, .int ((0 : Int32))), (0, .ref (a 0))]) hx hb dX11_laysBack_1 rfl hl (by decide) rfl (fun ls hl => ?_)
  exact w_M_X11_laysBack__0_2 C hr 3000 t ((0 : Int32)) _ _ _ hf hP hS (lv_sub hl [1, 0] rfl)
set_option maxRecDepth 20000 in
theorem c_M_X11_laysBack__0 {l : Launch} {D : va_G} {ca : Nat → ClassId} {a : Nat → Nat} {t : fw_S}  {u : fw_S} (hf : f_M_X11_laysBack__0 t  = some u) : MC (WM ca a) D (tyv ca) l yX11_laysBack (.code yX11_laysBack prog_13_method_32_code 2 none :: lw_gd) rm_M_X11_laysBack__0 [.ref (a 0)] none t u := by
  refine fw_met (okM ca a) (by decide +kernel) rfl rfl (Nat.le_of_ble_eq_true rfl) ?_
  intro p e s m args below meth c A Q ls C hr hk hP hS hl hQ
  exact w_M_X11_laysBack__0_0 C (fun _ => fw_rv C hr hk hQ) hf hP hS (lv_sub hl [0] rfl)
/-! ReactiveSheetModel.undoes()V ['m'] -/
abbrev rm_M_X11_undoes__0 : Room := { frames := 2, cells := 0, slots := 0, locals := 41 }
def b_M_X11_undoes__0_0  (t : fw_S)  : Option fw_S := fb_v (f_M_X11_swaps__0 t) fun t_1 => (fb_v (f_M_X11_laysBack__0 t_1) fun t_2 => (some t_2))
def f_M_X11_undoes__0 (t : fw_S)  : Option fw_S := b_M_X11_undoes__0_0 t 
set_option maxRecDepth 20000 in
theorem w_M_X11_undoes__0_0 {p : Program} {l : Launch} {e : Env} {s : State} {m : MethodId} {args : Array Value} {below : List Frame} {meth : Method} {c : Code} {A : Nat → Prop} {Q : State → Prop} {D : va_G} {ca : Nat → ClassId} {a : Nat → Nat} {u : fw_S}  (C : CX (WM ca a) D (tyv ca) p s m args c A prog_13_method_36_code 1 RX11) (hr : True → RX (WM ca a) D p l e rm_M_X11_undoes__0 s m args below meth c A prog_13_method_36_code Q .return_ [] u) {t : fw_S}  {H : Heap} {locs : List Loc} {ls : Array Slot} (hf : b_M_X11_undoes__0_0  t  = some u) (hP : va_P D classes (WM ca a t) H) (hS : va_S A s.heap H locs) (hl : lv_has ls 1 [(0, .ref (a 0))]) : W p l e rm_M_X11_undoes__0 s m args below meth c H locs 0 0 Q (F0 m 0 ls []) := by
  obtain ⟨hx, hb, hml, hown, hts, hN, hK, hD, hA⟩ := id C
  have hf : (fb_v (f_M_X11_swaps__0 t) fun t_1 => (fb_v (f_M_X11_laysBack__0 t_1) fun t_2 => (some t_2))) = some u := hf
  refine lv_aload_n hx hb dX11_undoes_0 rfl (lv_at hl 0 rfl) ?_
  obtain ⟨t_1, g_1, hf⟩ := fb_vs hf
  refine fw_V1 (As := []) (rest := []) (n := 0) (q0 := 0) C (c_M_X11_swaps__0 (l := l) (D := D) (ca := ca) (a := a) g_1) kw_1464 kw_1466 kw_102 kw_1467 kw_50 hP hS hl (heM_0 ca a t) rfl rfl rfl (by decide) (by decide +kernel) ⟨Nat.le_of_ble_eq_true rfl, Nat.le_of_ble_eq_true rfl⟩ rfl rfl (Nat.le_of_ble_eq_true rfl) dX11_undoes_1 (fun H locs hP hS => ?_)
  refine W.eq (g2 := F0 m 4 ls []) rfl ?_
  refine lv_aload_n hx hb dX11_undoes_4 rfl (lv_at hl 0 rfl) ?_
  obtain ⟨t_2, g_5, hf⟩ := fb_vs hf
  refine fw_V1 (As := []) (rest := []) (n := 0) (q0 := 0) C (c_M_X11_laysBack__0 (l := l) (D := D) (ca := ca) (a := a) g_5) kw_1519 kw_1521 kw_102 kw_1522 kw_61 hP hS hl (heM_0 ca a t_1) rfl rfl rfl (by decide) (by decide +kernel) ⟨Nat.le_of_ble_eq_true rfl, Nat.le_of_ble_eq_true rfl⟩ rfl rfl (Nat.le_of_ble_eq_true rfl) dX11_undoes_5 (fun H locs hP hS => ?_)
  refine W.eq (g2 := F0 m 8 ls []) rfl ?_
  have e_8 := fb_ev hf
  subst e_8
  exact hr trivial _ _ _ _ hP hS dX11_undoes_8
set_option maxRecDepth 20000 in
theorem c_M_X11_undoes__0 {l : Launch} {D : va_G} {ca : Nat → ClassId} {a : Nat → Nat} {t : fw_S}  {u : fw_S} (hf : f_M_X11_undoes__0 t  = some u) : MC (WM ca a) D (tyv ca) l yX11_undoes (.code yX11_undoes prog_13_method_36_code 1 none :: lw_gd) rm_M_X11_undoes__0 [.ref (a 0)] none t u := by
  refine fw_met (okM ca a) (by decide +kernel) rfl rfl (Nat.le_of_ble_eq_true rfl) ?_
  intro p e s m args below meth c A Q ls C hr hk hP hS hl hQ
  exact w_M_X11_undoes__0_0 C (fun _ => fw_rv C hr hk hQ) hf hP hS (lv_sub hl [0] rfl)
/-! java/lang/Math.min(II)I [] -/
abbrev rm_M_J9_min_7cf53 : Room := { frames := 0, cells := 0, slots := 0, locals := 0 }
def b_M_J9_min_7cf53_10  (t : fw_S) (z0 : Int32) : Option (Int32 × fw_S) := some (z0, t)
def b_M_J9_min_7cf53_9  (t : fw_S) (x1 : Int32) : Option (Int32 × fw_S) := b_M_J9_min_7cf53_10 t x1
def b_M_J9_min_7cf53_5  (t : fw_S) (x0 : Int32) : Option (Int32 × fw_S) := b_M_J9_min_7cf53_10 t x0
def b_M_J9_min_7cf53_0  (t : fw_S) (x0 : Int32) (x1 : Int32) : Option (Int32 × fw_S) := if x1 < x0 then b_M_J9_min_7cf53_9 t x1 else b_M_J9_min_7cf53_5 t x0
def f_M_J9_min_7cf53 (t : fw_S) (x0 : Int32) (x1 : Int32) : Option (Int32 × fw_S) := b_M_J9_min_7cf53_0 t x0 x1
set_option maxRecDepth 20000 in
theorem w_M_J9_min_7cf53_10 {p : Program} {l : Launch} {e : Env} {s : State} {m : MethodId} {args : Array Value} {below : List Frame} {meth : Method} {c : Code} {A : Nat → Prop} {Q : State → Prop} {D : va_G} {ca : Nat → ClassId} {a : Nat → Nat} {u : fw_S} {r : Int32}  (C : CX (WM ca a) D (tyv ca) p s m args c A prog_16_method_69_code 2 RJ9) (hr : True → RX (WM ca a) D p l e rm_M_J9_min_7cf53 s m args below meth c A prog_16_method_69_code Q .ireturn [.int r] u) {t : fw_S} {z0 : Int32} {H : Heap} {locs : List Loc} {ls : Array Slot} (hf : b_M_J9_min_7cf53_10  t z0 = some (r, u)) (hP : va_P D classes (WM ca a t) H) (hS : va_S A s.heap H locs) (hl : lv_has ls 2 []) : W p l e rm_M_J9_min_7cf53 s m args below meth c H locs 0 0 Q (F0 m 10 ls [.int z0]) := by
  obtain ⟨hx, hb, hml, hown, hts, hN, hK, hD, hA⟩ := id C
  have hf : (some (z0, t)) = some (r, u) := hf
  obtain ⟨e_10, e2_10⟩ := fb_e hf
  subst e_10; subst e2_10
  exact hr trivial _ _ _ _ hP hS dJ9_min_7cf53_10
set_option maxRecDepth 20000 in
theorem w_M_J9_min_7cf53_9 {p : Program} {l : Launch} {e : Env} {s : State} {m : MethodId} {args : Array Value} {below : List Frame} {meth : Method} {c : Code} {A : Nat → Prop} {Q : State → Prop} {D : va_G} {ca : Nat → ClassId} {a : Nat → Nat} {u : fw_S} {r : Int32}  (C : CX (WM ca a) D (tyv ca) p s m args c A prog_16_method_69_code 2 RJ9) (hr : True → RX (WM ca a) D p l e rm_M_J9_min_7cf53 s m args below meth c A prog_16_method_69_code Q .ireturn [.int r] u) {t : fw_S} {x1 : Int32} {H : Heap} {locs : List Loc} {ls : Array Slot} (hf : b_M_J9_min_7cf53_9  t x1 = some (r, u)) (hP : va_P D classes (WM ca a t) H) (hS : va_S A s.heap H locs) (hl : lv_has ls 2 [(1, .int x1)]) : W p l e rm_M_J9_min_7cf53 s m args below meth c H locs 0 0 Q (F0 m 9 ls []) := by
  obtain ⟨hx, hb, hml, hown, hts, hN, hK, hD, hA⟩ := id C
  have hf : (b_M_J9_min_7cf53_10 t x1) = some (r, u) := hf
  refine lv_iload_n hx hb dJ9_min_7cf53_9 rfl (lv_at hl 0 rfl) ?_
  exact w_M_J9_min_7cf53_10 C hr hf hP hS (lv_sub hl [] rfl)
set_option maxRecDepth 20000 in
theorem w_M_J9_min_7cf53_5 {p : Program} {l : Launch} {e : Env} {s : State} {m : MethodId} {args : Array Value} {below : List Frame} {meth : Method} {c : Code} {A : Nat → Prop} {Q : State → Prop} {D : va_G} {ca : Nat → ClassId} {a : Nat → Nat} {u : fw_S} {r : Int32}  (C : CX (WM ca a) D (tyv ca) p s m args c A prog_16_method_69_code 2 RJ9) (hr : True → RX (WM ca a) D p l e rm_M_J9_min_7cf53 s m args below meth c A prog_16_method_69_code Q .ireturn [.int r] u) {t : fw_S} {x0 : Int32} {H : Heap} {locs : List Loc} {ls : Array Slot} (hf : b_M_J9_min_7cf53_5  t x0 = some (r, u)) (hP : va_P D classes (WM ca a t) H) (hS : va_S A s.heap H locs) (hl : lv_has ls 2 [(0, .int x0)]) : W p l e rm_M_J9_min_7cf53 s m args below meth c H locs 0 0 Q (F0 m 5 ls []) := by
  obtain ⟨hx, hb, hml, hown, hts, hN, hK, hD, hA⟩ := id C
  have hf : (b_M_J9_min_7cf53_10 t x0) = some (r, u) := hf
  refine lv_iload_n hx hb dJ9_min_7cf53_5 rfl (lv_at hl 0 rfl) ?_
  refine lv_goto (tgt := 10) hx hb dJ9_min_7cf53_6 (by decide) ?_
  exact w_M_J9_min_7cf53_10 C hr hf hP hS (lv_sub hl [] rfl)
set_option maxRecDepth 20000 in
theorem w_M_J9_min_7cf53_0 {p : Program} {l : Launch} {e : Env} {s : State} {m : MethodId} {args : Array Value} {below : List Frame} {meth : Method} {c : Code} {A : Nat → Prop} {Q : State → Prop} {D : va_G} {ca : Nat → ClassId} {a : Nat → Nat} {u : fw_S} {r : Int32}  (C : CX (WM ca a) D (tyv ca) p s m args c A prog_16_method_69_code 2 RJ9) (hr : True → RX (WM ca a) D p l e rm_M_J9_min_7cf53 s m args below meth c A prog_16_method_69_code Q .ireturn [.int r] u) {t : fw_S} {x0 : Int32} {x1 : Int32} {H : Heap} {locs : List Loc} {ls : Array Slot} (hf : b_M_J9_min_7cf53_0  t x0 x1 = some (r, u)) (hP : va_P D classes (WM ca a t) H) (hS : va_S A s.heap H locs) (hl : lv_has ls 2 [(0, .int x0), (1, .int x1)]) : W p l e rm_M_J9_min_7cf53 s m args below meth c H locs 0 0 Q (F0 m 0 ls []) := by
  obtain ⟨hx, hb, hml, hown, hts, hN, hK, hD, hA⟩ := id C
  have hf : (if x1 < x0 then b_M_J9_min_7cf53_9 t x1 else b_M_J9_min_7cf53_5 t x0) = some (r, u) := hf
  refine lv_iload_n hx hb dJ9_min_7cf53_0 rfl (lv_at hl 0 rfl) ?_
  refine lv_iload_n hx hb dJ9_min_7cf53_1 rfl (lv_at hl 1 rfl) ?_
  refine lv_icmp_gt (tgt := 9) hx hb dJ9_min_7cf53_2 (by decide) (fun h_2 => ?_) (fun h_2 => ?_)
  · have hf := fb_t h_2 hf
    exact w_M_J9_min_7cf53_9 C hr hf hP hS (lv_sub hl [1] rfl)
  · have hf := fb_f h_2 hf
    exact w_M_J9_min_7cf53_5 C hr hf hP hS (lv_sub hl [0] rfl)
set_option maxRecDepth 20000 in
theorem c_M_J9_min_7cf53 {l : Launch} {D : va_G} {ca : Nat → ClassId} {a : Nat → Nat} {t : fw_S} {x0 : Int32} {x1 : Int32} {u : fw_S} {r : Int32} (hf : f_M_J9_min_7cf53 t x0 x1 = some (r, u)) : MC (WM ca a) D (tyv ca) l yJ9_min_7cf53 (.code yJ9_min_7cf53 prog_16_method_69_code 2 (some .int) :: lw_gd) rm_M_J9_min_7cf53 [.int x0, .int x1] (some (.int r)) t u := by
  refine fw_met (okM ca a) (by decide +kernel) rfl rfl (Nat.le_of_ble_eq_true rfl) ?_
  intro p e s m args below meth c A Q ls C hr hk hP hS hl hQ
  exact w_M_J9_min_7cf53_0 C (fun _ => fw_ri C hr hk hQ) hf hP hS (lv_sub hl [0, 1] rfl)
