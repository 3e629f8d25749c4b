theorem dX11_asIf_0 : decode prog_13_method_64_code 0 = .ok (.aload_n 0, 1) := by decide +kernel
theorem dX11_asIf_1 : decode prog_13_method_64_code 1 = .ok (.invokevirtual 345, 3) := by decide +kernel
theorem dX11_asIf_4 : decode prog_13_method_64_code 4 = .ok (.aload_n 0, 1) := by decide +kernel
theorem dX11_asIf_5 : decode prog_13_method_64_code 5 = .ok (.iload_n 1, 1) := by decide +kernel
theorem dX11_asIf_6 : decode prog_13_method_64_code 6 = .ok (.iconst 1, 1) := by decide +kernel
theorem dX11_asIf_7 : decode prog_13_method_64_code 7 = .ok (.lload_n 2, 1) := by decide +kernel
theorem dX11_asIf_8 : decode prog_13_method_64_code 8 = .ok (.iconst 0, 1) := by decide +kernel
theorem dX11_asIf_9 : decode prog_13_method_64_code 9 = .ok (.invokevirtual 348, 3) := by decide +kernel
theorem dX11_asIf_12 : decode prog_13_method_64_code 12 = .ok (.aload_n 0, 1) := by decide +kernel
theorem dX11_asIf_13 : decode prog_13_method_64_code 13 = .ok (.invokevirtual 312, 3) := by decide +kernel
theorem dX11_asIf_16 : decode prog_13_method_64_code 16 = .ok (.istore 5, 2) := by decide +kernel
theorem dX11_asIf_18 : decode prog_13_method_64_code 18 = .ok (.aload_n 0, 1) := by decide +kernel
theorem dX11_asIf_19 : decode prog_13_method_64_code 19 = .ok (.aload_n 0, 1) := by decide +kernel
theorem dX11_asIf_20 : decode prog_13_method_64_code 20 = .ok (.getfield 30, 3) := by decide +kernel
theorem dX11_asIf_23 : decode prog_13_method_64_code 23 = .ok (.iload 4, 2) := by decide +kernel
theorem dX11_asIf_25 : decode prog_13_method_64_code 25 = .ok (.laload, 1) := by decide +kernel
theorem dX11_asIf_26 : decode prog_13_method_64_code 26 = .ok (.putfield 394, 3) := by decide +kernel
theorem dX11_asIf_29 : decode prog_13_method_64_code 29 = .ok (.aload_n 0, 1) := by decide +kernel
theorem dX11_asIf_30 : decode prog_13_method_64_code 30 = .ok (.aload_n 0, 1) := by decide +kernel
theorem dX11_asIf_31 : decode prog_13_method_64_code 31 = .ok (.getfield 15, 3) := by decide +kernel
theorem dX11_asIf_34 : decode prog_13_method_64_code 34 = .ok (.iload 4, 2) := by decide +kernel
theorem dX11_asIf_36 : decode prog_13_method_64_code 36 = .ok (.iaload, 1) := by decide +kernel
theorem dX11_asIf_37 : decode prog_13_method_64_code 37 = .ok (.putfield 398, 3) := by decide +kernel
theorem dX11_asIf_40 : decode prog_13_method_64_code 40 = .ok (.aload_n 0, 1) := by decide +kernel
theorem dX11_asIf_41 : decode prog_13_method_64_code 41 = .ok (.getfield 290, 3) := by decide +kernel
theorem dX11_asIf_44 : decode prog_13_method_64_code 44 = .ok (.istore 6, 2) := by decide +kernel
theorem dX11_asIf_46 : decode prog_13_method_64_code 46 = .ok (.aload_n 0, 1) := by decide +kernel
theorem dX11_asIf_47 : decode prog_13_method_64_code 47 = .ok (.invokevirtual 315, 3) := by decide +kernel
theorem dX11_asIf_50 : decode prog_13_method_64_code 50 = .ok (.iload 5, 2) := by decide +kernel
theorem dX11_asIf_52 : decode prog_13_method_64_code 52 = .ok (.ifCond .eq 8, 3) := by decide +kernel
theorem dX11_asIf_55 : decode prog_13_method_64_code 55 = .ok (.iload 6, 2) := by decide +kernel
theorem dX11_asIf_57 : decode prog_13_method_64_code 57 = .ok (.goto 5, 3) := by decide +kernel
theorem dX11_asIf_60 : decode prog_13_method_64_code 60 = .ok (.bipush (-7), 2) := by decide +kernel
theorem dX11_asIf_62 : decode prog_13_method_64_code 62 = .ok (.ireturn, 1) := by decide +kernel
theorem dX11_height_0 : decode prog_13_method_54_code 0 = .ok (.aload_n 0, 1) := by decide +kernel
theorem dX11_height_1 : decode prog_13_method_54_code 1 = .ok (.getfield 11, 3) := by decide +kernel
theorem dX11_height_4 : decode prog_13_method_54_code 4 = .ok (.iload_n 1, 1) := by decide +kernel
theorem dX11_height_5 : decode prog_13_method_54_code 5 = .ok (.iaload, 1) := by decide +kernel
theorem dX11_height_6 : decode prog_13_method_54_code 6 = .ok (.iconst 2, 1) := by decide +kernel
theorem dX11_height_7 : decode prog_13_method_54_code 7 = .ok (.if_icmp .eq 5, 3) := by decide +kernel
theorem dX11_height_10 : decode prog_13_method_54_code 10 = .ok (.iconst 0, 1) := by decide +kernel
theorem dX11_height_11 : decode prog_13_method_54_code 11 = .ok (.ireturn, 1) := by decide +kernel
theorem dX11_height_12 : decode prog_13_method_54_code 12 = .ok (.iconst 0, 1) := by decide +kernel
theorem dX11_height_13 : decode prog_13_method_54_code 13 = .ok (.istore_n 2, 1) := by decide +kernel
theorem dX11_height_14 : decode prog_13_method_54_code 14 = .ok (.iconst 0, 1) := by decide +kernel
theorem dX11_height_15 : decode prog_13_method_54_code 15 = .ok (.istore_n 3, 1) := by decide +kernel
theorem dX11_height_16 : decode prog_13_method_54_code 16 = .ok (.iload_n 3, 1) := by decide +kernel
theorem dX11_height_17 : decode prog_13_method_54_code 17 = .ok (.aload_n 0, 1) := by decide +kernel
theorem dX11_height_18 : decode prog_13_method_54_code 18 = .ok (.getfield 21, 3) := by decide +kernel
theorem dX11_height_21 : decode prog_13_method_54_code 21 = .ok (.iload_n 1, 1) := by decide +kernel
theorem dX11_height_22 : decode prog_13_method_54_code 22 = .ok (.iaload, 1) := by decide +kernel
theorem dX11_height_23 : decode prog_13_method_54_code 23 = .ok (.if_icmp .ge 30, 3) := by decide +kernel
theorem dX11_height_26 : decode prog_13_method_54_code 26 = .ok (.iload_n 2, 1) := by decide +kernel
theorem dX11_height_27 : decode prog_13_method_54_code 27 = .ok (.aload_n 0, 1) := by decide +kernel
theorem dX11_height_28 : decode prog_13_method_54_code 28 = .ok (.getfield 161, 3) := by decide +kernel
theorem dX11_height_31 : decode prog_13_method_54_code 31 = .ok (.aload_n 0, 1) := by decide +kernel
theorem dX11_height_32 : decode prog_13_method_54_code 32 = .ok (.getfield 34, 3) := by decide +kernel
theorem dX11_height_35 : decode prog_13_method_54_code 35 = .ok (.bipush 32, 2) := by decide +kernel
theorem dX11_height_37 : decode prog_13_method_54_code 37 = .ok (.iload_n 1, 1) := by decide +kernel
theorem dX11_height_38 : decode prog_13_method_54_code 38 = .ok (.imul, 1) := by decide +kernel
theorem dX11_height_39 : decode prog_13_method_54_code 39 = .ok (.iload_n 3, 1) := by decide +kernel
theorem dX11_height_40 : decode prog_13_method_54_code 40 = .ok (.iadd, 1) := by decide +kernel
theorem dX11_height_41 : decode prog_13_method_54_code 41 = .ok (.iaload, 1) := by decide +kernel
theorem dX11_height_42 : decode prog_13_method_54_code 42 = .ok (.iaload, 1) := by decide +kernel
theorem dX11_height_43 : decode prog_13_method_54_code 43 = .ok (.invokestatic 376, 3) := by decide +kernel
theorem dX11_height_46 : decode prog_13_method_54_code 46 = .ok (.istore_n 2, 1) := by decide +kernel
theorem dX11_height_47 : decode prog_13_method_54_code 47 = .ok (.iinc 3 1, 3) := by decide +kernel
theorem dX11_height_50 : decode prog_13_method_54_code 50 = .ok (.goto (-34), 3) := by decide +kernel
theorem dX11_height_53 : decode prog_13_method_54_code 53 = .ok (.iconst 1, 1) := by decide +kernel
theorem dX11_height_54 : decode prog_13_method_54_code 54 = .ok (.iload_n 2, 1) := by decide +kernel
theorem dX11_height_55 : decode prog_13_method_54_code 55 = .ok (.iadd, 1) := by decide +kernel
theorem dX11_height_56 : decode prog_13_method_54_code 56 = .ok (.ireturn, 1) := by decide +kernel
theorem dX11_of_0 : decode prog_13_method_59_code 0 = .ok (.iload_n 1, 1) := by decide +kernel
theorem dX11_of_1 : decode prog_13_method_59_code 1 = .ok (.invokestatic 361, 3) := by decide +kernel
theorem dX11_of_4 : decode prog_13_method_59_code 4 = .ok (.ifCond .eq 13, 3) := by decide +kernel
theorem dX11_of_7 : decode prog_13_method_59_code 7 = .ok (.iload_n 2, 1) := by decide +kernel
theorem dX11_of_8 : decode prog_13_method_59_code 8 = .ok (.iconst 0, 1) := by decide +kernel
theorem dX11_of_9 : decode prog_13_method_59_code 9 = .ok (.bipush 9, 2) := by decide +kernel
theorem dX11_of_11 : decode prog_13_method_59_code 11 = .ok (.invokestatic 173, 3) := by decide +kernel
theorem dX11_of_14 : decode prog_13_method_59_code 14 = .ok (.ifCond .ne 5, 3) := by decide +kernel
theorem dX11_of_17 : decode prog_13_method_59_code 17 = .ok (.iconst (-1), 1) := by decide +kernel
theorem dX11_of_18 : decode prog_13_method_59_code 18 = .ok (.ireturn, 1) := by decide +kernel
theorem dX11_of_19 : decode prog_13_method_59_code 19 = .ok (.iload_n 2, 1) := by decide +kernel
theorem dX11_of_20 : decode prog_13_method_59_code 20 = .ok (.tableswitch 137 0 8 #[52, 59, 66, 77, 84, 91, 100, 115, 130], 52) := by decide +kernel
theorem dX11_of_72 : decode prog_13_method_59_code 72 = .ok (.aload_n 0, 1) := by decide +kernel
theorem dX11_of_73 : decode prog_13_method_59_code 73 = .ok (.getfield 11, 3) := by decide +kernel
theorem dX11_of_76 : decode prog_13_method_59_code 76 = .ok (.iload_n 1, 1) := by decide +kernel
theorem dX11_of_77 : decode prog_13_method_59_code 77 = .ok (.iaload, 1) := by decide +kernel
theorem dX11_of_78 : decode prog_13_method_59_code 78 = .ok (.ireturn, 1) := by decide +kernel
theorem dX11_of_79 : decode prog_13_method_59_code 79 = .ok (.aload_n 0, 1) := by decide +kernel
theorem dX11_of_80 : decode prog_13_method_59_code 80 = .ok (.getfield 15, 3) := by decide +kernel
theorem dX11_of_83 : decode prog_13_method_59_code 83 = .ok (.iload_n 1, 1) := by decide +kernel
theorem dX11_of_84 : decode prog_13_method_59_code 84 = .ok (.iaload, 1) := by decide +kernel
theorem dX11_of_85 : decode prog_13_method_59_code 85 = .ok (.ireturn, 1) := by decide +kernel
theorem dX11_of_86 : decode prog_13_method_59_code 86 = .ok (.aload_n 0, 1) := by decide +kernel
theorem dX11_of_87 : decode prog_13_method_59_code 87 = .ok (.invokevirtual 388, 3) := by decide +kernel
theorem dX11_of_90 : decode prog_13_method_59_code 90 = .ok (.aload_n 0, 1) := by decide +kernel
theorem dX11_of_91 : decode prog_13_method_59_code 91 = .ok (.getfield 161, 3) := by decide +kernel
theorem dX11_of_94 : decode prog_13_method_59_code 94 = .ok (.iload_n 1, 1) := by decide +kernel
theorem dX11_of_95 : decode prog_13_method_59_code 95 = .ok (.iaload, 1) := by decide +kernel
theorem dX11_of_96 : decode prog_13_method_59_code 96 = .ok (.ireturn, 1) := by decide +kernel
theorem dX11_of_97 : decode prog_13_method_59_code 97 = .ok (.aload_n 0, 1) := by decide +kernel
theorem dX11_of_98 : decode prog_13_method_59_code 98 = .ok (.getfield 18, 3) := by decide +kernel
theorem dX11_of_101 : decode prog_13_method_59_code 101 = .ok (.iload_n 1, 1) := by decide +kernel
theorem dX11_of_102 : decode prog_13_method_59_code 102 = .ok (.iaload, 1) := by decide +kernel
theorem dX11_of_103 : decode prog_13_method_59_code 103 = .ok (.ireturn, 1) := by decide +kernel
theorem dX11_of_104 : decode prog_13_method_59_code 104 = .ok (.aload_n 0, 1) := by decide +kernel
theorem dX11_of_105 : decode prog_13_method_59_code 105 = .ok (.getfield 21, 3) := by decide +kernel
theorem dX11_of_108 : decode prog_13_method_59_code 108 = .ok (.iload_n 1, 1) := by decide +kernel
theorem dX11_of_109 : decode prog_13_method_59_code 109 = .ok (.iaload, 1) := by decide +kernel
theorem dX11_of_110 : decode prog_13_method_59_code 110 = .ok (.ireturn, 1) := by decide +kernel
theorem dX11_of_111 : decode prog_13_method_59_code 111 = .ok (.aload_n 0, 1) := by decide +kernel
theorem dX11_of_112 : decode prog_13_method_59_code 112 = .ok (.iload_n 1, 1) := by decide +kernel
theorem dX11_of_113 : decode prog_13_method_59_code 113 = .ok (.invokevirtual 381, 3) := by decide +kernel
theorem dX11_of_116 : decode prog_13_method_59_code 116 = .ok (.invokestatic 384, 3) := by decide +kernel
theorem dX11_of_119 : decode prog_13_method_59_code 119 = .ok (.ireturn, 1) := by decide +kernel
theorem dX11_of_120 : decode prog_13_method_59_code 120 = .ok (.aload_n 0, 1) := by decide +kernel
theorem dX11_of_121 : decode prog_13_method_59_code 121 = .ok (.getfield 37, 3) := by decide +kernel
theorem dX11_of_124 : decode prog_13_method_59_code 124 = .ok (.iload_n 1, 1) := by decide +kernel
theorem dX11_of_125 : decode prog_13_method_59_code 125 = .ok (.baload, 1) := by decide +kernel
theorem dX11_of_126 : decode prog_13_method_59_code 126 = .ok (.ifCond .eq 7, 3) := by decide +kernel
theorem dX11_of_129 : decode prog_13_method_59_code 129 = .ok (.iconst 1, 1) := by decide +kernel
theorem dX11_of_130 : decode prog_13_method_59_code 130 = .ok (.goto 4, 3) := by decide +kernel
theorem dX11_of_133 : decode prog_13_method_59_code 133 = .ok (.iconst 0, 1) := by decide +kernel
theorem dX11_of_134 : decode prog_13_method_59_code 134 = .ok (.ireturn, 1) := by decide +kernel
theorem dX11_of_135 : decode prog_13_method_59_code 135 = .ok (.aload_n 0, 1) := by decide +kernel
theorem dX11_of_136 : decode prog_13_method_59_code 136 = .ok (.getfield 41, 3) := by decide +kernel
theorem dX11_of_139 : decode prog_13_method_59_code 139 = .ok (.iload_n 1, 1) := by decide +kernel
theorem dX11_of_140 : decode prog_13_method_59_code 140 = .ok (.baload, 1) := by decide +kernel
theorem dX11_of_141 : decode prog_13_method_59_code 141 = .ok (.ifCond .eq 7, 3) := by decide +kernel
theorem dX11_of_144 : decode prog_13_method_59_code 144 = .ok (.iconst 1, 1) := by decide +kernel
theorem dX11_of_145 : decode prog_13_method_59_code 145 = .ok (.goto 4, 3) := by decide +kernel
theorem dX11_of_148 : decode prog_13_method_59_code 148 = .ok (.iconst 0, 1) := by decide +kernel
theorem dX11_of_149 : decode prog_13_method_59_code 149 = .ok (.ireturn, 1) := by decide +kernel
theorem dX11_of_150 : decode prog_13_method_59_code 150 = .ok (.aload_n 0, 1) := by decide +kernel
theorem dX11_of_151 : decode prog_13_method_59_code 151 = .ok (.getfield 24, 3) := by decide +kernel
theorem dX11_of_154 : decode prog_13_method_59_code 154 = .ok (.iload_n 1, 1) := by decide +kernel
theorem dX11_of_155 : decode prog_13_method_59_code 155 = .ok (.iaload, 1) := by decide +kernel
theorem dX11_of_156 : decode prog_13_method_59_code 156 = .ok (.ireturn, 1) := by decide +kernel
theorem dX11_of_157 : decode prog_13_method_59_code 157 = .ok (.aload_n 0, 1) := by decide +kernel
theorem dX11_of_158 : decode prog_13_method_59_code 158 = .ok (.iload_n 1, 1) := by decide +kernel
theorem dX11_of_159 : decode prog_13_method_59_code 159 = .ok (.invokevirtual 391, 3) := by decide +kernel
theorem dX11_of_162 : decode prog_13_method_59_code 162 = .ok (.ireturn, 1) := by decide +kernel
theorem dX11_order_0 : decode prog_13_method_61_code 0 = .ok (.aload_n 0, 1) := by decide +kernel
theorem dX11_order_1 : decode prog_13_method_61_code 1 = .ok (.invokevirtual 388, 3) := by decide +kernel
theorem dX11_order_4 : decode prog_13_method_61_code 4 = .ok (.iconst 0, 1) := by decide +kernel
theorem dX11_order_5 : decode prog_13_method_61_code 5 = .ok (.istore_n 2, 1) := by decide +kernel
theorem dX11_order_6 : decode prog_13_method_61_code 6 = .ok (.iconst 0, 1) := by decide +kernel
theorem dX11_order_7 : decode prog_13_method_61_code 7 = .ok (.istore_n 3, 1) := by decide +kernel
theorem dX11_order_8 : decode prog_13_method_61_code 8 = .ok (.iload_n 3, 1) := by decide +kernel
theorem dX11_order_9 : decode prog_13_method_61_code 9 = .ok (.bipush 32, 2) := by decide +kernel
theorem dX11_order_11 : decode prog_13_method_61_code 11 = .ok (.if_icmp .gt 60, 3) := by decide +kernel
theorem dX11_order_14 : decode prog_13_method_61_code 14 = .ok (.iconst 0, 1) := by decide +kernel
theorem dX11_order_15 : decode prog_13_method_61_code 15 = .ok (.istore 4, 2) := by decide +kernel
theorem dX11_order_17 : decode prog_13_method_61_code 17 = .ok (.iload 4, 2) := by decide +kernel
theorem dX11_order_19 : decode prog_13_method_61_code 19 = .ok (.bipush 32, 2) := by decide +kernel
theorem dX11_order_21 : decode prog_13_method_61_code 21 = .ok (.if_icmp .ge 44, 3) := by decide +kernel
theorem dX11_order_24 : decode prog_13_method_61_code 24 = .ok (.aload_n 0, 1) := by decide +kernel
theorem dX11_order_25 : decode prog_13_method_61_code 25 = .ok (.getfield 11, 3) := by decide +kernel
theorem dX11_order_28 : decode prog_13_method_61_code 28 = .ok (.iload 4, 2) := by decide +kernel
theorem dX11_order_30 : decode prog_13_method_61_code 30 = .ok (.iaload, 1) := by decide +kernel
theorem dX11_order_31 : decode prog_13_method_61_code 31 = .ok (.ifCond .eq 28, 3) := by decide +kernel
theorem dX11_order_34 : decode prog_13_method_61_code 34 = .ok (.aload_n 0, 1) := by decide +kernel
theorem dX11_order_35 : decode prog_13_method_61_code 35 = .ok (.getfield 161, 3) := by decide +kernel
theorem dX11_order_38 : decode prog_13_method_61_code 38 = .ok (.iload 4, 2) := by decide +kernel
theorem dX11_order_40 : decode prog_13_method_61_code 40 = .ok (.iaload, 1) := by decide +kernel
theorem dX11_order_41 : decode prog_13_method_61_code 41 = .ok (.iload_n 3, 1) := by decide +kernel
theorem dX11_order_42 : decode prog_13_method_61_code 42 = .ok (.if_icmp .eq 6, 3) := by decide +kernel
theorem dX11_order_45 : decode prog_13_method_61_code 45 = .ok (.goto 14, 3) := by decide +kernel
theorem dX11_order_48 : decode prog_13_method_61_code 48 = .ok (.iload_n 2, 1) := by decide +kernel
theorem dX11_order_49 : decode prog_13_method_61_code 49 = .ok (.iload_n 1, 1) := by decide +kernel
theorem dX11_order_50 : decode prog_13_method_61_code 50 = .ok (.if_icmp .ne 6, 3) := by decide +kernel
theorem dX11_order_53 : decode prog_13_method_61_code 53 = .ok (.iload 4, 2) := by decide +kernel
theorem dX11_order_55 : decode prog_13_method_61_code 55 = .ok (.ireturn, 1) := by decide +kernel
theorem dX11_order_56 : decode prog_13_method_61_code 56 = .ok (.iinc 2 1, 3) := by decide +kernel
theorem dX11_order_59 : decode prog_13_method_61_code 59 = .ok (.iinc 4 1, 3) := by decide +kernel
theorem dX11_order_62 : decode prog_13_method_61_code 62 = .ok (.goto (-45), 3) := by decide +kernel
theorem dX11_order_65 : decode prog_13_method_61_code 65 = .ok (.iinc 3 1, 3) := by decide +kernel
theorem dX11_order_68 : decode prog_13_method_61_code 68 = .ok (.goto (-60), 3) := by decide +kernel
theorem dX11_order_71 : decode prog_13_method_61_code 71 = .ok (.iconst (-1), 1) := by decide +kernel
theorem dX11_order_72 : decode prog_13_method_61_code 72 = .ok (.ireturn, 1) := by decide +kernel
theorem dX11_paper_0 : decode prog_13_method_73_code 0 = .ok (.iload_n 1, 1) := by decide +kernel
theorem dX11_paper_1 : decode prog_13_method_73_code 1 = .ok (.iconst 0, 1) := by decide +kernel
theorem dX11_paper_2 : decode prog_13_method_73_code 2 = .ok (.aload_n 0, 1) := by decide +kernel
theorem dX11_paper_3 : decode prog_13_method_73_code 3 = .ok (.getfield 407, 3) := by decide +kernel
theorem dX11_paper_6 : decode prog_13_method_73_code 6 = .ok (.iconst 1, 1) := by decide +kernel
theorem dX11_paper_7 : decode prog_13_method_73_code 7 = .ok (.isub, 1) := by decide +kernel
theorem dX11_paper_8 : decode prog_13_method_73_code 8 = .ok (.invokestatic 173, 3) := by decide +kernel
theorem dX11_paper_11 : decode prog_13_method_73_code 11 = .ok (.ifCond .eq 12, 3) := by decide +kernel
theorem dX11_paper_14 : decode prog_13_method_73_code 14 = .ok (.aload_n 0, 1) := by decide +kernel
theorem dX11_paper_15 : decode prog_13_method_73_code 15 = .ok (.getfield 116, 3) := by decide +kernel
theorem dX11_paper_18 : decode prog_13_method_73_code 18 = .ok (.iload_n 1, 1) := by decide +kernel
theorem dX11_paper_19 : decode prog_13_method_73_code 19 = .ok (.iaload, 1) := by decide +kernel
theorem dX11_paper_20 : decode prog_13_method_73_code 20 = .ok (.goto 4, 3) := by decide +kernel
theorem dX11_paper_23 : decode prog_13_method_73_code 23 = .ok (.iconst (-1), 1) := by decide +kernel
theorem dX11_paper_24 : decode prog_13_method_73_code 24 = .ok (.ireturn, 1) := by decide +kernel
theorem dX11_reads__0 : decode prog_13_method_60_code 0 = .ok (.iload_n 1, 1) := by decide +kernel
theorem dX11_reads__1 : decode prog_13_method_60_code 1 = .ok (.invokestatic 361, 3) := by decide +kernel
theorem dX11_reads__4 : decode prog_13_method_60_code 4 = .ok (.ifCond .eq 19, 3) := by decide +kernel
theorem dX11_reads__7 : decode prog_13_method_60_code 7 = .ok (.iload_n 2, 1) := by decide +kernel
theorem dX11_reads__8 : decode prog_13_method_60_code 8 = .ok (.iconst 0, 1) := by decide +kernel
theorem dX11_reads__9 : decode prog_13_method_60_code 9 = .ok (.aload_n 0, 1) := by decide +kernel
theorem dX11_reads__10 : decode prog_13_method_60_code 10 = .ok (.getfield 21, 3) := by decide +kernel
theorem dX11_reads__13 : decode prog_13_method_60_code 13 = .ok (.iload_n 1, 1) := by decide +kernel
theorem dX11_reads__14 : decode prog_13_method_60_code 14 = .ok (.iaload, 1) := by decide +kernel
theorem dX11_reads__15 : decode prog_13_method_60_code 15 = .ok (.iconst 1, 1) := by decide +kernel
theorem dX11_reads__16 : decode prog_13_method_60_code 16 = .ok (.isub, 1) := by decide +kernel
theorem dX11_reads__17 : decode prog_13_method_60_code 17 = .ok (.invokestatic 173, 3) := by decide +kernel
theorem dX11_reads__20 : decode prog_13_method_60_code 20 = .ok (.ifCond .ne 7, 3) := by decide +kernel
theorem dX11_reads__23 : decode prog_13_method_60_code 23 = .ok (.iconst (-1), 1) := by decide +kernel
theorem dX11_reads__24 : decode prog_13_method_60_code 24 = .ok (.goto 14, 3) := by decide +kernel
theorem dX11_reads__27 : decode prog_13_method_60_code 27 = .ok (.aload_n 0, 1) := by decide +kernel
theorem dX11_reads__28 : decode prog_13_method_60_code 28 = .ok (.getfield 34, 3) := by decide +kernel
theorem dX11_reads__31 : decode prog_13_method_60_code 31 = .ok (.bipush 32, 2) := by decide +kernel
theorem dX11_reads__33 : decode prog_13_method_60_code 33 = .ok (.iload_n 1, 1) := by decide +kernel
theorem dX11_reads__34 : decode prog_13_method_60_code 34 = .ok (.imul, 1) := by decide +kernel
theorem dX11_reads__35 : decode prog_13_method_60_code 35 = .ok (.iload_n 2, 1) := by decide +kernel
theorem dX11_reads__36 : decode prog_13_method_60_code 36 = .ok (.iadd, 1) := by decide +kernel
theorem dX11_reads__37 : decode prog_13_method_60_code 37 = .ok (.iaload, 1) := by decide +kernel
theorem dX11_reads__38 : decode prog_13_method_60_code 38 = .ok (.ireturn, 1) := by decide +kernel
theorem dX11_seek_0 : decode prog_13_method_67_code 0 = .ok (.iload_n 1, 1) := by decide +kernel
theorem dX11_seek_1 : decode prog_13_method_67_code 1 = .ok (.invokestatic 361, 3) := by decide +kernel
theorem dX11_seek_4 : decode prog_13_method_67_code 4 = .ok (.ifCond .eq 22, 3) := by decide +kernel
theorem dX11_seek_7 : decode prog_13_method_67_code 7 = .ok (.iload 5, 2) := by decide +kernel
theorem dX11_seek_9 : decode prog_13_method_67_code 9 = .ok (.invokestatic 361, 3) := by decide +kernel
theorem dX11_seek_12 : decode prog_13_method_67_code 12 = .ok (.ifCond .eq 14, 3) := by decide +kernel
theorem dX11_seek_15 : decode prog_13_method_67_code 15 = .ok (.iload 4, 2) := by decide +kernel
theorem dX11_seek_17 : decode prog_13_method_67_code 17 = .ok (.iconst 0, 1) := by decide +kernel
theorem dX11_seek_18 : decode prog_13_method_67_code 18 = .ok (.bipush 12, 2) := by decide +kernel
theorem dX11_seek_20 : decode prog_13_method_67_code 20 = .ok (.invokestatic 173, 3) := by decide +kernel
theorem dX11_seek_23 : decode prog_13_method_67_code 23 = .ok (.ifCond .ne 7, 3) := by decide +kernel
theorem dX11_seek_26 : decode prog_13_method_67_code 26 = .ok (.ldc2_w 255, 3) := by decide +kernel
theorem dX11_seek_29 : decode prog_13_method_67_code 29 = .ok (.lreturn, 1) := by decide +kernel
theorem dX11_seek_30 : decode prog_13_method_67_code 30 = .ok (.iconst 0, 1) := by decide +kernel
theorem dX11_seek_31 : decode prog_13_method_67_code 31 = .ok (.istore 8, 2) := by decide +kernel
theorem dX11_seek_33 : decode prog_13_method_67_code 33 = .ok (.iload 8, 2) := by decide +kernel
theorem dX11_seek_35 : decode prog_13_method_67_code 35 = .ok (.iload 4, 2) := by decide +kernel
theorem dX11_seek_37 : decode prog_13_method_67_code 37 = .ok (.if_icmp .ge 63, 3) := by decide +kernel
theorem dX11_seek_40 : decode prog_13_method_67_code 40 = .ok (.lload_n 2, 1) := by decide +kernel
theorem dX11_seek_41 : decode prog_13_method_67_code 41 = .ok (.ldc2_w 405, 3) := by decide +kernel
theorem dX11_seek_44 : decode prog_13_method_67_code 44 = .ok (.iload 8, 2) := by decide +kernel
theorem dX11_seek_46 : decode prog_13_method_67_code 46 = .ok (.i2l, 1) := by decide +kernel
theorem dX11_seek_47 : decode prog_13_method_67_code 47 = .ok (.lsub, 1) := by decide +kernel
theorem dX11_seek_48 : decode prog_13_method_67_code 48 = .ok (.lcmp, 1) := by decide +kernel
theorem dX11_seek_49 : decode prog_13_method_67_code 49 = .ok (.ifCond .le 7, 3) := by decide +kernel
theorem dX11_seek_52 : decode prog_13_method_67_code 52 = .ok (.ldc2_w 255, 3) := by decide +kernel
theorem dX11_seek_55 : decode prog_13_method_67_code 55 = .ok (.lreturn, 1) := by decide +kernel
theorem dX11_seek_56 : decode prog_13_method_67_code 56 = .ok (.aload_n 0, 1) := by decide +kernel
theorem dX11_seek_57 : decode prog_13_method_67_code 57 = .ok (.iload_n 1, 1) := by decide +kernel
theorem dX11_seek_58 : decode prog_13_method_67_code 58 = .ok (.lload_n 2, 1) := by decide +kernel
theorem dX11_seek_59 : decode prog_13_method_67_code 59 = .ok (.iload 8, 2) := by decide +kernel
theorem dX11_seek_61 : decode prog_13_method_67_code 61 = .ok (.i2l, 1) := by decide +kernel
theorem dX11_seek_62 : decode prog_13_method_67_code 62 = .ok (.ladd, 1) := by decide +kernel
theorem dX11_seek_63 : decode prog_13_method_67_code 63 = .ok (.iload 5, 2) := by decide +kernel
theorem dX11_seek_65 : decode prog_13_method_67_code 65 = .ok (.invokevirtual 401, 3) := by decide +kernel
theorem dX11_seek_68 : decode prog_13_method_67_code 68 = .ok (.ifCond .lt 26, 3) := by decide +kernel
theorem dX11_seek_71 : decode prog_13_method_67_code 71 = .ok (.aload_n 0, 1) := by decide +kernel
theorem dX11_seek_72 : decode prog_13_method_67_code 72 = .ok (.getfield 398, 3) := by decide +kernel
theorem dX11_seek_75 : decode prog_13_method_67_code 75 = .ok (.ifCond .ne 19, 3) := by decide +kernel
theorem dX11_seek_78 : decode prog_13_method_67_code 78 = .ok (.aload_n 0, 1) := by decide +kernel
theorem dX11_seek_79 : decode prog_13_method_67_code 79 = .ok (.getfield 394, 3) := by decide +kernel
theorem dX11_seek_82 : decode prog_13_method_67_code 82 = .ok (.lload 6, 2) := by decide +kernel
theorem dX11_seek_84 : decode prog_13_method_67_code 84 = .ok (.lcmp, 1) := by decide +kernel
theorem dX11_seek_85 : decode prog_13_method_67_code 85 = .ok (.ifCond .lt 9, 3) := by decide +kernel
theorem dX11_seek_88 : decode prog_13_method_67_code 88 = .ok (.lload_n 2, 1) := by decide +kernel
theorem dX11_seek_89 : decode prog_13_method_67_code 89 = .ok (.iload 8, 2) := by decide +kernel
theorem dX11_seek_91 : decode prog_13_method_67_code 91 = .ok (.i2l, 1) := by decide +kernel
theorem dX11_seek_92 : decode prog_13_method_67_code 92 = .ok (.ladd, 1) := by decide +kernel
theorem dX11_seek_93 : decode prog_13_method_67_code 93 = .ok (.lreturn, 1) := by decide +kernel
theorem dX11_seek_94 : decode prog_13_method_67_code 94 = .ok (.iinc 8 1, 3) := by decide +kernel
theorem dX11_seek_97 : decode prog_13_method_67_code 97 = .ok (.goto (-64), 3) := by decide +kernel
theorem dX11_seek_100 : decode prog_13_method_67_code 100 = .ok (.ldc2_w 255, 3) := by decide +kernel
theorem dX11_seek_103 : decode prog_13_method_67_code 103 = .ok (.lreturn, 1) := by decide +kernel
theorem dX11_spell_0 : decode prog_13_method_72_code 0 = .ok (.iload_n 1, 1) := by decide +kernel
theorem dX11_spell_1 : decode prog_13_method_72_code 1 = .ok (.invokestatic 361, 3) := by decide +kernel
theorem dX11_spell_4 : decode prog_13_method_72_code 4 = .ok (.ifCond .ne 5, 3) := by decide +kernel
theorem dX11_spell_7 : decode prog_13_method_72_code 7 = .ok (.iconst (-1), 1) := by decide +kernel
theorem dX11_spell_8 : decode prog_13_method_72_code 8 = .ok (.ireturn, 1) := by decide +kernel
theorem dX11_spell_9 : decode prog_13_method_72_code 9 = .ok (.aload_n 0, 1) := by decide +kernel
theorem dX11_spell_10 : decode prog_13_method_72_code 10 = .ok (.getfield 11, 3) := by decide +kernel
theorem dX11_spell_13 : decode prog_13_method_72_code 13 = .ok (.iload_n 1, 1) := by decide +kernel
theorem dX11_spell_14 : decode prog_13_method_72_code 14 = .ok (.iaload, 1) := by decide +kernel
theorem dX11_spell_15 : decode prog_13_method_72_code 15 = .ok (.iconst 2, 1) := by decide +kernel
theorem dX11_spell_16 : decode prog_13_method_72_code 16 = .ok (.if_icmp .eq 6, 3) := by decide +kernel
theorem dX11_spell_19 : decode prog_13_method_72_code 19 = .ok (.bipush (-3), 2) := by decide +kernel
theorem dX11_spell_21 : decode prog_13_method_72_code 21 = .ok (.ireturn, 1) := by decide +kernel
theorem dX11_spell_22 : decode prog_13_method_72_code 22 = .ok (.aload_n 0, 1) := by decide +kernel
theorem dX11_spell_23 : decode prog_13_method_72_code 23 = .ok (.iconst 0, 1) := by decide +kernel
theorem dX11_spell_24 : decode prog_13_method_72_code 24 = .ok (.putfield 407, 3) := by decide +kernel
theorem dX11_spell_27 : decode prog_13_method_72_code 27 = .ok (.aload_n 0, 1) := by decide +kernel
theorem dX11_spell_28 : decode prog_13_method_72_code 28 = .ok (.iload_n 1, 1) := by decide +kernel
theorem dX11_spell_29 : decode prog_13_method_72_code 29 = .ok (.invokestatic 283, 3) := by decide +kernel
theorem dX11_spell_32 : decode prog_13_method_72_code 32 = .ok (.aload_n 0, 1) := by decide +kernel
theorem dX11_spell_33 : decode prog_13_method_72_code 33 = .ok (.getfield 27, 3) := by decide +kernel
theorem dX11_spell_36 : decode prog_13_method_72_code 36 = .ok (.iload_n 1, 1) := by decide +kernel
theorem dX11_spell_37 : decode prog_13_method_72_code 37 = .ok (.iaload, 1) := by decide +kernel
theorem dX11_spell_38 : decode prog_13_method_72_code 38 = .ok (.iconst 0, 1) := by decide +kernel
theorem dX11_spell_39 : decode prog_13_method_72_code 39 = .ok (.invokevirtual 419, 3) := by decide +kernel
theorem dX11_tellHeights_0 : decode prog_13_method_55_code 0 = .ok (.iconst 0, 1) := by decide +kernel
theorem dX11_tellHeights_1 : decode prog_13_method_55_code 1 = .ok (.istore_n 1, 1) := by decide +kernel
theorem dX11_tellHeights_2 : decode prog_13_method_55_code 2 = .ok (.iload_n 1, 1) := by decide +kernel
theorem dX11_tellHeights_3 : decode prog_13_method_55_code 3 = .ok (.bipush 32, 2) := by decide +kernel
theorem dX11_tellHeights_5 : decode prog_13_method_55_code 5 = .ok (.if_icmp .ge 16, 3) := by decide +kernel
theorem dX11_tellHeights_8 : decode prog_13_method_55_code 8 = .ok (.aload_n 0, 1) := by decide +kernel
theorem dX11_tellHeights_9 : decode prog_13_method_55_code 9 = .ok (.getfield 161, 3) := by decide +kernel
theorem dX11_tellHeights_12 : decode prog_13_method_55_code 12 = .ok (.iload_n 1, 1) := by decide +kernel
theorem dX11_tellHeights_13 : decode prog_13_method_55_code 13 = .ok (.iconst 0, 1) := by decide +kernel
theorem dX11_tellHeights_14 : decode prog_13_method_55_code 14 = .ok (.iastore, 1) := by decide +kernel
theorem dX11_tellHeights_15 : decode prog_13_method_55_code 15 = .ok (.iinc 1 1, 3) := by decide +kernel
theorem dX11_tellHeights_18 : decode prog_13_method_55_code 18 = .ok (.goto (-16), 3) := by decide +kernel
theorem dX11_tellHeights_21 : decode prog_13_method_55_code 21 = .ok (.iconst 0, 1) := by decide +kernel
theorem dX11_tellHeights_22 : decode prog_13_method_55_code 22 = .ok (.istore_n 1, 1) := by decide +kernel
theorem dX11_tellHeights_23 : decode prog_13_method_55_code 23 = .ok (.iload_n 1, 1) := by decide +kernel
theorem dX11_tellHeights_24 : decode prog_13_method_55_code 24 = .ok (.bipush 33, 2) := by decide +kernel
theorem dX11_tellHeights_26 : decode prog_13_method_55_code 26 = .ok (.if_icmp .ge 34, 3) := by decide +kernel
theorem dX11_tellHeights_29 : decode prog_13_method_55_code 29 = .ok (.iconst 0, 1) := by decide +kernel
theorem dX11_tellHeights_30 : decode prog_13_method_55_code 30 = .ok (.istore_n 2, 1) := by decide +kernel
theorem dX11_tellHeights_31 : decode prog_13_method_55_code 31 = .ok (.iload_n 2, 1) := by decide +kernel
theorem dX11_tellHeights_32 : decode prog_13_method_55_code 32 = .ok (.bipush 32, 2) := by decide +kernel
theorem dX11_tellHeights_34 : decode prog_13_method_55_code 34 = .ok (.if_icmp .ge 20, 3) := by decide +kernel
theorem dX11_tellHeights_37 : decode prog_13_method_55_code 37 = .ok (.aload_n 0, 1) := by decide +kernel
theorem dX11_tellHeights_38 : decode prog_13_method_55_code 38 = .ok (.getfield 161, 3) := by decide +kernel
theorem dX11_tellHeights_41 : decode prog_13_method_55_code 41 = .ok (.iload_n 2, 1) := by decide +kernel
theorem dX11_tellHeights_42 : decode prog_13_method_55_code 42 = .ok (.aload_n 0, 1) := by decide +kernel
theorem dX11_tellHeights_43 : decode prog_13_method_55_code 43 = .ok (.iload_n 2, 1) := by decide +kernel
theorem dX11_tellHeights_44 : decode prog_13_method_55_code 44 = .ok (.invokevirtual 378, 3) := by decide +kernel
theorem dX11_tellHeights_47 : decode prog_13_method_55_code 47 = .ok (.iastore, 1) := by decide +kernel
theorem dX11_tellHeights_48 : decode prog_13_method_55_code 48 = .ok (.iinc 2 1, 3) := by decide +kernel
theorem dX11_tellHeights_51 : decode prog_13_method_55_code 51 = .ok (.goto (-20), 3) := by decide +kernel
theorem dX11_tellHeights_54 : decode prog_13_method_55_code 54 = .ok (.iinc 1 1, 3) := by decide +kernel
theorem dX11_tellHeights_57 : decode prog_13_method_55_code 57 = .ok (.goto (-34), 3) := by decide +kernel
theorem dX11_tellHeights_60 : decode prog_13_method_55_code 60 = .ok (.return_, 1) := by decide +kernel
theorem dX11_watch_0 : decode prog_13_method_74_code 0 = .ok (.iload_n 1, 1) := by decide +kernel
theorem dX11_watch_1 : decode prog_13_method_74_code 1 = .ok (.invokestatic 361, 3) := by decide +kernel
theorem dX11_watch_4 : decode prog_13_method_74_code 4 = .ok (.ifCond .eq 12, 3) := by decide +kernel
theorem dX11_watch_7 : decode prog_13_method_74_code 7 = .ok (.iload_n 2, 1) := by decide +kernel
theorem dX11_watch_8 : decode prog_13_method_74_code 8 = .ok (.iconst 0, 1) := by decide +kernel
theorem dX11_watch_9 : decode prog_13_method_74_code 9 = .ok (.iconst 3, 1) := by decide +kernel
theorem dX11_watch_10 : decode prog_13_method_74_code 10 = .ok (.invokestatic 173, 3) := by decide +kernel
theorem dX11_watch_13 : decode prog_13_method_74_code 13 = .ok (.ifCond .ne 5, 3) := by decide +kernel
theorem dX11_watch_16 : decode prog_13_method_74_code 16 = .ok (.iconst (-1), 1) := by decide +kernel
theorem dX11_watch_17 : decode prog_13_method_74_code 17 = .ok (.ireturn, 1) := by decide +kernel
theorem dX11_watch_18 : decode prog_13_method_74_code 18 = .ok (.aload_n 0, 1) := by decide +kernel
theorem dX11_watch_19 : decode prog_13_method_74_code 19 = .ok (.getfield 327, 3) := by decide +kernel
theorem dX11_watch_22 : decode prog_13_method_74_code 22 = .ok (.bipush 8, 2) := by decide +kernel
theorem dX11_watch_24 : decode prog_13_method_74_code 24 = .ok (.if_icmp .ne 6, 3) := by decide +kernel
theorem dX11_watch_27 : decode prog_13_method_74_code 27 = .ok (.bipush (-4), 2) := by decide +kernel
theorem dX11_watch_29 : decode prog_13_method_74_code 29 = .ok (.ireturn, 1) := by decide +kernel
theorem dX11_watch_30 : decode prog_13_method_74_code 30 = .ok (.aload_n 0, 1) := by decide +kernel
theorem dX11_watch_31 : decode prog_13_method_74_code 31 = .ok (.getfield 119, 3) := by decide +kernel
theorem dX11_watch_34 : decode prog_13_method_74_code 34 = .ok (.aload_n 0, 1) := by decide +kernel
theorem dX11_watch_35 : decode prog_13_method_74_code 35 = .ok (.getfield 327, 3) := by decide +kernel
theorem dX11_watch_38 : decode prog_13_method_74_code 38 = .ok (.iload_n 1, 1) := by decide +kernel
theorem dX11_watch_39 : decode prog_13_method_74_code 39 = .ok (.iastore, 1) := by decide +kernel
theorem dX11_watch_40 : decode prog_13_method_74_code 40 = .ok (.aload_n 0, 1) := by decide +kernel
theorem dX11_watch_41 : decode prog_13_method_74_code 41 = .ok (.getfield 122, 3) := by decide +kernel
theorem dX11_watch_44 : decode prog_13_method_74_code 44 = .ok (.aload_n 0, 1) := by decide +kernel
theorem dX11_watch_45 : decode prog_13_method_74_code 45 = .ok (.getfield 327, 3) := by decide +kernel
theorem dX11_watch_48 : decode prog_13_method_74_code 48 = .ok (.iload_n 2, 1) := by decide +kernel
theorem dX11_watch_49 : decode prog_13_method_74_code 49 = .ok (.iastore, 1) := by decide +kernel
theorem dX11_watch_50 : decode prog_13_method_74_code 50 = .ok (.aload_n 0, 1) := by decide +kernel
theorem dX11_watch_51 : decode prog_13_method_74_code 51 = .ok (.getfield 137, 3) := by decide +kernel
theorem dX11_watch_54 : decode prog_13_method_74_code 54 = .ok (.aload_n 0, 1) := by decide +kernel
theorem dX11_watch_55 : decode prog_13_method_74_code 55 = .ok (.getfield 327, 3) := by decide +kernel
theorem dX11_watch_58 : decode prog_13_method_74_code 58 = .ok (.lload_n 3, 1) := by decide +kernel
theorem dX11_watch_59 : decode prog_13_method_74_code 59 = .ok (.lastore, 1) := by decide +kernel
theorem dX11_watch_60 : decode prog_13_method_74_code 60 = .ok (.aload_n 0, 1) := by decide +kernel
theorem dX11_watch_61 : decode prog_13_method_74_code 61 = .ok (.getfield 134, 3) := by decide +kernel
theorem dX11_watch_64 : decode prog_13_method_74_code 64 = .ok (.aload_n 0, 1) := by decide +kernel
theorem dX11_watch_65 : decode prog_13_method_74_code 65 = .ok (.getfield 327, 3) := by decide +kernel
theorem dX11_watch_68 : decode prog_13_method_74_code 68 = .ok (.iconst 0, 1) := by decide +kernel
theorem dX11_watch_69 : decode prog_13_method_74_code 69 = .ok (.bastore, 1) := by decide +kernel
theorem dX11_watch_70 : decode prog_13_method_74_code 70 = .ok (.aload_n 0, 1) := by decide +kernel
theorem dX11_watch_71 : decode prog_13_method_74_code 71 = .ok (.dup, 1) := by decide +kernel
theorem dX11_watch_72 : decode prog_13_method_74_code 72 = .ok (.getfield 327, 3) := by decide +kernel
theorem dX11_watch_75 : decode prog_13_method_74_code 75 = .ok (.iconst 1, 1) := by decide +kernel
theorem dX11_watch_76 : decode prog_13_method_74_code 76 = .ok (.iadd, 1) := by decide +kernel
theorem dX11_watch_77 : decode prog_13_method_74_code 77 = .ok (.putfield 327, 3) := by decide +kernel
theorem dX11_watch_80 : decode prog_13_method_74_code 80 = .ok (.aload_n 0, 1) := by decide +kernel
theorem dX11_watch_81 : decode prog_13_method_74_code 81 = .ok (.getfield 327, 3) := by decide +kernel
theorem dX11_watch_84 : decode prog_13_method_74_code 84 = .ok (.iconst 1, 1) := by decide +kernel
theorem dX11_watch_85 : decode prog_13_method_74_code 85 = .ok (.isub, 1) := by decide +kernel
theorem dX11_watch_86 : decode prog_13_method_74_code 86 = .ok (.ireturn, 1) := by decide +kernel
theorem dX11_way_0 : decode prog_13_method_63_code 0 = .ok (.iload_n 1, 1) := by decide +kernel
theorem dX11_way_1 : decode prog_13_method_63_code 1 = .ok (.invokestatic 361, 3) := by decide +kernel
theorem dX11_way_4 : decode prog_13_method_63_code 4 = .ok (.ifCond .eq 15, 3) := by decide +kernel
theorem dX11_way_7 : decode prog_13_method_63_code 7 = .ok (.iload_n 2, 1) := by decide +kernel
theorem dX11_way_8 : decode prog_13_method_63_code 8 = .ok (.invokestatic 361, 3) := by decide +kernel
theorem dX11_way_11 : decode prog_13_method_63_code 11 = .ok (.ifCond .eq 8, 3) := by decide +kernel
theorem dX11_way_14 : decode prog_13_method_63_code 14 = .ok (.iload_n 3, 1) := by decide +kernel
theorem dX11_way_15 : decode prog_13_method_63_code 15 = .ok (.iconst (-1), 1) := by decide +kernel
theorem dX11_way_16 : decode prog_13_method_63_code 16 = .ok (.if_icmp .ge 5, 3) := by decide +kernel
theorem dX11_way_19 : decode prog_13_method_63_code 19 = .ok (.iconst (-1), 1) := by decide +kernel
theorem dX11_way_20 : decode prog_13_method_63_code 20 = .ok (.ireturn, 1) := by decide +kernel
theorem dX11_way_21 : decode prog_13_method_63_code 21 = .ok (.iconst 0, 1) := by decide +kernel
theorem dX11_way_22 : decode prog_13_method_63_code 22 = .ok (.istore 4, 2) := by decide +kernel
theorem dX11_way_24 : decode prog_13_method_63_code 24 = .ok (.iload 4, 2) := by decide +kernel
theorem dX11_way_26 : decode prog_13_method_63_code 26 = .ok (.bipush 32, 2) := by decide +kernel
theorem dX11_way_28 : decode prog_13_method_63_code 28 = .ok (.if_icmp .ge 17, 3) := by decide +kernel
theorem dX11_way_31 : decode prog_13_method_63_code 31 = .ok (.aload_n 0, 1) := by decide +kernel
theorem dX11_way_32 : decode prog_13_method_63_code 32 = .ok (.getfield 167, 3) := by decide +kernel
theorem dX11_way_35 : decode prog_13_method_63_code 35 = .ok (.iload 4, 2) := by decide +kernel
theorem dX11_way_37 : decode prog_13_method_63_code 37 = .ok (.iconst (-1), 1) := by decide +kernel
theorem dX11_way_38 : decode prog_13_method_63_code 38 = .ok (.iastore, 1) := by decide +kernel
theorem dX11_way_39 : decode prog_13_method_63_code 39 = .ok (.iinc 4 1, 3) := by decide +kernel
theorem dX11_way_42 : decode prog_13_method_63_code 42 = .ok (.goto (-18), 3) := by decide +kernel
theorem dX11_way_45 : decode prog_13_method_63_code 45 = .ok (.iconst 1, 1) := by decide +kernel
theorem dX11_way_46 : decode prog_13_method_63_code 46 = .ok (.istore 4, 2) := by decide +kernel
theorem dX11_way_48 : decode prog_13_method_63_code 48 = .ok (.aload_n 0, 1) := by decide +kernel
theorem dX11_way_49 : decode prog_13_method_63_code 49 = .ok (.getfield 164, 3) := by decide +kernel
theorem dX11_way_52 : decode prog_13_method_63_code 52 = .ok (.iconst 0, 1) := by decide +kernel
theorem dX11_way_53 : decode prog_13_method_63_code 53 = .ok (.iload_n 2, 1) := by decide +kernel
theorem dX11_way_54 : decode prog_13_method_63_code 54 = .ok (.iastore, 1) := by decide +kernel
theorem dX11_way_55 : decode prog_13_method_63_code 55 = .ok (.aload_n 0, 1) := by decide +kernel
theorem dX11_way_56 : decode prog_13_method_63_code 56 = .ok (.getfield 167, 3) := by decide +kernel
theorem dX11_way_59 : decode prog_13_method_63_code 59 = .ok (.iload_n 2, 1) := by decide +kernel
theorem dX11_way_60 : decode prog_13_method_63_code 60 = .ok (.iload_n 2, 1) := by decide +kernel
theorem dX11_way_61 : decode prog_13_method_63_code 61 = .ok (.iastore, 1) := by decide +kernel
theorem dX11_way_62 : decode prog_13_method_63_code 62 = .ok (.iconst 0, 1) := by decide +kernel
theorem dX11_way_63 : decode prog_13_method_63_code 63 = .ok (.istore 5, 2) := by decide +kernel
theorem dX11_way_65 : decode prog_13_method_63_code 65 = .ok (.iload 5, 2) := by decide +kernel
theorem dX11_way_67 : decode prog_13_method_63_code 67 = .ok (.iload 4, 2) := by decide +kernel
theorem dX11_way_69 : decode prog_13_method_63_code 69 = .ok (.if_icmp .ge 89, 3) := by decide +kernel
theorem dX11_way_72 : decode prog_13_method_63_code 72 = .ok (.aload_n 0, 1) := by decide +kernel
theorem dX11_way_73 : decode prog_13_method_63_code 73 = .ok (.getfield 164, 3) := by decide +kernel
theorem dX11_way_76 : decode prog_13_method_63_code 76 = .ok (.iload 5, 2) := by decide +kernel
theorem dX11_way_78 : decode prog_13_method_63_code 78 = .ok (.iaload, 1) := by decide +kernel
theorem dX11_way_79 : decode prog_13_method_63_code 79 = .ok (.istore 6, 2) := by decide +kernel
theorem dX11_way_81 : decode prog_13_method_63_code 81 = .ok (.iconst 0, 1) := by decide +kernel
theorem dX11_way_82 : decode prog_13_method_63_code 82 = .ok (.istore 7, 2) := by decide +kernel
theorem dX11_way_84 : decode prog_13_method_63_code 84 = .ok (.iload 7, 2) := by decide +kernel
theorem dX11_way_86 : decode prog_13_method_63_code 86 = .ok (.aload_n 0, 1) := by decide +kernel
theorem dX11_way_87 : decode prog_13_method_63_code 87 = .ok (.getfield 21, 3) := by decide +kernel
theorem dX11_way_90 : decode prog_13_method_63_code 90 = .ok (.iload 6, 2) := by decide +kernel
theorem dX11_way_92 : decode prog_13_method_63_code 92 = .ok (.iaload, 1) := by decide +kernel
theorem dX11_way_93 : decode prog_13_method_63_code 93 = .ok (.if_icmp .ge 59, 3) := by decide +kernel
theorem dX11_way_96 : decode prog_13_method_63_code 96 = .ok (.aload_n 0, 1) := by decide +kernel
theorem dX11_way_97 : decode prog_13_method_63_code 97 = .ok (.getfield 34, 3) := by decide +kernel
theorem dX11_way_100 : decode prog_13_method_63_code 100 = .ok (.bipush 32, 2) := by decide +kernel
theorem dX11_way_102 : decode prog_13_method_63_code 102 = .ok (.iload 6, 2) := by decide +kernel
theorem dX11_way_104 : decode prog_13_method_63_code 104 = .ok (.imul, 1) := by decide +kernel
theorem dX11_way_105 : decode prog_13_method_63_code 105 = .ok (.iload 7, 2) := by decide +kernel
theorem dX11_way_107 : decode prog_13_method_63_code 107 = .ok (.iadd, 1) := by decide +kernel
theorem dX11_way_108 : decode prog_13_method_63_code 108 = .ok (.iaload, 1) := by decide +kernel
theorem dX11_way_109 : decode prog_13_method_63_code 109 = .ok (.istore 8, 2) := by decide +kernel
theorem dX11_way_111 : decode prog_13_method_63_code 111 = .ok (.aload_n 0, 1) := by decide +kernel
theorem dX11_way_112 : decode prog_13_method_63_code 112 = .ok (.getfield 167, 3) := by decide +kernel
theorem dX11_way_115 : decode prog_13_method_63_code 115 = .ok (.iload 8, 2) := by decide +kernel
theorem dX11_way_117 : decode prog_13_method_63_code 117 = .ok (.iaload, 1) := by decide +kernel
theorem dX11_way_118 : decode prog_13_method_63_code 118 = .ok (.iconst (-1), 1) := by decide +kernel
theorem dX11_way_119 : decode prog_13_method_63_code 119 = .ok (.if_icmp .eq 6, 3) := by decide +kernel
theorem dX11_way_122 : decode prog_13_method_63_code 122 = .ok (.goto 24, 3) := by decide +kernel
theorem dX11_way_125 : decode prog_13_method_63_code 125 = .ok (.aload_n 0, 1) := by decide +kernel
theorem dX11_way_126 : decode prog_13_method_63_code 126 = .ok (.getfield 167, 3) := by decide +kernel
theorem dX11_way_129 : decode prog_13_method_63_code 129 = .ok (.iload 8, 2) := by decide +kernel
theorem dX11_way_131 : decode prog_13_method_63_code 131 = .ok (.iload 6, 2) := by decide +kernel
theorem dX11_way_133 : decode prog_13_method_63_code 133 = .ok (.iastore, 1) := by decide +kernel
theorem dX11_way_134 : decode prog_13_method_63_code 134 = .ok (.aload_n 0, 1) := by decide +kernel
theorem dX11_way_135 : decode prog_13_method_63_code 135 = .ok (.getfield 164, 3) := by decide +kernel
theorem dX11_way_138 : decode prog_13_method_63_code 138 = .ok (.iload 4, 2) := by decide +kernel
theorem dX11_way_140 : decode prog_13_method_63_code 140 = .ok (.iload 8, 2) := by decide +kernel
theorem dX11_way_142 : decode prog_13_method_63_code 142 = .ok (.iastore, 1) := by decide +kernel
theorem dX11_way_143 : decode prog_13_method_63_code 143 = .ok (.iinc 4 1, 3) := by decide +kernel
theorem dX11_way_146 : decode prog_13_method_63_code 146 = .ok (.iinc 7 1, 3) := by decide +kernel
theorem dX11_way_149 : decode prog_13_method_63_code 149 = .ok (.goto (-65), 3) := by decide +kernel
theorem dX11_way_152 : decode prog_13_method_63_code 152 = .ok (.iinc 5 1, 3) := by decide +kernel
theorem dX11_way_155 : decode prog_13_method_63_code 155 = .ok (.goto (-90), 3) := by decide +kernel
theorem dX11_way_158 : decode prog_13_method_63_code 158 = .ok (.aload_n 0, 1) := by decide +kernel
theorem dX11_way_159 : decode prog_13_method_63_code 159 = .ok (.getfield 167, 3) := by decide +kernel
theorem dX11_way_162 : decode prog_13_method_63_code 162 = .ok (.iload_n 1, 1) := by decide +kernel
theorem dX11_way_163 : decode prog_13_method_63_code 163 = .ok (.iaload, 1) := by decide +kernel
theorem dX11_way_164 : decode prog_13_method_63_code 164 = .ok (.iconst (-1), 1) := by decide +kernel
theorem dX11_way_165 : decode prog_13_method_63_code 165 = .ok (.if_icmp .ne 6, 3) := by decide +kernel
theorem dX11_way_168 : decode prog_13_method_63_code 168 = .ok (.bipush (-5), 2) := by decide +kernel
theorem dX11_way_170 : decode prog_13_method_63_code 170 = .ok (.ireturn, 1) := by decide +kernel
theorem dX11_way_171 : decode prog_13_method_63_code 171 = .ok (.iconst 0, 1) := by decide +kernel
theorem dX11_way_172 : decode prog_13_method_63_code 172 = .ok (.istore 5, 2) := by decide +kernel
theorem dX11_way_174 : decode prog_13_method_63_code 174 = .ok (.iload_n 1, 1) := by decide +kernel
theorem dX11_way_175 : decode prog_13_method_63_code 175 = .ok (.istore 6, 2) := by decide +kernel
theorem dX11_way_177 : decode prog_13_method_63_code 177 = .ok (.iload_n 3, 1) := by decide +kernel
theorem dX11_way_178 : decode prog_13_method_63_code 178 = .ok (.ifCond .ne 7, 3) := by decide +kernel
theorem dX11_way_181 : decode prog_13_method_63_code 181 = .ok (.iload_n 1, 1) := by decide +kernel
theorem dX11_way_182 : decode prog_13_method_63_code 182 = .ok (.goto 4, 3) := by decide +kernel
theorem dX11_way_185 : decode prog_13_method_63_code 185 = .ok (.iconst (-1), 1) := by decide +kernel
theorem dX11_way_186 : decode prog_13_method_63_code 186 = .ok (.istore 7, 2) := by decide +kernel
theorem dX11_way_188 : decode prog_13_method_63_code 188 = .ok (.iload 6, 2) := by decide +kernel
theorem dX11_way_190 : decode prog_13_method_63_code 190 = .ok (.iload_n 2, 1) := by decide +kernel
theorem dX11_way_191 : decode prog_13_method_63_code 191 = .ok (.if_icmp .eq 28, 3) := by decide +kernel
theorem dX11_way_194 : decode prog_13_method_63_code 194 = .ok (.aload_n 0, 1) := by decide +kernel
theorem dX11_way_195 : decode prog_13_method_63_code 195 = .ok (.getfield 167, 3) := by decide +kernel
theorem dX11_way_198 : decode prog_13_method_63_code 198 = .ok (.iload 6, 2) := by decide +kernel
theorem dX11_way_200 : decode prog_13_method_63_code 200 = .ok (.iaload, 1) := by decide +kernel
theorem dX11_way_201 : decode prog_13_method_63_code 201 = .ok (.istore 6, 2) := by decide +kernel
theorem dX11_way_203 : decode prog_13_method_63_code 203 = .ok (.iinc 5 1, 3) := by decide +kernel
theorem dX11_way_206 : decode prog_13_method_63_code 206 = .ok (.iload 5, 2) := by decide +kernel
theorem dX11_way_208 : decode prog_13_method_63_code 208 = .ok (.iload_n 3, 1) := by decide +kernel
theorem dX11_way_209 : decode prog_13_method_63_code 209 = .ok (.if_icmp .ne (-21), 3) := by decide +kernel
theorem dX11_way_212 : decode prog_13_method_63_code 212 = .ok (.iload 6, 2) := by decide +kernel
theorem dX11_way_214 : decode prog_13_method_63_code 214 = .ok (.istore 7, 2) := by decide +kernel
theorem dX11_way_216 : decode prog_13_method_63_code 216 = .ok (.goto (-28), 3) := by decide +kernel
theorem dX11_way_219 : decode prog_13_method_63_code 219 = .ok (.iload_n 3, 1) := by decide +kernel
theorem dX11_way_220 : decode prog_13_method_63_code 220 = .ok (.iconst (-1), 1) := by decide +kernel
theorem dX11_way_221 : decode prog_13_method_63_code 221 = .ok (.if_icmp .ne 8, 3) := by decide +kernel
theorem dX11_way_224 : decode prog_13_method_63_code 224 = .ok (.iload 5, 2) := by decide +kernel
theorem dX11_way_226 : decode prog_13_method_63_code 226 = .ok (.goto 5, 3) := by decide +kernel
theorem dX11_way_229 : decode prog_13_method_63_code 229 = .ok (.iload 7, 2) := by decide +kernel
theorem dX11_way_231 : decode prog_13_method_63_code 231 = .ok (.ireturn, 1) := by decide +kernel
theorem dX11_whatIf_0 : decode prog_13_method_65_code 0 = .ok (.iload_n 1, 1) := by decide +kernel
theorem dX11_whatIf_1 : decode prog_13_method_65_code 1 = .ok (.invokestatic 361, 3) := by decide +kernel
theorem dX11_whatIf_4 : decode prog_13_method_65_code 4 = .ok (.ifCond .eq 11, 3) := by decide +kernel
theorem dX11_whatIf_7 : decode prog_13_method_65_code 7 = .ok (.iload 4, 2) := by decide +kernel
theorem dX11_whatIf_9 : decode prog_13_method_65_code 9 = .ok (.invokestatic 361, 3) := by decide +kernel
theorem dX11_whatIf_12 : decode prog_13_method_65_code 12 = .ok (.ifCond .ne 7, 3) := by decide +kernel
theorem dX11_whatIf_15 : decode prog_13_method_65_code 15 = .ok (.ldc2_w 255, 3) := by decide +kernel
theorem dX11_whatIf_18 : decode prog_13_method_65_code 18 = .ok (.lreturn, 1) := by decide +kernel
theorem dX11_whatIf_19 : decode prog_13_method_65_code 19 = .ok (.aload_n 0, 1) := by decide +kernel
theorem dX11_whatIf_20 : decode prog_13_method_65_code 20 = .ok (.iload_n 1, 1) := by decide +kernel
theorem dX11_whatIf_21 : decode prog_13_method_65_code 21 = .ok (.lload_n 2, 1) := by decide +kernel
theorem dX11_whatIf_22 : decode prog_13_method_65_code 22 = .ok (.iload 4, 2) := by decide +kernel
theorem dX11_whatIf_24 : decode prog_13_method_65_code 24 = .ok (.invokevirtual 401, 3) := by decide +kernel
theorem dX11_whatIf_27 : decode prog_13_method_65_code 27 = .ok (.ifCond .lt 10, 3) := by decide +kernel
theorem dX11_whatIf_30 : decode prog_13_method_65_code 30 = .ok (.aload_n 0, 1) := by decide +kernel
theorem dX11_whatIf_31 : decode prog_13_method_65_code 31 = .ok (.getfield 398, 3) := by decide +kernel
theorem dX11_whatIf_34 : decode prog_13_method_65_code 34 = .ok (.ifCond .eq 9, 3) := by decide +kernel
theorem dX11_whatIf_37 : decode prog_13_method_65_code 37 = .ok (.ldc2_w 255, 3) := by decide +kernel
theorem dX11_whatIf_40 : decode prog_13_method_65_code 40 = .ok (.goto 7, 3) := by decide +kernel
theorem dX11_whatIf_43 : decode prog_13_method_65_code 43 = .ok (.aload_n 0, 1) := by decide +kernel
theorem dX11_whatIf_44 : decode prog_13_method_65_code 44 = .ok (.getfield 394, 3) := by decide +kernel
theorem dX11_whatIf_47 : decode prog_13_method_65_code 47 = .ok (.lreturn, 1) := by decide +kernel
theorem dX11_why_0 : decode prog_13_method_62_code 0 = .ok (.iload_n 1, 1) := by decide +kernel
theorem dX11_why_1 : decode prog_13_method_62_code 1 = .ok (.invokestatic 361, 3) := by decide +kernel
theorem dX11_why_4 : decode prog_13_method_62_code 4 = .ok (.ifCond .eq 7, 3) := by decide +kernel
theorem dX11_why_7 : decode prog_13_method_62_code 7 = .ok (.iload_n 2, 1) := by decide +kernel
theorem dX11_why_8 : decode prog_13_method_62_code 8 = .ok (.ifCond .ge 5, 3) := by decide +kernel
theorem dX11_why_11 : decode prog_13_method_62_code 11 = .ok (.iconst (-1), 1) := by decide +kernel
theorem dX11_why_12 : decode prog_13_method_62_code 12 = .ok (.ireturn, 1) := by decide +kernel
theorem dX11_why_13 : decode prog_13_method_62_code 13 = .ok (.aload_n 0, 1) := by decide +kernel
theorem dX11_why_14 : decode prog_13_method_62_code 14 = .ok (.getfield 24, 3) := by decide +kernel
theorem dX11_why_17 : decode prog_13_method_62_code 17 = .ok (.iload_n 1, 1) := by decide +kernel
theorem dX11_why_18 : decode prog_13_method_62_code 18 = .ok (.iaload, 1) := by decide +kernel
theorem dX11_why_19 : decode prog_13_method_62_code 19 = .ok (.istore_n 3, 1) := by decide +kernel
theorem dX11_why_20 : decode prog_13_method_62_code 20 = .ok (.iconst 0, 1) := by decide +kernel
theorem dX11_why_21 : decode prog_13_method_62_code 21 = .ok (.istore 4, 2) := by decide +kernel
theorem dX11_why_23 : decode prog_13_method_62_code 23 = .ok (.iload 4, 2) := by decide +kernel
theorem dX11_why_25 : decode prog_13_method_62_code 25 = .ok (.iload_n 2, 1) := by decide +kernel
theorem dX11_why_26 : decode prog_13_method_62_code 26 = .ok (.if_icmp .ge 20, 3) := by decide +kernel
theorem dX11_why_29 : decode prog_13_method_62_code 29 = .ok (.iload_n 3, 1) := by decide +kernel
theorem dX11_why_30 : decode prog_13_method_62_code 30 = .ok (.ifCond .lt 16, 3) := by decide +kernel
theorem dX11_why_33 : decode prog_13_method_62_code 33 = .ok (.aload_n 0, 1) := by decide +kernel
theorem dX11_why_34 : decode prog_13_method_62_code 34 = .ok (.getfield 24, 3) := by decide +kernel
theorem dX11_why_37 : decode prog_13_method_62_code 37 = .ok (.iload_n 3, 1) := by decide +kernel
theorem dX11_why_38 : decode prog_13_method_62_code 38 = .ok (.iaload, 1) := by decide +kernel
theorem dX11_why_39 : decode prog_13_method_62_code 39 = .ok (.istore_n 3, 1) := by decide +kernel
theorem dX11_why_40 : decode prog_13_method_62_code 40 = .ok (.iinc 4 1, 3) := by decide +kernel
theorem dX11_why_43 : decode prog_13_method_62_code 43 = .ok (.goto (-20), 3) := by decide +kernel
theorem dX11_why_46 : decode prog_13_method_62_code 46 = .ok (.iload_n 3, 1) := by decide +kernel
theorem dX11_why_47 : decode prog_13_method_62_code 47 = .ok (.ifCond .ge 7, 3) := by decide +kernel
theorem dX11_why_50 : decode prog_13_method_62_code 50 = .ok (.iconst (-1), 1) := by decide +kernel
theorem dX11_why_51 : decode prog_13_method_62_code 51 = .ok (.goto 4, 3) := by decide +kernel
theorem dX11_why_54 : decode prog_13_method_62_code 54 = .ok (.iload_n 3, 1) := by decide +kernel
theorem dX11_why_55 : decode prog_13_method_62_code 55 = .ok (.ireturn, 1) := by decide +kernel
theorem dX11_would_0 : decode prog_13_method_66_code 0 = .ok (.iload_n 1, 1) := by decide +kernel
theorem dX11_would_1 : decode prog_13_method_66_code 1 = .ok (.invokestatic 361, 3) := by decide +kernel
theorem dX11_would_4 : decode prog_13_method_66_code 4 = .ok (.ifCond .ne 7, 3) := by decide +kernel
theorem dX11_would_7 : decode prog_13_method_66_code 7 = .ok (.iconst (-1), 1) := by decide +kernel
theorem dX11_would_8 : decode prog_13_method_66_code 8 = .ok (.goto 10, 3) := by decide +kernel
theorem dX11_would_11 : decode prog_13_method_66_code 11 = .ok (.aload_n 0, 1) := by decide +kernel
theorem dX11_would_12 : decode prog_13_method_66_code 12 = .ok (.iload_n 1, 1) := by decide +kernel
theorem dX11_would_13 : decode prog_13_method_66_code 13 = .ok (.lload_n 2, 1) := by decide +kernel
theorem dX11_would_14 : decode prog_13_method_66_code 14 = .ok (.iload_n 1, 1) := by decide +kernel
theorem dX11_would_15 : decode prog_13_method_66_code 15 = .ok (.invokevirtual 401, 3) := by decide +kernel
theorem dX11_would_18 : decode prog_13_method_66_code 18 = .ok (.ireturn, 1) := by decide +kernel
/-! ReactiveSheetModel.height(I)I ['m'] -/
abbrev rm_M_X11_height__0 : Room := { frames := 1, cells := 0, slots := 0, locals := 21 }
def b_M_X11_height__0_53  (t : fw_S) (x2 : Int32) : Option (Int32 × fw_S) := some (((1 : Int32)) + x2, t)
def b_M_X11_height__0_26 (k16 : fw_S → Int32 → Int32 → Int32 → Option (Int32 × fw_S)) (t : fw_S) (x1 : Int32) (x2 : Int32) (x3 : Int32) : Option (Int32 × fw_S) := fb_g (¬ (((((32 : Int32)) * x1) + x3) < 0 ∨ 1024 ≤ ((((32 : Int32)) * x1) + x3).toNatClampNeg)) (fb_g (¬ ((st_F t 6 ((((32 : Int32)) * x1) + x3).toNatClampNeg) < 0 ∨ 32 ≤ (st_F t 6 ((((32 : Int32)) * x1) + x3).toNatClampNeg).toNatClampNeg)) (fb_b (f_M_J9_max_7cf53 t x2 (st_F t 40 (st_F t 6 ((((32 : Int32)) * x1) + x3).toNatClampNeg).toNatClampNeg)) fun v_2 t_1 => (k16 t_1 x1 v_2 (x3 + 1))))
def b_M_X11_height__0_16  : Nat → (fw_S → Int32 → Int32 → Int32 → Option (Int32 × fw_S))
  | 0 => fun _ _ _ _ => none
  | n + 1 => fun t x1 x2 x3 => fb_g (¬ (x1 < 0 ∨ 32 ≤ x1.toNatClampNeg)) (if (st_F t 3 x1.toNatClampNeg) ≤ x3 then b_M_X11_height__0_53 t x2 else b_M_X11_height__0_26 (b_M_X11_height__0_16 n) t x1 x2 x3)
def b_M_X11_height__0_12  (t : fw_S) (x1 : Int32) : Option (Int32 × fw_S) := b_M_X11_height__0_16 3000 t x1 ((0 : Int32)) ((0 : Int32))
def b_M_X11_height__0_10  (t : fw_S)  : Option (Int32 × fw_S) := some ((0 : Int32), t)
def b_M_X11_height__0_0  (t : fw_S) (x1 : Int32) : Option (Int32 × fw_S) := fb_g (¬ (x1 < 0 ∨ 32 ≤ x1.toNatClampNeg)) (if (st_F t 0 x1.toNatClampNeg) = ((2 : Int32)) then b_M_X11_height__0_12 t x1 else b_M_X11_height__0_10 t)
def f_M_X11_height__0 (t : fw_S) (x1 : Int32) : Option (Int32 × fw_S) := b_M_X11_height__0_0 t x1
set_option maxRecDepth 20000 in
theorem w_M_X11_height__0_53 {p : Program} {l : Launch} {e : Env} {s : State} {m : MethodId} {args : Array Value} {below : List Frame} {meth : Method} {c : Code} {A : Nat → Prop} {Q : State → Prop} {D : va_G} {ca : Nat → ClassId} {a : Nat → Nat} {u : fw_S} {r : Int32}  (C : CX (WM ca a) D (tyv ca) p s m args c A prog_13_method_54_code 4 RX11) (hr : True → RX (WM ca a) D p l e rm_M_X11_height__0 s m args below meth c A prog_13_method_54_code Q .ireturn [.int r] u) {t : fw_S} {x2 : Int32} {H : Heap} {locs : List Loc} {ls : Array Slot} (hf : b_M_X11_height__0_53  t x2 = some (r, u)) (hP : va_P D classes (WM ca a t) H) (hS : va_S A s.heap H locs) (hl : lv_has ls 4 [(2, .int x2)]) : W p l e rm_M_X11_height__0 s m args below meth c H locs 0 0 Q (F0 m 53 ls []) := by
  obtain ⟨hx, hb, hml, hown, hts, hN, hK, hD, hA⟩ := id C
  have hf : (some (((1 : Int32)) + x2, t)) = some (r, u) := hf
  refine lv_iconst (v := 1) hx hb dX11_height_53 (by decide) ?_
  refine lv_iload_n hx hb dX11_height_54 rfl (lv_at hl 0 rfl) ?_
  refine lv_iadd hx hb dX11_height_55 ?_
  obtain ⟨e_56, e2_56⟩ := fb_e hf
  subst e_56; subst e2_56
  exact hr trivial _ _ _ _ hP hS dX11_height_56
set_option maxRecDepth 20000 in
theorem w_M_X11_height__0_26 {p : Program} {l : Launch} {e : Env} {s : State} {m : MethodId} {args : Array Value} {below : List Frame} {meth : Method} {c : Code} {A : Nat → Prop} {Q : State → Prop} {D : va_G} {ca : Nat → ClassId} {a : Nat → Nat} {u : fw_S} {r : Int32} {k16 : fw_S → Int32 → Int32 → Int32 → Option (Int32 × fw_S)} (C : CX (WM ca a) D (tyv ca) p s m args c A prog_13_method_54_code 4 RX11) (hr : True → RX (WM ca a) D p l e rm_M_X11_height__0 s m args below meth c A prog_13_method_54_code Q .ireturn [.int r] u) (hk16 : ∀ (t : fw_S) (x1 : Int32) (x2 : Int32) (x3 : Int32) (H : Heap) (locs : List Loc) (ls : Array Slot), k16 t x1 x2 x3 = some (r, u) → va_P D classes (WM ca a t) H → va_S A s.heap H locs → lv_has ls 4 [(0, .ref (a 0)), (1, .int x1), (2, .int x2), (3, .int x3)] → W p l e rm_M_X11_height__0 s m args below meth c H locs 0 0 Q (F0 m 16 ls [])) {t : fw_S} {x1 : Int32} {x2 : Int32} {x3 : Int32} {H : Heap} {locs : List Loc} {ls : Array Slot} (hf : b_M_X11_height__0_26 k16 t x1 x2 x3 = some (r, u)) (hP : va_P D classes (WM ca a t) H) (hS : va_S A s.heap H locs) (hl : lv_has ls 4 [(0, .ref (a 0)), (1, .int x1), (2, .int x2), (3, .int x3)]) : W p l e rm_M_X11_height__0 s m args below meth c H locs 0 0 Q (F0 m 26 ls []) := by
  obtain ⟨hx, hb, hml, hown, hts, hN, hK, hD, hA⟩ := id C
  have hf : (fb_g (¬ (((((32 : Int32)) * x1) + x3) < 0 ∨ 1024 ≤ ((((32 : Int32)) * x1) + x3).toNatClampNeg)) (fb_g (¬ ((st_F t 6 ((((32 : Int32)) * x1) + x3).toNatClampNeg) < 0 ∨ 32 ≤ (st_F t 6 ((((32 : Int32)) * x1) + x3).toNatClampNeg).toNatClampNeg)) (fb_b (f_M_J9_max_7cf53 t x2 (st_F t 40 (st_F t 6 ((((32 : Int32)) * x1) + x3).toNatClampNeg).toNatClampNeg)) fun v_2 t_1 => (k16 t_1 x1 v_2 (x3 + 1))))) = some (r, u) := hf
  refine lv_iload_n hx hb dX11_height_26 rfl (lv_at hl 2 rfl) ?_
  refine lv_aload_n hx hb dX11_height_27 rfl (lv_at hl 0 rfl) ?_
  refine va_get (D := D) (ci := 11) (v := .ref (a 50)) (C := RX11) (T := TX11) (N := 76) hx hb hts inX11 hown hK hP 0 (heM_0 ca a t) rfl 70 (by decide) (hts _ kw_1262) (fun _ h9 => h9) rfl dX11_height_28 ?_
  refine lv_aload_n hx hb dX11_height_31 rfl (lv_at hl 0 rfl) ?_
  refine va_get (D := D) (ci := 11) (v := .ref (a 8)) (C := RX11) (T := TX11) (N := 76) hx hb hts inX11 hown hK hP 0 (heM_0 ca a t) rfl 7 (by decide) (hts _ kw_1199) (fun _ h9 => h9) rfl dX11_height_32 ?_
  refine lv_bipush (v := 32) hx hb dX11_height_35 (by decide) ?_
  refine lv_iload_n hx hb dX11_height_37 rfl (lv_at hl 1 rfl) ?_
  refine lv_imul hx hb dX11_height_38 ?_
  refine lv_iload_n hx hb dX11_height_39 rfl (lv_at hl 3 rfl) ?_
  refine lv_iadd hx hb dX11_height_40 ?_
  obtain ⟨h_41, hf⟩ := fb_if hf
  refine va_iald hx hb hK hP 8 0 (haM_8 ca a t) rfl h_41 dX11_height_41 ?_
  obtain ⟨h_42, hf⟩ := fb_if hf
  refine va_iald hx hb hK hP 50 0 (haM_50 ca a t) rfl h_42 dX11_height_42 ?_
  obtain ⟨v_2, t_1, g_43, hf⟩ := fb_bs hf
  refine fw_S1 (As := [.int x2, .int (st_F t 40 (st_F t 6 ((((32 : Int32)) * x1) + x3).toNatClampNeg).toNatClampNeg)]) (rest := []) (n := 2) C (c_M_J9_max_7cf53 (l := l) (D := D) (ca := ca) (a := a) g_43) kw_1644 kw_606 kw_106 kw_607 hP hS hl rfl rfl (by decide) (by decide +kernel) ⟨Nat.le_of_ble_eq_true rfl, Nat.le_of_ble_eq_true rfl⟩ rfl rfl (Nat.le_of_ble_eq_true rfl) dX11_height_43 (fun H locs hP hS => ?_)
  refine W.eq (g2 := F0 m 46 ls [.int v_2]) rfl ?_
  refine lv_istore_n (lv' := [(2, .int v_2), (0, .ref (a 0)), (1, .int x1), (3, .int x3)]) hx hb dX11_height_46 rfl hl (by decide) rfl (fun ls hl => ?_)
  refine lv_iinc (v := x3 + 1) (lv' := [(3, .int (x3 + 1)), (2, .int v_2), (0, .ref (a 0)), (1, .int x1)]) hx hb dX11_height_47 hl (k := 3) rfl rfl (by decide) rfl (fun ls hl => ?_)
  refine lv_goto (tgt := 16) hx hb dX11_height_50 (by decide) ?_
  exact hk16 t_1 x1 v_2 (x3 + 1) _ _ _ hf hP hS (lv_sub hl [2, 3, 1, 0] rfl)
set_option maxRecDepth 20000 in
theorem w_M_X11_height__0_16 {p : Program} {l : Launch} {e : Env} {s : State} {m : MethodId} {args : Array Value} {below : List Frame} {meth : Method} {c : Code} {A : Nat → Prop} {Q : State → Prop} {D : va_G} {ca : Nat → ClassId} {a : Nat → Nat} {u : fw_S} {r : Int32}  (C : CX (WM ca a) D (tyv ca) p s m args c A prog_13_method_54_code 4 RX11) (hr : True → RX (WM ca a) D p l e rm_M_X11_height__0 s m args below meth c A prog_13_method_54_code Q .ireturn [.int r] u) : ∀ (n : Nat) (t : fw_S) (x1 : Int32) (x2 : Int32) (x3 : Int32) (H : Heap) (locs : List Loc) (ls : Array Slot), b_M_X11_height__0_16  n t x1 x2 x3 = some (r, u) → va_P D classes (WM ca a t) H → va_S A s.heap H locs → lv_has ls 4 [(0, .ref (a 0)), (1, .int x1), (2, .int x2), (3, .int x3)] → W p l e rm_M_X11_height__0 s m args below meth c H locs 0 0 Q (F0 m 16 ls []) := by
  obtain ⟨hx, hb, hml, hown, hts, hN, hK, hD, hA⟩ := id C
  intro n
  induction n with
  | zero => intro t x1 x2 x3 H locs ls hf; cases hf
  | succ n hk16 =>
    intro t x1 x2 x3 H locs ls hf hP hS hl
    have hf : (fb_g (¬ (x1 < 0 ∨ 32 ≤ x1.toNatClampNeg)) (if (st_F t 3 x1.toNatClampNeg) ≤ x3 then b_M_X11_height__0_53 t x2 else b_M_X11_height__0_26 (b_M_X11_height__0_16 n) t x1 x2 x3)) = some (r, u) := hf
    refine lv_iload_n hx hb dX11_height_16 rfl (lv_at hl 3 rfl) ?_
    refine lv_aload_n hx hb dX11_height_17 rfl (lv_at hl 0 rfl) ?_
    refine va_get (D := D) (ci := 11) (v := .ref (a 4)) (C := RX11) (T := TX11) (N := 76) hx hb hts inX11 hown hK hP 0 (heM_0 ca a t) rfl 3 (by decide) (hts _ kw_1195) (fun _ h9 => h9) rfl dX11_height_18 ?_
    refine lv_iload_n hx hb dX11_height_21 rfl (lv_at hl 1 rfl) ?_
    obtain ⟨h_22, hf⟩ := fb_if hf
    refine va_iald hx hb hK hP 4 0 (haM_4 ca a t) rfl h_22 dX11_height_22 ?_
    refine lv_icmp_ge (tgt := 53) hx hb dX11_height_23 (by decide) (fun h_23 => ?_) (fun h_23 => ?_)
    · have hf := fb_t h_23 hf
      exact w_M_X11_height__0_53 C hr hf hP hS (lv_sub hl [2] rfl)
    · have hf := fb_f h_23 hf
      exact w_M_X11_height__0_26 C hr hk16 hf hP hS (lv_sub hl [0, 1, 2, 3] rfl)
set_option maxRecDepth 20000 in
theorem w_M_X11_height__0_12 {p : Program} {l : Launch} {e : Env} {s : State} {m : MethodId} {args : Array Value} {below : List Frame} {meth : Method} {c : Code} {A : Nat → Prop} {Q : State → Prop} {D : va_G} {ca : Nat → ClassId} {a : Nat → Nat} {u : fw_S} {r : Int32}  (C : CX (WM ca a) D (tyv ca) p s m args c A prog_13_method_54_code 4 RX11) (hr : True → RX (WM ca a) D p l e rm_M_X11_height__0 s m args below meth c A prog_13_method_54_code Q .ireturn [.int r] u) {t : fw_S} {x1 : Int32} {H : Heap} {locs : List Loc} {ls : Array Slot} (hf : b_M_X11_height__0_12  t x1 = some (r, u)) (hP : va_P D classes (WM ca a t) H) (hS : va_S A s.heap H locs) (hl : lv_has ls 4 [(0, .ref (a 0)), (1, .int x1)]) : W p l e rm_M_X11_height__0 s m args below meth c H locs 0 0 Q (F0 m 12 ls []) := by
  obtain ⟨hx, hb, hml, hown, hts, hN, hK, hD, hA⟩ := id C
  have hf : (b_M_X11_height__0_16 3000 t x1 ((0 : Int32)) ((0 : Int32))) = some (r, u) := hf
  refine lv_iconst (v := 0) hx hb dX11_height_12 (by decide) ?_
  refine lv_istore_n (lv' := [(2, .int ((0 : Int32))), (0, .ref (a 0)), (1, .int x1)]) hx hb dX11_height_13 rfl hl (by decide) rfl (fun ls hl => ?_)
  refine lv_iconst (v := 0) hx hb dX11_height_14 (by decide) ?_
  refine lv_istore_n (lv' := [(3, .int ((0 : Int32))), (2, .int ((0 : Int32))), (0, .ref (a 0)), (1, .int x1)]) hx hb dX11_height_15 rfl hl (by decide) rfl (fun ls hl => ?_)
  exact w_M_X11_height__0_16 C hr 3000 t x1 ((0 : Int32)) ((0 : Int32)) _ _ _ hf hP hS (lv_sub hl [2, 3, 1, 0] rfl)
set_option maxRecDepth 20000 in
theorem w_M_X11_height__0_10 {p : Program} {l : Launch} {e : Env} {s : State} {m : MethodId} {args : Array Value} {below : List Frame} {meth : Method} {c : Code} {A : Nat → Prop} {Q : State → Prop} {D : va_G} {ca : Nat → ClassId} {a : Nat → Nat} {u : fw_S} {r : Int32}  (C : CX (WM ca a) D (tyv ca) p s m args c A prog_13_method_54_code 4 RX11) (hr : True → RX (WM ca a) D p l e rm_M_X11_height__0 s m args below meth c A prog_13_method_54_code Q .ireturn [.int r] u) {t : fw_S}  {H : Heap} {locs : List Loc} {ls : Array Slot} (hf : b_M_X11_height__0_10  t  = some (r, u)) (hP : va_P D classes (WM ca a t) H) (hS : va_S A s.heap H locs) (hl : lv_has ls 4 []) : W p l e rm_M_X11_height__0 s m args below meth c H locs 0 0 Q (F0 m 10 ls []) := by
  obtain ⟨hx, hb, hml, hown, hts, hN, hK, hD, hA⟩ := id C
  have hf : (some ((0 : Int32), t)) = some (r, u) := hf
  refine lv_iconst (v := 0) hx hb dX11_height_10 (by decide) ?_
  obtain ⟨e_11, e2_11⟩ := fb_e hf
  subst e_11; subst e2_11
  exact hr trivial _ _ _ _ hP hS dX11_height_11
set_option maxRecDepth 20000 in
theorem w_M_X11_height__0_0 {p : Program} {l : Launch} {e : Env} {s : State} {m : MethodId} {args : Array Value} {below : List Frame} {meth : Method} {c : Code} {A : Nat → Prop} {Q : State → Prop} {D : va_G} {ca : Nat → ClassId} {a : Nat → Nat} {u : fw_S} {r : Int32}  (C : CX (WM ca a) D (tyv ca) p s m args c A prog_13_method_54_code 4 RX11) (hr : True → RX (WM ca a) D p l e rm_M_X11_height__0 s m args below meth c A prog_13_method_54_code Q .ireturn [.int r] u) {t : fw_S} {x1 : Int32} {H : Heap} {locs : List Loc} {ls : Array Slot} (hf : b_M_X11_height__0_0  t x1 = some (r, u)) (hP : va_P D classes (WM ca a t) H) (hS : va_S A s.heap H locs) (hl : lv_has ls 4 [(0, .ref (a 0)), (1, .int x1)]) : W p l e rm_M_X11_height__0 s m args below meth c H locs 0 0 Q (F0 m 0 ls []) := by
  obtain ⟨hx, hb, hml, hown, hts, hN, hK, hD, hA⟩ := id C
  have hf : (fb_g (¬ (x1 < 0 ∨ 32 ≤ x1.toNatClampNeg)) (if (st_F t 0 x1.toNatClampNeg) = ((2 : Int32)) then b_M_X11_height__0_12 t x1 else b_M_X11_height__0_10 t)) = some (r, u) := hf
  refine lv_aload_n hx hb dX11_height_0 rfl (lv_at hl 0 rfl) ?_
  refine va_get (D := D) (ci := 11) (v := .ref (a 1)) (C := RX11) (T := TX11) (N := 76) hx hb hts inX11 hown hK hP 0 (heM_0 ca a t) rfl 0 (by decide) (hts _ kw_1192) (fun _ h9 => h9) rfl dX11_height_1 ?_
  refine lv_iload_n hx hb dX11_height_4 rfl (lv_at hl 1 rfl) ?_
  obtain ⟨h_5, hf⟩ := fb_if hf
  refine va_iald hx hb hK hP 1 0 (haM_1 ca a t) rfl h_5 dX11_height_5 ?_
  refine lv_iconst (v := 2) hx hb dX11_height_6 (by decide) ?_
  refine lv_icmp_eq (tgt := 12) hx hb dX11_height_7 (by decide) (fun h_7 => ?_) (fun h_7 => ?_)
  · have hf := fb_t h_7 hf
    exact w_M_X11_height__0_12 C hr hf hP hS (lv_sub hl [0, 1] rfl)
  · have hf := fb_f h_7 hf
    exact w_M_X11_height__0_10 C hr hf hP hS (lv_sub hl [] rfl)
set_option maxRecDepth 20000 in
theorem c_M_X11_height__0 {l : Launch} {D : va_G} {ca : Nat → ClassId} {a : Nat → Nat} {t : fw_S} {x1 : Int32} {u : fw_S} {r : Int32} (hf : f_M_X11_height__0 t x1 = some (r, u)) : MC (WM ca a) D (tyv ca) l yX11_height (.code yX11_height prog_13_method_54_code 4 (some .int) :: lw_gd) rm_M_X11_height__0 [.ref (a 0), .int x1] (some (.int r)) t u := by
  refine fw_met (okM ca a) (by decide +kernel) rfl rfl (Nat.le_of_ble_eq_true rfl) ?_
  intro p e s m args below meth c A Q ls C hr hk hP hS hl hQ
  exact w_M_X11_height__0_0 C (fun _ => fw_ri C hr hk hQ) hf hP hS (lv_sub hl [0, 1] rfl)
/-! ReactiveSheetModel.tellHeights()V ['m'] -/
abbrev rm_M_X11_tellHeights__0 : Room := { frames := 2, cells := 0, slots := 0, locals := 44 }
def b_M_X11_tellHeights__0_60  (t : fw_S)  : Option fw_S := some t
def b_M_X11_tellHeights__0_54 (k23 : fw_S → Int32 → Option fw_S) (t : fw_S) (x1 : Int32) : Option fw_S := k23 t (x1 + 1)
def b_M_X11_tellHeights__0_37 (k23 : fw_S → Int32 → Option fw_S) (k31 : fw_S → Int32 → Int32 → Option fw_S) (t : fw_S) (x1 : Int32) (x2 : Int32) : Option fw_S := fb_b (f_M_X11_height__0 t x2) fun v_2 t_1 => (fb_g (¬ (x2 < 0 ∨ 32 ≤ x2.toNatClampNeg)) (fb_l (up_F t_1 40 (upd (st_F t_1 40) x2.toNatClampNeg v_2)) fun t_3 => (k31 t_3 x1 (x2 + 1))))
def b_M_X11_tellHeights__0_31 (k23 : fw_S → Int32 → Option fw_S) : Nat → (fw_S → Int32 → Int32 → Option fw_S)
  | 0 => fun _ _ _ => none
  | n + 1 => fun t x1 x2 => if ((32 : Int32)) ≤ x2 then b_M_X11_tellHeights__0_54 k23 t x1 else b_M_X11_tellHeights__0_37 k23 (b_M_X11_tellHeights__0_31 k23 n) t x1 x2
def b_M_X11_tellHeights__0_29 (k23 : fw_S → Int32 → Option fw_S) (t : fw_S) (x1 : Int32) : Option fw_S := b_M_X11_tellHeights__0_31 k23 3000 t x1 ((0 : Int32))
def b_M_X11_tellHeights__0_23  : Nat → (fw_S → Int32 → Option fw_S)
  | 0 => fun _ _ => none
  | n + 1 => fun t x1 => if ((33 : Int32)) ≤ x1 then b_M_X11_tellHeights__0_60 t else b_M_X11_tellHeights__0_29 (b_M_X11_tellHeights__0_23 n) t x1
def b_M_X11_tellHeights__0_21  (t : fw_S)  : Option fw_S := b_M_X11_tellHeights__0_23 3000 t ((0 : Int32))
def b_M_X11_tellHeights__0_8 (k2 : fw_S → Int32 → Option fw_S) (t : fw_S) (x1 : Int32) : Option fw_S := fb_g (¬ (x1 < 0 ∨ 32 ≤ x1.toNatClampNeg)) (fb_l (up_F t 40 (upd (st_F t 40) x1.toNatClampNeg ((0 : Int32)))) fun t_1 => (k2 t_1 (x1 + 1)))
def b_M_X11_tellHeights__0_2  : Nat → (fw_S → Int32 → Option fw_S)
  | 0 => fun _ _ => none
  | n + 1 => fun t x1 => if ((32 : Int32)) ≤ x1 then b_M_X11_tellHeights__0_21 t else b_M_X11_tellHeights__0_8 (b_M_X11_tellHeights__0_2 n) t x1
def b_M_X11_tellHeights__0_0  (t : fw_S)  : Option fw_S := b_M_X11_tellHeights__0_2 3000 t ((0 : Int32))
def f_M_X11_tellHeights__0 (t : fw_S)  : Option fw_S := b_M_X11_tellHeights__0_0 t 
set_option maxRecDepth 20000 in
theorem w_M_X11_tellHeights__0_60 {p : Program} {l : Launch} {e : Env} {s : State} {m : MethodId} {args : Array Value} {below : List Frame} {meth : Method} {c : Code} {A : Nat → Prop} {Q : State → Prop} {D : va_G} {ca : Nat → ClassId} {a : Nat → Nat} {u : fw_S}  (C : CX (WM ca a) D (tyv ca) p s m args c A prog_13_method_55_code 3 RX11) (hr : True → RX (WM ca a) D p l e rm_M_X11_tellHeights__0 s m args below meth c A prog_13_method_55_code Q .return_ [] u) {t : fw_S}  {H : Heap} {locs : List Loc} {ls : Array Slot} (hf : b_M_X11_tellHeights__0_60  t  = some u) (hP : va_P D classes (WM ca a t) H) (hS : va_S A s.heap H locs) (hl : lv_has ls 3 []) : W p l e rm_M_X11_tellHeights__0 s m args below meth c H locs 0 0 Q (F0 m 60 ls []) := by
  obtain ⟨hx, hb, hml, hown, hts, hN, hK, hD, hA⟩ := id C
  have hf : (some t) = some u := hf
  have e_60 := fb_ev hf
  subst e_60
  exact hr trivial _ _ _ _ hP hS dX11_tellHeights_60
set_option maxRecDepth 20000 in
theorem w_M_X11_tellHeights__0_54 {p : Program} {l : Launch} {e : Env} {s : State} {m : MethodId} {args : Array Value} {below : List Frame} {meth : Method} {c : Code} {A : Nat → Prop} {Q : State → Prop} {D : va_G} {ca : Nat → ClassId} {a : Nat → Nat} {u : fw_S} {k23 : fw_S → Int32 → Option fw_S} (C : CX (WM ca a) D (tyv ca) p s m args c A prog_13_method_55_code 3 RX11) (hr : True → RX (WM ca a) D p l e rm_M_X11_tellHeights__0 s m args below meth c A prog_13_method_55_code Q .return_ [] u) (hk23 : ∀ (t : fw_S) (x1 : Int32) (H : Heap) (locs : List Loc) (ls : Array Slot), k23 t x1 = some u → va_P D classes (WM ca a t) H → va_S A s.heap H locs → lv_has ls 3 [(0, .ref (a 0)), (1, .int x1)] → W p l e rm_M_X11_tellHeights__0 s m args below meth c H locs 0 0 Q (F0 m 23 ls [])) {t : fw_S} {x1 : Int32} {H : Heap} {locs : List Loc} {ls : Array Slot} (hf : b_M_X11_tellHeights__0_54 k23 t x1 = some u) (hP : va_P D classes (WM ca a t) H) (hS : va_S A s.heap H locs) (hl : lv_has ls 3 [(0, .ref (a 0)), (1, .int x1)]) : W p l e rm_M_X11_tellHeights__0 s m args below meth c H locs 0 0 Q (F0 m 54 ls []) := by
  obtain ⟨hx, hb, hml, hown, hts, hN, hK, hD, hA⟩ := id C
  have hf : (k23 t (x1 + 1)) = some u := hf
  refine lv_iinc (v := x1 + 1) (lv' := [(1, .int (x1 + 1)), (0, .ref (a 0))]) hx hb dX11_tellHeights_54 hl (k := 1) rfl rfl (by decide) rfl (fun ls hl => ?_)
  refine lv_goto (tgt := 23) hx hb dX11_tellHeights_57 (by decide) ?_
  exact hk23 t (x1 + 1) _ _ _ hf hP hS (lv_sub hl [1, 0] rfl)
set_option maxRecDepth 20000 in
theorem w_M_X11_tellHeights__0_37 {p : Program} {l : Launch} {e : Env} {s : State} {m : MethodId} {args : Array Value} {below : List Frame} {meth : Method} {c : Code} {A : Nat → Prop} {Q : State → Prop} {D : va_G} {ca : Nat → ClassId} {a : Nat → Nat} {u : fw_S} {k23 : fw_S → Int32 → Option fw_S} {k31 : fw_S → Int32 → Int32 → Option fw_S} (C : CX (WM ca a) D (tyv ca) p s m args c A prog_13_method_55_code 3 RX11) (hr : True → RX (WM ca a) D p l e rm_M_X11_tellHeights__0 s m args below meth c A prog_13_method_55_code Q .return_ [] u) (hk23 : ∀ (t : fw_S) (x1 : Int32) (H : Heap) (locs : List Loc) (ls : Array Slot), k23 t x1 = some u → va_P D classes (WM ca a t) H → va_S A s.heap H locs → lv_has ls 3 [(0, .ref (a 0)), (1, .int x1)] → W p l e rm_M_X11_tellHeights__0 s m args below meth c H locs 0 0 Q (F0 m 23 ls [])) (hk31 : ∀ (t : fw_S) (x1 : Int32) (x2 : Int32) (H : Heap) (locs : List Loc) (ls : Array Slot), k31 t x1 x2 = some u → va_P D classes (WM ca a t) H → va_S A s.heap H locs → lv_has ls 3 [(0, .ref (a 0)), (1, .int x1), (2, .int x2)] → W p l e rm_M_X11_tellHeights__0 s m args below meth c H locs 0 0 Q (F0 m 31 ls [])) {t : fw_S} {x1 : Int32} {x2 : Int32} {H : Heap} {locs : List Loc} {ls : Array Slot} (hf : b_M_X11_tellHeights__0_37 k23 k31 t x1 x2 = some u) (hP : va_P D classes (WM ca a t) H) (hS : va_S A s.heap H locs) (hl : lv_has ls 3 [(0, .ref (a 0)), (1, .int x1), (2, .int x2)]) : W p l e rm_M_X11_tellHeights__0 s m args below meth c H locs 0 0 Q (F0 m 37 ls []) := by
  obtain ⟨hx, hb, hml, hown, hts, hN, hK, hD, hA⟩ := id C
  have hf : (fb_b (f_M_X11_height__0 t x2) fun v_2 t_1 => (fb_g (¬ (x2 < 0 ∨ 32 ≤ x2.toNatClampNeg)) (fb_l (up_F t_1 40 (upd (st_F t_1 40) x2.toNatClampNeg v_2)) fun t_3 => (k31 t_3 x1 (x2 + 1))))) = some u := hf
  refine lv_aload_n hx hb dX11_tellHeights_37 rfl (lv_at hl 0 rfl) ?_
  refine va_get (D := D) (ci := 11) (v := .ref (a 50)) (C := RX11) (T := TX11) (N := 76) hx hb hts inX11 hown hK hP 0 (heM_0 ca a t) rfl 70 (by decide) (hts _ kw_1262) (fun _ h9 => h9) rfl dX11_tellHeights_38 ?_
  refine lv_iload_n hx hb dX11_tellHeights_41 rfl (lv_at hl 2 rfl) ?_
  refine lv_aload_n hx hb dX11_tellHeights_42 rfl (lv_at hl 0 rfl) ?_
  refine lv_iload_n hx hb dX11_tellHeights_43 rfl (lv_at hl 2 rfl) ?_
  obtain ⟨v_2, t_1, g_44, hf⟩ := fb_bs hf
  refine fw_V1 (As := [.int x2]) (rest := [.int x2, .ref (a 50)]) (n := 1) (q0 := 0) C (c_M_X11_height__0 (l := l) (D := D) (ca := ca) (a := a) g_44) kw_1640 kw_1642 kw_102 kw_1643 kw_80 hP hS hl (heM_0 ca a t) rfl rfl rfl (by decide) (by decide +kernel) ⟨Nat.le_of_ble_eq_true rfl, Nat.le_of_ble_eq_true rfl⟩ rfl rfl (Nat.le_of_ble_eq_true rfl) dX11_tellHeights_44 (fun H locs hP hS => ?_)
  refine W.eq (g2 := F0 m 47 ls [.int v_2, .int x2, .ref (a 50)]) rfl ?_
  obtain ⟨h_47, hf⟩ := fb_if hf
  refine va_iast hx hb hK hP (hD t_1) hS 50 0 (haM_50 ca a t_1) rfl h_47 dX11_tellHeights_47 (fun H locs hP _ hS => ?_)
  rw [saM_50] at hP
  obtain ⟨t_3, e_47, hf⟩ := fb_ls hf
  rw [← e_47] at hP
  refine lv_iinc (v := x2 + 1) (lv' := [(2, .int (x2 + 1)), (0, .ref (a 0)), (1, .int x1)]) hx hb dX11_tellHeights_48 hl (k := 2) rfl rfl (by decide) rfl (fun ls hl => ?_)
  refine lv_goto (tgt := 31) hx hb dX11_tellHeights_51 (by decide) ?_
  exact hk31 t_3 x1 (x2 + 1) _ _ _ hf hP hS (lv_sub hl [1, 2, 0] rfl)
set_option maxRecDepth 20000 in
theorem w_M_X11_tellHeights__0_31 {p : Program} {l : Launch} {e : Env} {s : State} {m : MethodId} {args : Array Value} {below : List Frame} {meth : Method} {c : Code} {A : Nat → Prop} {Q : State → Prop} {D : va_G} {ca : Nat → ClassId} {a : Nat → Nat} {u : fw_S} {k23 : fw_S → Int32 → Option fw_S} (C : CX (WM ca a) D (tyv ca) p s m args c A prog_13_method_55_code 3 RX11) (hr : True → RX (WM ca a) D p l e rm_M_X11_tellHeights__0 s m args below meth c A prog_13_method_55_code Q .return_ [] u) (hk23 : ∀ (t : fw_S) (x1 : Int32) (H : Heap) (locs : List Loc) (ls : Array Slot), k23 t x1 = some u → va_P D classes (WM ca a t) H → va_S A s.heap H locs → lv_has ls 3 [(0, .ref (a 0)), (1, .int x1)] → W p l e rm_M_X11_tellHeights__0 s m args below meth c H locs 0 0 Q (F0 m 23 ls [])) : ∀ (n : Nat) (t : fw_S) (x1 : Int32) (x2 : Int32) (H : Heap) (locs : List Loc) (ls : Array Slot), b_M_X11_tellHeights__0_31 k23 n t x1 x2 = some u → va_P D classes (WM ca a t) H → va_S A s.heap H locs → lv_has ls 3 [(0, .ref (a 0)), (1, .int x1), (2, .int x2)] → W p l e rm_M_X11_tellHeights__0 s m args below meth c H locs 0 0 Q (F0 m 31 ls []) := by
  obtain ⟨hx, hb, hml, hown, hts, hN, hK, hD, hA⟩ := id C
  intro n
  induction n with
  | zero => intro t x1 x2 H locs ls hf; cases hf
  | succ n hk31 =>
    intro t x1 x2 H locs ls hf hP hS hl
    have hf : (if ((32 : Int32)) ≤ x2 then b_M_X11_tellHeights__0_54 k23 t x1 else b_M_X11_tellHeights__0_37 k23 (b_M_X11_tellHeights__0_31 k23 n) t x1 x2) = some u := hf
    refine lv_iload_n hx hb dX11_tellHeights_31 rfl (lv_at hl 2 rfl) ?_
    refine lv_bipush (v := 32) hx hb dX11_tellHeights_32 (by decide) ?_
    refine lv_icmp_ge (tgt := 54) hx hb dX11_tellHeights_34 (by decide) (fun h_34 => ?_) (fun h_34 => ?_)
    · have hf := fb_t h_34 hf
      exact w_M_X11_tellHeights__0_54 C hr hk23 hf hP hS (lv_sub hl [0, 1] rfl)
    · have hf := fb_f h_34 hf
      exact w_M_X11_tellHeights__0_37 C hr hk23 hk31 hf hP hS (lv_sub hl [0, 1, 2] rfl)
set_option maxRecDepth 20000 in
theorem w_M_X11_tellHeights__0_29 {p : Program} {l : Launch} {e : Env} {s : State} {m : MethodId} {args : Array Value} {below : List Frame} {meth : Method} {c : Code} {A : Nat → Prop} {Q : State → Prop} {D : va_G} {ca : Nat → ClassId} {a : Nat → Nat} {u : fw_S} {k23 : fw_S → Int32 → Option fw_S} (C : CX (WM ca a) D (tyv ca) p s m args c A prog_13_method_55_code 3 RX11) (hr : True → RX (WM ca a) D p l e rm_M_X11_tellHeights__0 s m args below meth c A prog_13_method_55_code Q .return_ [] u) (hk23 : ∀ (t : fw_S) (x1 : Int32) (H : Heap) (locs : List Loc) (ls : Array Slot), k23 t x1 = some u → va_P D classes (WM ca a t) H → va_S A s.heap H locs → lv_has ls 3 [(0, .ref (a 0)), (1, .int x1)] → W p l e rm_M_X11_tellHeights__0 s m args below meth c H locs 0 0 Q (F0 m 23 ls [])) {t : fw_S} {x1 : Int32} {H : Heap} {locs : List Loc} {ls : Array Slot} (hf : b_M_X11_tellHeights__0_29 k23 t x1 = some u) (hP : va_P D classes (WM ca a t) H) (hS : va_S A s.heap H locs) (hl : lv_has ls 3 [(0, .ref (a 0)), (1, .int x1)]) : W p l e rm_M_X11_tellHeights__0 s m args below meth c H locs 0 0 Q (F0 m 29 ls []) := by
  obtain ⟨hx, hb, hml, hown, hts, hN, hK, hD, hA⟩ := id C
  have hf : (b_M_X11_tellHeights__0_31 k23 3000 t x1 ((0 : Int32))) = some u := hf
  refine lv_iconst (v := 0) hx hb dX11_tellHeights_29 (by decide) ?_
  refine lv_istore_n (lv' := [(2, .int ((0 : Int32))), (0, .ref (a 0)), (1, .int x1)]) hx hb dX11_tellHeights_30 rfl hl (by decide) rfl (fun ls hl => ?_)
  exact w_M_X11_tellHeights__0_31 C hr hk23 3000 t x1 ((0 : Int32)) _ _ _ hf hP hS (lv_sub hl [1, 2, 0] rfl)
set_option maxRecDepth 20000 in
theorem w_M_X11_tellHeights__0_23 {p : Program} {l : Launch} {e : Env} {s : State} {m : MethodId} {args : Array Value} {below : List Frame} {meth : Method} {c : Code} {A : Nat → Prop} {Q : State → Prop} {D : va_G} {ca : Nat → ClassId} {a : Nat → Nat} {u : fw_S}  (C : CX (WM ca a) D (tyv ca) p s m args c A prog_13_method_55_code 3 RX11) (hr : True → RX (WM ca a) D p l e rm_M_X11_tellHeights__0 s m args below meth c A prog_13_method_55_code Q .return_ [] u) : ∀ (n : Nat) (t : fw_S) (x1 : Int32) (H : Heap) (locs : List Loc) (ls : Array Slot), b_M_X11_tellHeights__0_23  n t x1 = some u → va_P D classes (WM ca a t) H → va_S A s.heap H locs → lv_has ls 3 [(0, .ref (a 0)), (1, .int x1)] → W p l e rm_M_X11_tellHeights__0 s m args below meth c H locs 0 0 Q (F0 m 23 ls []) := by
  obtain ⟨hx, hb, hml, hown, hts, hN, hK, hD, hA⟩ := id C
  intro n
  induction n with
  | zero => intro t x1 H locs ls hf; cases hf
  | succ n hk23 =>
    intro t x1 H locs ls hf hP hS hl
    have hf : (if ((33 : Int32)) ≤ x1 then b_M_X11_tellHeights__0_60 t else b_M_X11_tellHeights__0_29 (b_M_X11_tellHeights__0_23 n) t x1) = some u := hf
    refine lv_iload_n hx hb dX11_tellHeights_23 rfl (lv_at hl 1 rfl) ?_
    refine lv_bipush (v := 33) hx hb dX11_tellHeights_24 (by decide) ?_
    refine lv_icmp_ge (tgt := 60) hx hb dX11_tellHeights_26 (by decide) (fun h_26 => ?_) (fun h_26 => ?_)
    · have hf := fb_t h_26 hf
      exact w_M_X11_tellHeights__0_60 C hr hf hP hS (lv_sub hl [] rfl)
    · have hf := fb_f h_26 hf
      exact w_M_X11_tellHeights__0_29 C hr hk23 hf hP hS (lv_sub hl [0, 1] rfl)
set_option maxRecDepth 20000 in
theorem w_M_X11_tellHeights__0_21 {p : Program} {l : Launch} {e : Env} {s : State} {m : MethodId} {args : Array Value} {below : List Frame} {meth : Method} {c : Code} {A : Nat → Prop} {Q : State → Prop} {D : va_G} {ca : Nat → ClassId} {a : Nat → Nat} {u : fw_S}  (C : CX (WM ca a) D (tyv ca) p s m args c A prog_13_method_55_code 3 RX11) (hr : True → RX (WM ca a) D p l e rm_M_X11_tellHeights__0 s m args below meth c A prog_13_method_55_code Q .return_ [] u) {t : fw_S}  {H : Heap} {locs : List Loc} {ls : Array Slot} (hf : b_M_X11_tellHeights__0_21  t  = some u) (hP : va_P D classes (WM ca a t) H) (hS : va_S A s.heap H locs) (hl : lv_has ls 3 [(0, .ref (a 0))]) : W p l e rm_M_X11_tellHeights__0 s m args below meth c H locs 0 0 Q (F0 m 21 ls []) := by
  obtain ⟨hx, hb, hml, hown, hts, hN, hK, hD, hA⟩ := id C
  have hf : (b_M_X11_tellHeights__0_23 3000 t ((0 : Int32))) = some u := hf
  refine lv_iconst (v := 0) hx hb dX11_tellHeights_21 (by decide) ?_
  refine lv_istore_n (lv' := [(1, .int ((0 : Int32))), (0, .ref (a 0))]) hx hb dX11_tellHeights_22 rfl hl (by decide) rfl (fun ls hl => ?_)
  exact w_M_X11_tellHeights__0_23 C hr 3000 t ((0 : Int32)) _ _ _ hf hP hS (lv_sub hl [1, 0] rfl)
set_option maxRecDepth 20000 in
theorem w_M_X11_tellHeights__0_8 {p : Program} {l : Launch} {e : Env} {s : State} {m : MethodId} {args : Array Value} {below : List Frame} {meth : Method} {c : Code} {A : Nat → Prop} {Q : State → Prop} {D : va_G} {ca : Nat → ClassId} {a : Nat → Nat} {u : fw_S} {k2 : fw_S → Int32 → Option fw_S} (C : CX (WM ca a) D (tyv ca) p s m args c A prog_13_method_55_code 3 RX11) (hr : True → RX (WM ca a) D p l e rm_M_X11_tellHeights__0 s m args below meth c A prog_13_method_55_code Q .return_ [] u) (hk2 : ∀ (t : fw_S) (x1 : Int32) (H : Heap) (locs : List Loc) (ls : Array Slot), k2 t x1 = some u → va_P D classes (WM ca a t) H → va_S A s.heap H locs → lv_has ls 3 [(0, .ref (a 0)), (1, .int x1)] → W p l e rm_M_X11_tellHeights__0 s m args below meth c H locs 0 0 Q (F0 m 2 ls [])) {t : fw_S} {x1 : Int32} {H : Heap} {locs : List Loc} {ls : Array Slot} (hf : b_M_X11_tellHeights__0_8 k2 t x1 = some u) (hP : va_P D classes (WM ca a t) H) (hS : va_S A s.heap H locs) (hl : lv_has ls 3 [(0, .ref (a 0)), (1, .int x1)]) : W p l e rm_M_X11_tellHeights__0 s m args below meth c H locs 0 0 Q (F0 m 8 ls []) := by
  obtain ⟨hx, hb, hml, hown, hts, hN, hK, hD, hA⟩ := id C
  have hf : (fb_g (¬ (x1 < 0 ∨ 32 ≤ x1.toNatClampNeg)) (fb_l (up_F t 40 (upd (st_F t 40) x1.toNatClampNeg ((0 : Int32)))) fun t_1 => (k2 t_1 (x1 + 1)))) = some u := hf
  refine lv_aload_n hx hb dX11_tellHeights_8 rfl (lv_at hl 0 rfl) ?_
  refine va_get (D := D) (ci := 11) (v := .ref (a 50)) (C := RX11) (T := TX11) (N := 76) hx hb hts inX11 hown hK hP 0 (heM_0 ca a t) rfl 70 (by decide) (hts _ kw_1262) (fun _ h9 => h9) rfl dX11_tellHeights_9 ?_
  refine lv_iload_n hx hb dX11_tellHeights_12 rfl (lv_at hl 1 rfl) ?_
  refine lv_iconst (v := 0) hx hb dX11_tellHeights_13 (by decide) ?_
  obtain ⟨h_14, hf⟩ := fb_if hf
  refine va_iast hx hb hK hP (hD t) hS 50 0 (haM_50 ca a t) rfl h_14 dX11_tellHeights_14 (fun H locs hP _ hS => ?_)
  rw [saM_50] at hP
  obtain ⟨t_1, e_14, hf⟩ := fb_ls hf
  rw [← e_14] at hP
  refine lv_iinc (v := x1 + 1) (lv' := [(1, .int (x1 + 1)), (0, .ref (a 0))]) hx hb dX11_tellHeights_15 hl (k := 1) rfl rfl (by decide) rfl (fun ls hl => ?_)
  refine lv_goto (tgt := 2) hx hb dX11_tellHeights_18 (by decide) ?_
  exact hk2 t_1 (x1 + 1) _ _ _ hf hP hS (lv_sub hl [1, 0] rfl)
set_option maxRecDepth 20000 in
theorem w_M_X11_tellHeights__0_2 {p : Program} {l : Launch} {e : Env} {s : State} {m : MethodId} {args : Array Value} {below : List Frame} {meth : Method} {c : Code} {A : Nat → Prop} {Q : State → Prop} {D : va_G} {ca : Nat → ClassId} {a : Nat → Nat} {u : fw_S}  (C : CX (WM ca a) D (tyv ca) p s m args c A prog_13_method_55_code 3 RX11) (hr : True → RX (WM ca a) D p l e rm_M_X11_tellHeights__0 s m args below meth c A prog_13_method_55_code Q .return_ [] u) : ∀ (n : Nat) (t : fw_S) (x1 : Int32) (H : Heap) (locs : List Loc) (ls : Array Slot), b_M_X11_tellHeights__0_2  n t x1 = some u → va_P D classes (WM ca a t) H → va_S A s.heap H locs → lv_has ls 3 [(0, .ref (a 0)), (1, .int x1)] → W p l e rm_M_X11_tellHeights__0 s m args below meth c H locs 0 0 Q (F0 m 2 ls []) := by
  obtain ⟨hx, hb, hml, hown, hts, hN, hK, hD, hA⟩ := id C
  intro n
  induction n with
  | zero => intro t x1 H locs ls hf; cases hf
  | succ n hk2 =>
    intro t x1 H locs ls hf hP hS hl
    have hf : (if ((32 : Int32)) ≤ x1 then b_M_X11_tellHeights__0_21 t else b_M_X11_tellHeights__0_8 (b_M_X11_tellHeights__0_2 n) t x1) = some u := hf
    refine lv_iload_n hx hb dX11_tellHeights_2 rfl (lv_at hl 1 rfl) ?_
    refine lv_bipush (v := 32) hx hb dX11_tellHeights_3 (by decide) ?_
    refine lv_icmp_ge (tgt := 21) hx hb dX11_tellHeights_5 (by decide) (fun h_5 => ?_) (fun h_5 => ?_)
    · have hf := fb_t h_5 hf
      exact w_M_X11_tellHeights__0_21 C hr hf hP hS (lv_sub hl [0] rfl)
    · have hf := fb_f h_5 hf
      exact w_M_X11_tellHeights__0_8 C hr hk2 hf hP hS (lv_sub hl [0, 1] rfl)
set_option maxRecDepth 20000 in
theorem w_M_X11_tellHeights__0_0 {p : Program} {l : Launch} {e : Env} {s : State} {m : MethodId} {args : Array Value} {below : List Frame} {meth : Method} {c : Code} {A : Nat → Prop} {Q : State → Prop} {D : va_G} {ca : Nat → ClassId} {a : Nat → Nat} {u : fw_S}  (C : CX (WM ca a) D (tyv ca) p s m args c A prog_13_method_55_code 3 RX11) (hr : True → RX (WM ca a) D p l e rm_M_X11_tellHeights__0 s m args below meth c A prog_13_method_55_code Q .return_ [] u) {t : fw_S}  {H : Heap} {locs : List Loc} {ls : Array Slot} (hf : b_M_X11_tellHeights__0_0  t  = some u) (hP : va_P D classes (WM ca a t) H) (hS : va_S A s.heap H locs) (hl : lv_has ls 3 [(0, .ref (a 0))]) : W p l e rm_M_X11_tellHeights__0 s m args below meth c H locs 0 0 Q (F0 m 0 ls []) := by
  obtain ⟨hx, hb, hml, hown, hts, hN, hK, hD, hA⟩ := id C
  have hf : (b_M_X11_tellHeights__0_2 3000 t ((0 : Int32))) = some u := hf
  refine lv_iconst (v := 0) hx hb dX11_tellHeights_0 (by decide) ?_
  refine lv_istore_n (lv' := [(1, .int ((0 : Int32))), (0, .ref (a 0))]) hx hb dX11_tellHeights_1 rfl hl (by decide) rfl (fun ls hl => ?_)
  exact w_M_X11_tellHeights__0_2 C hr 3000 t ((0 : Int32)) _ _ _ hf hP hS (lv_sub hl [1, 0] rfl)
set_option maxRecDepth 20000 in
theorem c_M_X11_tellHeights__0 {l : Launch} {D : va_G} {ca : Nat → ClassId} {a : Nat → Nat} {t : fw_S}  {u : fw_S} (hf : f_M_X11_tellHeights__0 t  = some u) : MC (WM ca a) D (tyv ca) l yX11_tellHeights (.code yX11_tellHeights prog_13_method_55_code 3 none :: lw_gd) rm_M_X11_tellHeights__0 [.ref (a 0)] none t u := by
  refine fw_met (okM ca a) (by decide +kernel) rfl rfl (Nat.le_of_ble_eq_true rfl) ?_
  intro p e s m args below meth c A Q ls C hr hk hP hS hl hQ
  exact w_M_X11_tellHeights__0_0 C (fun _ => fw_rv C hr hk hQ) hf hP hS (lv_sub hl [0] rfl)
/-! ReactiveSheetModel.of(II)I ['m'] -/
abbrev rm_M_X11_of__0 : Room := { frames := 4, cells := 0, slots := 0, locals := 92 }
def b_M_X11_of__0_17  (t : fw_S)  : Option (Int32 × fw_S) := some ((-1 : Int32), t)
def b_M_X11_of__0_72  (t : fw_S) (x1 : Int32) : Option (Int32 × fw_S) := fb_g (¬ (x1 < 0 ∨ 32 ≤ x1.toNatClampNeg)) (some (st_F t 0 x1.toNatClampNeg, t))
def b_M_X11_of__0_79  (t : fw_S) (x1 : Int32) : Option (Int32 × fw_S) := fb_g (¬ (x1 < 0 ∨ 32 ≤ x1.toNatClampNeg)) (some (st_F t 1 x1.toNatClampNeg, t))
def b_M_X11_of__0_86  (t : fw_S) (x1 : Int32) : Option (Int32 × fw_S) := fb_v (f_M_X11_tellHeights__0 t) fun t_1 => (fb_g (¬ (x1 < 0 ∨ 32 ≤ x1.toNatClampNeg)) (some (st_F t_1 40 x1.toNatClampNeg, t_1)))
def b_M_X11_of__0_97  (t : fw_S) (x1 : Int32) : Option (Int32 × fw_S) := fb_g (¬ (x1 < 0 ∨ 32 ≤ x1.toNatClampNeg)) (some (st_F t 2 x1.toNatClampNeg, t))
def b_M_X11_of__0_104  (t : fw_S) (x1 : Int32) : Option (Int32 × fw_S) := fb_g (¬ (x1 < 0 ∨ 32 ≤ x1.toNatClampNeg)) (some (st_F t 3 x1.toNatClampNeg, t))
def b_M_X11_of__0_111  (t : fw_S) (x1 : Int32) : Option (Int32 × fw_S) := fb_b (f_M_X11_readers__0 t x1) fun v_2 t_1 => (fb_b (f_M_X11_ones t_1 v_2) fun v_4 t_3 => (some (v_4, t_3)))
def b_M_X11_of__0_134  (t : fw_S) (z0 : Int32) : Option (Int32 × fw_S) := some (z0, t)
def b_M_X11_of__0_133  (t : fw_S)  : Option (Int32 × fw_S) := b_M_X11_of__0_134 t ((0 : Int32))
def b_M_X11_of__0_129  (t : fw_S)  : Option (Int32 × fw_S) := b_M_X11_of__0_134 t ((1 : Int32))
def b_M_X11_of__0_120  (t : fw_S) (x1 : Int32) : Option (Int32 × fw_S) := fb_g (¬ (x1 < 0 ∨ 32 ≤ x1.toNatClampNeg)) (if (st_F t 7 x1.toNatClampNeg) = 0 then b_M_X11_of__0_133 t else b_M_X11_of__0_129 t)
def b_M_X11_of__0_149  (t : fw_S) (z0 : Int32) : Option (Int32 × fw_S) := some (z0, t)
def b_M_X11_of__0_148  (t : fw_S)  : Option (Int32 × fw_S) := b_M_X11_of__0_149 t ((0 : Int32))
def b_M_X11_of__0_144  (t : fw_S)  : Option (Int32 × fw_S) := b_M_X11_of__0_149 t ((1 : Int32))
def b_M_X11_of__0_135  (t : fw_S) (x1 : Int32) : Option (Int32 × fw_S) := fb_g (¬ (x1 < 0 ∨ 32 ≤ x1.toNatClampNeg)) (if (st_F t 8 x1.toNatClampNeg) = 0 then b_M_X11_of__0_148 t else b_M_X11_of__0_144 t)
def b_M_X11_of__0_150  (t : fw_S) (x1 : Int32) : Option (Int32 × fw_S) := fb_g (¬ (x1 < 0 ∨ 32 ≤ x1.toNatClampNeg)) (some (st_F t 4 x1.toNatClampNeg, t))
def b_M_X11_of__0_157  (t : fw_S) (x1 : Int32) : Option (Int32 × fw_S) := fb_b (f_M_X11_below__0 t x1) fun v_2 t_1 => (some (v_2, t_1))
def b_M_X11_of__0_19  (t : fw_S) (x1 : Int32) (x2 : Int32) : Option (Int32 × fw_S) := if x2 = 0 then b_M_X11_of__0_72 t x1 else if x2 = 1 then b_M_X11_of__0_79 t x1 else if x2 = 2 then b_M_X11_of__0_86 t x1 else if x2 = 3 then b_M_X11_of__0_97 t x1 else if x2 = 4 then b_M_X11_of__0_104 t x1 else if x2 = 5 then b_M_X11_of__0_111 t x1 else if x2 = 6 then b_M_X11_of__0_120 t x1 else if x2 = 7 then b_M_X11_of__0_135 t x1 else if x2 = 8 then b_M_X11_of__0_150 t x1 else b_M_X11_of__0_157 t x1
def b_M_X11_of__0_7  (t : fw_S) (x1 : Int32) (x2 : Int32) : Option (Int32 × fw_S) := fb_b (f_M_X11_isIn t x2 ((0 : Int32)) ((9 : Int32))) fun v_2 t_1 => (if v_2 = 0 then b_M_X11_of__0_17 t_1 else b_M_X11_of__0_19 t_1 x1 x2)
def b_M_X11_of__0_0  (t : fw_S) (x1 : Int32) (x2 : Int32) : Option (Int32 × fw_S) := fb_b (f_M_X11_isCell t x1) fun v_2 t_1 => (if v_2 = 0 then b_M_X11_of__0_17 t_1 else b_M_X11_of__0_7 t_1 x1 x2)
def f_M_X11_of__0 (t : fw_S) (x1 : Int32) (x2 : Int32) : Option (Int32 × fw_S) := b_M_X11_of__0_0 t x1 x2
set_option maxRecDepth 20000 in
theorem w_M_X11_of__0_17 {p : Program} {l : Launch} {e : Env} {s : State} {m : MethodId} {args : Array Value} {below : List Frame} {meth : Method} {c : Code} {A : Nat → Prop} {Q : State → Prop} {D : va_G} {ca : Nat → ClassId} {a : Nat → Nat} {u : fw_S} {r : Int32}  (C : CX (WM ca a) D (tyv ca) p s m args c A prog_13_method_59_code 3 RX11) (hr : True → RX (WM ca a) D p l e rm_M_X11_of__0 s m args below meth c A prog_13_method_59_code Q .ireturn [.int r] u) {t : fw_S}  {H : Heap} {locs : List Loc} {ls : Array Slot} (hf : b_M_X11_of__0_17  t  = some (r, u)) (hP : va_P D classes (WM ca a t) H) (hS : va_S A s.heap H locs) (hl : lv_has ls 3 []) : W p l e rm_M_X11_of__0 s m args below meth c H locs 0 0 Q (F0 m 17 ls []) := by
  obtain ⟨hx, hb, hml, hown, hts, hN, hK, hD, hA⟩ := id C
  have hf : (some ((-1 : Int32), t)) = some (r, u) := hf
  refine lv_iconst (v := (-1)) hx hb dX11_of_17 (by decide) ?_
  obtain ⟨e_18, e2_18⟩ := fb_e hf
  subst e_18; subst e2_18
  exact hr trivial _ _ _ _ hP hS dX11_of_18
set_option maxRecDepth 20000 in
theorem w_M_X11_of__0_72 {p : Program} {l : Launch} {e : Env} {s : State} {m : MethodId} {args : Array Value} {below : List Frame} {meth : Method} {c : Code} {A : Nat → Prop} {Q : State → Prop} {D : va_G} {ca : Nat → ClassId} {a : Nat → Nat} {u : fw_S} {r : Int32}  (C : CX (WM ca a) D (tyv ca) p s m args c A prog_13_method_59_code 3 RX11) (hr : True → RX (WM ca a) D p l e rm_M_X11_of__0 s m args below meth c A prog_13_method_59_code Q .ireturn [.int r] u) {t : fw_S} {x1 : Int32} {H : Heap} {locs : List Loc} {ls : Array Slot} (hf : b_M_X11_of__0_72  t x1 = some (r, u)) (hP : va_P D classes (WM ca a t) H) (hS : va_S A s.heap H locs) (hl : lv_has ls 3 [(0, .ref (a 0)), (1, .int x1)]) : W p l e rm_M_X11_of__0 s m args below meth c H locs 0 0 Q (F0 m 72 ls []) := by
  obtain ⟨hx, hb, hml, hown, hts, hN, hK, hD, hA⟩ := id C
  have hf : (fb_g (¬ (x1 < 0 ∨ 32 ≤ x1.toNatClampNeg)) (some (st_F t 0 x1.toNatClampNeg, t))) = some (r, u) := hf
  refine lv_aload_n hx hb dX11_of_72 rfl (lv_at hl 0 rfl) ?_
  refine va_get (D := D) (ci := 11) (v := .ref (a 1)) (C := RX11) (T := TX11) (N := 76) hx hb hts inX11 hown hK hP 0 (heM_0 ca a t) rfl 0 (by decide) (hts _ kw_1192) (fun _ h9 => h9) rfl dX11_of_73 ?_
  refine lv_iload_n hx hb dX11_of_76 rfl (lv_at hl 1 rfl) ?_
  obtain ⟨h_77, hf⟩ := fb_if hf
  refine va_iald hx hb hK hP 1 0 (haM_1 ca a t) rfl h_77 dX11_of_77 ?_
  obtain ⟨e_78, e2_78⟩ := fb_e hf
  subst e_78; subst e2_78
  exact hr trivial _ _ _ _ hP hS dX11_of_78
set_option maxRecDepth 20000 in
theorem w_M_X11_of__0_79 {p : Program} {l : Launch} {e : Env} {s : State} {m : MethodId} {args : Array Value} {below : List Frame} {meth : Method} {c : Code} {A : Nat → Prop} {Q : State → Prop} {D : va_G} {ca : Nat → ClassId} {a : Nat → Nat} {u : fw_S} {r : Int32}  (C : CX (WM ca a) D (tyv ca) p s m args c A prog_13_method_59_code 3 RX11) (hr : True → RX (WM ca a) D p l e rm_M_X11_of__0 s m args below meth c A prog_13_method_59_code Q .ireturn [.int r] u) {t : fw_S} {x1 : Int32} {H : Heap} {locs : List Loc} {ls : Array Slot} (hf : b_M_X11_of__0_79  t x1 = some (r, u)) (hP : va_P D classes (WM ca a t) H) (hS : va_S A s.heap H locs) (hl : lv_has ls 3 [(0, .ref (a 0)), (1, .int x1)]) : W p l e rm_M_X11_of__0 s m args below meth c H locs 0 0 Q (F0 m 79 ls []) := by
  obtain ⟨hx, hb, hml, hown, hts, hN, hK, hD, hA⟩ := id C
  have hf : (fb_g (¬ (x1 < 0 ∨ 32 ≤ x1.toNatClampNeg)) (some (st_F t 1 x1.toNatClampNeg, t))) = some (r, u) := hf
  refine lv_aload_n hx hb dX11_of_79 rfl (lv_at hl 0 rfl) ?_
  refine va_get (D := D) (ci := 11) (v := .ref (a 2)) (C := RX11) (T := TX11) (N := 76) hx hb hts inX11 hown hK hP 0 (heM_0 ca a t) rfl 1 (by decide) (hts _ kw_1193) (fun _ h9 => h9) rfl dX11_of_80 ?_
  refine lv_iload_n hx hb dX11_of_83 rfl (lv_at hl 1 rfl) ?_
  obtain ⟨h_84, hf⟩ := fb_if hf
  refine va_iald hx hb hK hP 2 0 (haM_2 ca a t) rfl h_84 dX11_of_84 ?_
  obtain ⟨e_85, e2_85⟩ := fb_e hf
  subst e_85; subst e2_85
  exact hr trivial _ _ _ _ hP hS dX11_of_85
set_option maxRecDepth 20000 in
theorem w_M_X11_of__0_86 {p : Program} {l : Launch} {e : Env} {s : State} {m : MethodId} {args : Array Value} {below : List Frame} {meth : Method} {c : Code} {A : Nat → Prop} {Q : State → Prop} {D : va_G} {ca : Nat → ClassId} {a : Nat → Nat} {u : fw_S} {r : Int32}  (C : CX (WM ca a) D (tyv ca) p s m args c A prog_13_method_59_code 3 RX11) (hr : True → RX (WM ca a) D p l e rm_M_X11_of__0 s m args below meth c A prog_13_method_59_code Q .ireturn [.int r] u) {t : fw_S} {x1 : Int32} {H : Heap} {locs : List Loc} {ls : Array Slot} (hf : b_M_X11_of__0_86  t x1 = some (r, u)) (hP : va_P D classes (WM ca a t) H) (hS : va_S A s.heap H locs) (hl : lv_has ls 3 [(0, .ref (a 0)), (1, .int x1)]) : W p l e rm_M_X11_of__0 s m args below meth c H locs 0 0 Q (F0 m 86 ls []) := by
  obtain ⟨hx, hb, hml, hown, hts, hN, hK, hD, hA⟩ := id C
  have hf : (fb_v (f_M_X11_tellHeights__0 t) fun t_1 => (fb_g (¬ (x1 < 0 ∨ 32 ≤ x1.toNatClampNeg)) (some (st_F t_1 40 x1.toNatClampNeg, t_1)))) = some (r, u) := hf
  refine lv_aload_n hx hb dX11_of_86 rfl (lv_at hl 0 rfl) ?_
  obtain ⟨t_1, g_87, hf⟩ := fb_vs hf
  refine fw_V1 (As := []) (rest := []) (n := 0) (q0 := 0) C (c_M_X11_tellHeights__0 (l := l) (D := D) (ca := ca) (a := a) g_87) kw_1636 kw_1638 kw_102 kw_1639 kw_79 hP hS hl (heM_0 ca a t) rfl rfl rfl (by decide) (by decide +kernel) ⟨Nat.le_of_ble_eq_true rfl, Nat.le_of_ble_eq_true rfl⟩ rfl rfl (Nat.le_of_ble_eq_true rfl) dX11_of_87 (fun H locs hP hS => ?_)
  refine W.eq (g2 := F0 m 90 ls []) rfl ?_
  refine lv_aload_n hx hb dX11_of_90 rfl (lv_at hl 0 rfl) ?_
  refine va_get (D := D) (ci := 11) (v := .ref (a 50)) (C := RX11) (T := TX11) (N := 76) hx hb hts inX11 hown hK hP 0 (heM_0 ca a t_1) rfl 70 (by decide) (hts _ kw_1262) (fun _ h9 => h9) rfl dX11_of_91 ?_
  refine lv_iload_n hx hb dX11_of_94 rfl (lv_at hl 1 rfl) ?_
  obtain ⟨h_95, hf⟩ := fb_if hf
  refine va_iald hx hb hK hP 50 0 (haM_50 ca a t_1) rfl h_95 dX11_of_95 ?_
  obtain ⟨e_96, e2_96⟩ := fb_e hf
  subst e_96; subst e2_96
  exact hr trivial _ _ _ _ hP hS dX11_of_96
set_option maxRecDepth 20000 in
theorem w_M_X11_of__0_97 {p : Program} {l : Launch} {e : Env} {s : State} {m : MethodId} {args : Array Value} {below : List Frame} {meth : Method} {c : Code} {A : Nat → Prop} {Q : State → Prop} {D : va_G} {ca : Nat → ClassId} {a : Nat → Nat} {u : fw_S} {r : Int32}  (C : CX (WM ca a) D (tyv ca) p s m args c A prog_13_method_59_code 3 RX11) (hr : True → RX (WM ca a) D p l e rm_M_X11_of__0 s m args below meth c A prog_13_method_59_code Q .ireturn [.int r] u) {t : fw_S} {x1 : Int32} {H : Heap} {locs : List Loc} {ls : Array Slot} (hf : b_M_X11_of__0_97  t x1 = some (r, u)) (hP : va_P D classes (WM ca a t) H) (hS : va_S A s.heap H locs) (hl : lv_has ls 3 [(0, .ref (a 0)), (1, .int x1)]) : W p l e rm_M_X11_of__0 s m args below meth c H locs 0 0 Q (F0 m 97 ls []) := by
  obtain ⟨hx, hb, hml, hown, hts, hN, hK, hD, hA⟩ := id C
  have hf : (fb_g (¬ (x1 < 0 ∨ 32 ≤ x1.toNatClampNeg)) (some (st_F t 2 x1.toNatClampNeg, t))) = some (r, u) := hf
  refine lv_aload_n hx hb dX11_of_97 rfl (lv_at hl 0 rfl) ?_
  refine va_get (D := D) (ci := 11) (v := .ref (a 3)) (C := RX11) (T := TX11) (N := 76) hx hb hts inX11 hown hK hP 0 (heM_0 ca a t) rfl 2 (by decide) (hts _ kw_1194) (fun _ h9 => h9) rfl dX11_of_98 ?_
  refine lv_iload_n hx hb dX11_of_101 rfl (lv_at hl 1 rfl) ?_
  obtain ⟨h_102, hf⟩ := fb_if hf
  refine va_iald hx hb hK hP 3 0 (haM_3 ca a t) rfl h_102 dX11_of_102 ?_
  obtain ⟨e_103, e2_103⟩ := fb_e hf
  subst e_103; subst e2_103
  exact hr trivial _ _ _ _ hP hS dX11_of_103
set_option maxRecDepth 20000 in
theorem w_M_X11_of__0_104 {p : Program} {l : Launch} {e : Env} {s : State} {m : MethodId} {args : Array Value} {below : List Frame} {meth : Method} {c : Code} {A : Nat → Prop} {Q : State → Prop} {D : va_G} {ca : Nat → ClassId} {a : Nat → Nat} {u : fw_S} {r : Int32}  (C : CX (WM ca a) D (tyv ca) p s m args c A prog_13_method_59_code 3 RX11) (hr : True → RX (WM ca a) D p l e rm_M_X11_of__0 s m args below meth c A prog_13_method_59_code Q .ireturn [.int r] u) {t : fw_S} {x1 : Int32} {H : Heap} {locs : List Loc} {ls : Array Slot} (hf : b_M_X11_of__0_104  t x1 = some (r, u)) (hP : va_P D classes (WM ca a t) H) (hS : va_S A s.heap H locs) (hl : lv_has ls 3 [(0, .ref (a 0)), (1, .int x1)]) : W p l e rm_M_X11_of__0 s m args below meth c H locs 0 0 Q (F0 m 104 ls []) := by
  obtain ⟨hx, hb, hml, hown, hts, hN, hK, hD, hA⟩ := id C
  have hf : (fb_g (¬ (x1 < 0 ∨ 32 ≤ x1.toNatClampNeg)) (some (st_F t 3 x1.toNatClampNeg, t))) = some (r, u) := hf
  refine lv_aload_n hx hb dX11_of_104 rfl (lv_at hl 0 rfl) ?_
  refine va_get (D := D) (ci := 11) (v := .ref (a 4)) (C := RX11) (T := TX11) (N := 76) hx hb hts inX11 hown hK hP 0 (heM_0 ca a t) rfl 3 (by decide) (hts _ kw_1195) (fun _ h9 => h9) rfl dX11_of_105 ?_
  refine lv_iload_n hx hb dX11_of_108 rfl (lv_at hl 1 rfl) ?_
  obtain ⟨h_109, hf⟩ := fb_if hf
  refine va_iald hx hb hK hP 4 0 (haM_4 ca a t) rfl h_109 dX11_of_109 ?_
  obtain ⟨e_110, e2_110⟩ := fb_e hf
  subst e_110; subst e2_110
  exact hr trivial _ _ _ _ hP hS dX11_of_110
set_option maxRecDepth 20000 in
theorem w_M_X11_of__0_111 {p : Program} {l : Launch} {e : Env} {s : State} {m : MethodId} {args : Array Value} {below : List Frame} {meth : Method} {c : Code} {A : Nat → Prop} {Q : State → Prop} {D : va_G} {ca : Nat → ClassId} {a : Nat → Nat} {u : fw_S} {r : Int32}  (C : CX (WM ca a) D (tyv ca) p s m args c A prog_13_method_59_code 3 RX11) (hr : True → RX (WM ca a) D p l e rm_M_X11_of__0 s m args below meth c A prog_13_method_59_code Q .ireturn [.int r] u) {t : fw_S} {x1 : Int32} {H : Heap} {locs : List Loc} {ls : Array Slot} (hf : b_M_X11_of__0_111  t x1 = some (r, u)) (hP : va_P D classes (WM ca a t) H) (hS : va_S A s.heap H locs) (hl : lv_has ls 3 [(0, .ref (a 0)), (1, .int x1)]) : W p l e rm_M_X11_of__0 s m args below meth c H locs 0 0 Q (F0 m 111 ls []) := by
  obtain ⟨hx, hb, hml, hown, hts, hN, hK, hD, hA⟩ := id C
  have hf : (fb_b (f_M_X11_readers__0 t x1) fun v_2 t_1 => (fb_b (f_M_X11_ones t_1 v_2) fun v_4 t_3 => (some (v_4, t_3)))) = some (r, u) := hf
  refine lv_aload_n hx hb dX11_of_111 rfl (lv_at hl 0 rfl) ?_
  refine lv_iload_n hx hb dX11_of_112 rfl (lv_at hl 1 rfl) ?_
  obtain ⟨v_2, t_1, g_113, hf⟩ := fb_bs hf
  refine fw_V1 (As := [.int x1]) (rest := []) (n := 1) (q0 := 0) C (c_M_X11_readers__0 (l := l) (D := D) (ca := ca) (a := a) g_113) kw_1645 kw_1629 kw_102 kw_1631 kw_1630 hP hS hl (heM_0 ca a t) rfl rfl rfl (by decide) (by decide +kernel) ⟨Nat.le_of_ble_eq_true rfl, Nat.le_of_ble_eq_true rfl⟩ rfl rfl (Nat.le_of_ble_eq_true rfl) dX11_of_113 (fun H locs hP hS => ?_)
  refine W.eq (g2 := F0 m 116 ls [.long v_2]) rfl ?_
  obtain ⟨v_4, t_3, g_116, hf⟩ := fb_bs hf
  refine fw_S1 (As := [.long v_2]) (rest := []) (n := 1) C (c_M_X11_ones (l := l) (D := D) (ca := ca) (a := a) g_116) kw_1646 kw_1647 kw_102 kw_1648 hP hS hl rfl rfl (by decide) (by decide +kernel) ⟨Nat.le_of_ble_eq_true rfl, Nat.le_of_ble_eq_true rfl⟩ rfl rfl (Nat.le_of_ble_eq_true rfl) dX11_of_116 (fun H locs hP hS => ?_)
  refine W.eq (g2 := F0 m 119 ls [.int v_4]) rfl ?_
  obtain ⟨e_119, e2_119⟩ := fb_e hf
  subst e_119; subst e2_119
  exact hr trivial _ _ _ _ hP hS dX11_of_119
set_option maxRecDepth 20000 in
theorem w_M_X11_of__0_134 {p : Program} {l : Launch} {e : Env} {s : State} {m : MethodId} {args : Array Value} {below : List Frame} {meth : Method} {c : Code} {A : Nat → Prop} {Q : State → Prop} {D : va_G} {ca : Nat → ClassId} {a : Nat → Nat} {u : fw_S} {r : Int32}  (C : CX (WM ca a) D (tyv ca) p s m args c A prog_13_method_59_code 3 RX11) (hr : True → RX (WM ca a) D p l e rm_M_X11_of__0 s m args below meth c A prog_13_method_59_code Q .ireturn [.int r] u) {t : fw_S} {z0 : Int32} {H : Heap} {locs : List Loc} {ls : Array Slot} (hf : b_M_X11_of__0_134  t z0 = some (r, u)) (hP : va_P D classes (WM ca a t) H) (hS : va_S A s.heap H locs) (hl : lv_has ls 3 []) : W p l e rm_M_X11_of__0 s m args below meth c H locs 0 0 Q (F0 m 134 ls [.int z0]) := by
  obtain ⟨hx, hb, hml, hown, hts, hN, hK, hD, hA⟩ := id C
  have hf : (some (z0, t)) = some (r, u) := hf
  obtain ⟨e_134, e2_134⟩ := fb_e hf
  subst e_134; subst e2_134
  exact hr trivial _ _ _ _ hP hS dX11_of_134
set_option maxRecDepth 20000 in
theorem w_M_X11_of__0_133 {p : Program} {l : Launch} {e : Env} {s : State} {m : MethodId} {args : Array Value} {below : List Frame} {meth : Method} {c : Code} {A : Nat → Prop} {Q : State → Prop} {D : va_G} {ca : Nat → ClassId} {a : Nat → Nat} {u : fw_S} {r : Int32}  (C : CX (WM ca a) D (tyv ca) p s m args c A prog_13_method_59_code 3 RX11) (hr : True → RX (WM ca a) D p l e rm_M_X11_of__0 s m args below meth c A prog_13_method_59_code Q .ireturn [.int r] u) {t : fw_S}  {H : Heap} {locs : List Loc} {ls : Array Slot} (hf : b_M_X11_of__0_133  t  = some (r, u)) (hP : va_P D classes (WM ca a t) H) (hS : va_S A s.heap H locs) (hl : lv_has ls 3 []) : W p l e rm_M_X11_of__0 s m args below meth c H locs 0 0 Q (F0 m 133 ls []) := by
  obtain ⟨hx, hb, hml, hown, hts, hN, hK, hD, hA⟩ := id C
  have hf : (b_M_X11_of__0_134 t ((0 : Int32))) = some (r, u) := hf
  refine lv_iconst (v := 0) hx hb dX11_of_133 (by decide) ?_
  exact w_M_X11_of__0_134 C hr hf hP hS (lv_sub hl [] rfl)
set_option maxRecDepth 20000 in
theorem w_M_X11_of__0_129 {p : Program} {l : Launch} {e : Env} {s : State} {m : MethodId} {args : Array Value} {below : List Frame} {meth : Method} {c : Code} {A : Nat → Prop} {Q : State → Prop} {D : va_G} {ca : Nat → ClassId} {a : Nat → Nat} {u : fw_S} {r : Int32}  (C : CX (WM ca a) D (tyv ca) p s m args c A prog_13_method_59_code 3 RX11) (hr : True → RX (WM ca a) D p l e rm_M_X11_of__0 s m args below meth c A prog_13_method_59_code Q .ireturn [.int r] u) {t : fw_S}  {H : Heap} {locs : List Loc} {ls : Array Slot} (hf : b_M_X11_of__0_129  t  = some (r, u)) (hP : va_P D classes (WM ca a t) H) (hS : va_S A s.heap H locs) (hl : lv_has ls 3 []) : W p l e rm_M_X11_of__0 s m args below meth c H locs 0 0 Q (F0 m 129 ls []) := by
  obtain ⟨hx, hb, hml, hown, hts, hN, hK, hD, hA⟩ := id C
  have hf : (b_M_X11_of__0_134 t ((1 : Int32))) = some (r, u) := hf
  refine lv_iconst (v := 1) hx hb dX11_of_129 (by decide) ?_
  refine lv_goto (tgt := 134) hx hb dX11_of_130 (by decide) ?_
  exact w_M_X11_of__0_134 C hr hf hP hS (lv_sub hl [] rfl)
set_option maxRecDepth 20000 in
theorem w_M_X11_of__0_120 {p : Program} {l : Launch} {e : Env} {s : State} {m : MethodId} {args : Array Value} {below : List Frame} {meth : Method} {c : Code} {A : Nat → Prop} {Q : State → Prop} {D : va_G} {ca : Nat → ClassId} {a : Nat → Nat} {u : fw_S} {r : Int32}  (C : CX (WM ca a) D (tyv ca) p s m args c A prog_13_method_59_code 3 RX11) (hr : True → RX (WM ca a) D p l e rm_M_X11_of__0 s m args below meth c A prog_13_method_59_code Q .ireturn [.int r] u) {t : fw_S} {x1 : Int32} {H : Heap} {locs : List Loc} {ls : Array Slot} (hf : b_M_X11_of__0_120  t x1 = some (r, u)) (hP : va_P D classes (WM ca a t) H) (hS : va_S A s.heap H locs) (hl : lv_has ls 3 [(0, .ref (a 0)), (1, .int x1)]) : W p l e rm_M_X11_of__0 s m args below meth c H locs 0 0 Q (F0 m 120 ls []) := by
  obtain ⟨hx, hb, hml, hown, hts, hN, hK, hD, hA⟩ := id C
  have hf : (fb_g (¬ (x1 < 0 ∨ 32 ≤ x1.toNatClampNeg)) (if (st_F t 7 x1.toNatClampNeg) = 0 then b_M_X11_of__0_133 t else b_M_X11_of__0_129 t)) = some (r, u) := hf
  refine lv_aload_n hx hb dX11_of_120 rfl (lv_at hl 0 rfl) ?_
  refine va_get (D := D) (ci := 11) (v := .ref (a 9)) (C := RX11) (T := TX11) (N := 76) hx hb hts inX11 hown hK hP 0 (heM_0 ca a t) rfl 8 (by decide) (hts _ kw_1200) (fun _ h9 => h9) rfl dX11_of_121 ?_
  refine lv_iload_n hx hb dX11_of_124 rfl (lv_at hl 1 rfl) ?_
  obtain ⟨h_125, hf⟩ := fb_if hf
  refine va_zald hx hb hK hP 9 2 (haM_9 ca a t) rfl h_125 dX11_of_125 ?_
  refine lv_if_eq (tgt := 133) hx hb dX11_of_126 (by decide) (fun h_126 => ?_) (fun h_126 => ?_)
  · have hf := fb_t h_126 hf
    exact w_M_X11_of__0_133 C hr hf hP hS (lv_sub hl [] rfl)
  · have hf := fb_f h_126 hf
    exact w_M_X11_of__0_129 C hr hf hP hS (lv_sub hl [] rfl)
set_option maxRecDepth 20000 in
theorem w_M_X11_of__0_149 {p : Program} {l : Launch} {e : Env} {s : State} {m : MethodId} {args : Array Value} {below : List Frame} {meth : Method} {c : Code} {A : Nat → Prop} {Q : State → Prop} {D : va_G} {ca : Nat → ClassId} {a : Nat → Nat} {u : fw_S} {r : Int32}  (C : CX (WM ca a) D (tyv ca) p s m args c A prog_13_method_59_code 3 RX11) (hr : True → RX (WM ca a) D p l e rm_M_X11_of__0 s m args below meth c A prog_13_method_59_code Q .ireturn [.int r] u) {t : fw_S} {z0 : Int32} {H : Heap} {locs : List Loc} {ls : Array Slot} (hf : b_M_X11_of__0_149  t z0 = some (r, u)) (hP : va_P D classes (WM ca a t) H) (hS : va_S A s.heap H locs) (hl : lv_has ls 3 []) : W p l e rm_M_X11_of__0 s m args below meth c H locs 0 0 Q (F0 m 149 ls [.int z0]) := by
  obtain ⟨hx, hb, hml, hown, hts, hN, hK, hD, hA⟩ := id C
  have hf : (some (z0, t)) = some (r, u) := hf
  obtain ⟨e_149, e2_149⟩ := fb_e hf
  subst e_149; subst e2_149
  exact hr trivial _ _ _ _ hP hS dX11_of_149
set_option maxRecDepth 20000 in
theorem w_M_X11_of__0_148 {p : Program} {l : Launch} {e : Env} {s : State} {m : MethodId} {args : Array Value} {below : List Frame} {meth : Method} {c : Code} {A : Nat → Prop} {Q : State → Prop} {D : va_G} {ca : Nat → ClassId} {a : Nat → Nat} {u : fw_S} {r : Int32}  (C : CX (WM ca a) D (tyv ca) p s m args c A prog_13_method_59_code 3 RX11) (hr : True → RX (WM ca a) D p l e rm_M_X11_of__0 s m args below meth c A prog_13_method_59_code Q .ireturn [.int r] u) {t : fw_S}  {H : Heap} {locs : List Loc} {ls : Array Slot} (hf : b_M_X11_of__0_148  t  = some (r, u)) (hP : va_P D classes (WM ca a t) H) (hS : va_S A s.heap H locs) (hl : lv_has ls 3 []) : W p l e rm_M_X11_of__0 s m args below meth c H locs 0 0 Q (F0 m 148 ls []) := by
  obtain ⟨hx, hb, hml, hown, hts, hN, hK, hD, hA⟩ := id C
  have hf : (b_M_X11_of__0_149 t ((0 : Int32))) = some (r, u) := hf
  refine lv_iconst (v := 0) hx hb dX11_of_148 (by decide) ?_
  exact w_M_X11_of__0_149 C hr hf hP hS (lv_sub hl [] rfl)
set_option maxRecDepth 20000 in
theorem w_M_X11_of__0_144 {p : Program} {l : Launch} {e : Env} {s : State} {m : MethodId} {args : Array Value} {below : List Frame} {meth : Method} {c : Code} {A : Nat → Prop} {Q : State → Prop} {D : va_G} {ca : Nat → ClassId} {a : Nat → Nat} {u : fw_S} {r : Int32}  (C : CX (WM ca a) D (tyv ca) p s m args c A prog_13_method_59_code 3 RX11) (hr : True → RX (WM ca a) D p l e rm_M_X11_of__0 s m args below meth c A prog_13_method_59_code Q .ireturn [.int r] u) {t : fw_S}  {H : Heap} {locs : List Loc} {ls : Array Slot} (hf : b_M_X11_of__0_144  t  = some (r, u)) (hP : va_P D classes (WM ca a t) H) (hS : va_S A s.heap H locs) (hl : lv_has ls 3 []) : W p l e rm_M_X11_of__0 s m args below meth c H locs 0 0 Q (F0 m 144 ls []) := by
  obtain ⟨hx, hb, hml, hown, hts, hN, hK, hD, hA⟩ := id C
  have hf : (b_M_X11_of__0_149 t ((1 : Int32))) = some (r, u) := hf
  refine lv_iconst (v := 1) hx hb dX11_of_144 (by decide) ?_
  refine lv_goto (tgt := 149) hx hb dX11_of_145 (by decide) ?_
  exact w_M_X11_of__0_149 C hr hf hP hS (lv_sub hl [] rfl)
set_option maxRecDepth 20000 in
theorem w_M_X11_of__0_135 {p : Program} {l : Launch} {e : Env} {s : State} {m : MethodId} {args : Array Value} {below : List Frame} {meth : Method} {c : Code} {A : Nat → Prop} {Q : State → Prop} {D : va_G} {ca : Nat → ClassId} {a : Nat → Nat} {u : fw_S} {r : Int32}  (C : CX (WM ca a) D (tyv ca) p s m args c A prog_13_method_59_code 3 RX11) (hr : True → RX (WM ca a) D p l e rm_M_X11_of__0 s m args below meth c A prog_13_method_59_code Q .ireturn [.int r] u) {t : fw_S} {x1 : Int32} {H : Heap} {locs : List Loc} {ls : Array Slot} (hf : b_M_X11_of__0_135  t x1 = some (r, u)) (hP : va_P D classes (WM ca a t) H) (hS : va_S A s.heap H locs) (hl : lv_has ls 3 [(0, .ref (a 0)), (1, .int x1)]) : W p l e rm_M_X11_of__0 s m args below meth c H locs 0 0 Q (F0 m 135 ls []) := by
  obtain ⟨hx, hb, hml, hown, hts, hN, hK, hD, hA⟩ := id C
  have hf : (fb_g (¬ (x1 < 0 ∨ 32 ≤ x1.toNatClampNeg)) (if (st_F t 8 x1.toNatClampNeg) = 0 then b_M_X11_of__0_148 t else b_M_X11_of__0_144 t)) = some (r, u) := hf
  refine lv_aload_n hx hb dX11_of_135 rfl (lv_at hl 0 rfl) ?_
  refine va_get (D := D) (ci := 11) (v := .ref (a 10)) (C := RX11) (T := TX11) (N := 76) hx hb hts inX11 hown hK hP 0 (heM_0 ca a t) rfl 9 (by decide) (hts _ kw_1201) (fun _ h9 => h9) rfl dX11_of_136 ?_
  refine lv_iload_n hx hb dX11_of_139 rfl (lv_at hl 1 rfl) ?_
  obtain ⟨h_140, hf⟩ := fb_if hf
  refine va_zald hx hb hK hP 10 2 (haM_10 ca a t) rfl h_140 dX11_of_140 ?_
  refine lv_if_eq (tgt := 148) hx hb dX11_of_141 (by decide) (fun h_141 => ?_) (fun h_141 => ?_)
  · have hf := fb_t h_141 hf
    exact w_M_X11_of__0_148 C hr hf hP hS (lv_sub hl [] rfl)
  · have hf := fb_f h_141 hf
    exact w_M_X11_of__0_144 C hr hf hP hS (lv_sub hl [] rfl)
set_option maxRecDepth 20000 in
theorem w_M_X11_of__0_150 {p : Program} {l : Launch} {e : Env} {s : State} {m : MethodId} {args : Array Value} {below : List Frame} {meth : Method} {c : Code} {A : Nat → Prop} {Q : State → Prop} {D : va_G} {ca : Nat → ClassId} {a : Nat → Nat} {u : fw_S} {r : Int32}  (C : CX (WM ca a) D (tyv ca) p s m args c A prog_13_method_59_code 3 RX11) (hr : True → RX (WM ca a) D p l e rm_M_X11_of__0 s m args below meth c A prog_13_method_59_code Q .ireturn [.int r] u) {t : fw_S} {x1 : Int32} {H : Heap} {locs : List Loc} {ls : Array Slot} (hf : b_M_X11_of__0_150  t x1 = some (r, u)) (hP : va_P D classes (WM ca a t) H) (hS : va_S A s.heap H locs) (hl : lv_has ls 3 [(0, .ref (a 0)), (1, .int x1)]) : W p l e rm_M_X11_of__0 s m args below meth c H locs 0 0 Q (F0 m 150 ls []) := by
  obtain ⟨hx, hb, hml, hown, hts, hN, hK, hD, hA⟩ := id C
  have hf : (fb_g (¬ (x1 < 0 ∨ 32 ≤ x1.toNatClampNeg)) (some (st_F t 4 x1.toNatClampNeg, t))) = some (r, u) := hf
  refine lv_aload_n hx hb dX11_of_150 rfl (lv_at hl 0 rfl) ?_
  refine va_get (D := D) (ci := 11) (v := .ref (a 5)) (C := RX11) (T := TX11) (N := 76) hx hb hts inX11 hown hK hP 0 (heM_0 ca a t) rfl 4 (by decide) (hts _ kw_1196) (fun _ h9 => h9) rfl dX11_of_151 ?_
  refine lv_iload_n hx hb dX11_of_154 rfl (lv_at hl 1 rfl) ?_
  obtain ⟨h_155, hf⟩ := fb_if hf
  refine va_iald hx hb hK hP 5 0 (haM_5 ca a t) rfl h_155 dX11_of_155 ?_
  obtain ⟨e_156, e2_156⟩ := fb_e hf
  subst e_156; subst e2_156
  exact hr trivial _ _ _ _ hP hS dX11_of_156
set_option maxRecDepth 20000 in
theorem w_M_X11_of__0_157 {p : Program} {l : Launch} {e : Env} {s : State} {m : MethodId} {args : Array Value} {below : List Frame} {meth : Method} {c : Code} {A : Nat → Prop} {Q : State → Prop} {D : va_G} {ca : Nat → ClassId} {a : Nat → Nat} {u : fw_S} {r : Int32}  (C : CX (WM ca a) D (tyv ca) p s m args c A prog_13_method_59_code 3 RX11) (hr : True → RX (WM ca a) D p l e rm_M_X11_of__0 s m args below meth c A prog_13_method_59_code Q .ireturn [.int r] u) {t : fw_S} {x1 : Int32} {H : Heap} {locs : List Loc} {ls : Array Slot} (hf : b_M_X11_of__0_157  t x1 = some (r, u)) (hP : va_P D classes (WM ca a t) H) (hS : va_S A s.heap H locs) (hl : lv_has ls 3 [(0, .ref (a 0)), (1, .int x1)]) : W p l e rm_M_X11_of__0 s m args below meth c H locs 0 0 Q (F0 m 157 ls []) := by
  obtain ⟨hx, hb, hml, hown, hts, hN, hK, hD, hA⟩ := id C
  have hf : (fb_b (f_M_X11_below__0 t x1) fun v_2 t_1 => (some (v_2, t_1))) = some (r, u) := hf
  refine lv_aload_n hx hb dX11_of_157 rfl (lv_at hl 0 rfl) ?_
  refine lv_iload_n hx hb dX11_of_158 rfl (lv_at hl 1 rfl) ?_
  obtain ⟨v_2, t_1, g_159, hf⟩ := fb_bs hf
  refine fw_V1 (As := [.int x1]) (rest := []) (n := 1) (q0 := 0) C (c_M_X11_below__0 (l := l) (D := D) (ca := ca) (a := a) g_159) kw_1649 kw_1651 kw_102 kw_1652 kw_81 hP hS hl (heM_0 ca a t) rfl rfl rfl (by decide) (by decide +kernel) ⟨Nat.le_of_ble_eq_true rfl, Nat.le_of_ble_eq_true rfl⟩ rfl rfl (Nat.le_of_ble_eq_true rfl) dX11_of_159 (fun H locs hP hS => ?_)
  refine W.eq (g2 := F0 m 162 ls [.int v_2]) rfl ?_
  obtain ⟨e_162, e2_162⟩ := fb_e hf
  subst e_162; subst e2_162
  exact hr trivial _ _ _ _ hP hS dX11_of_162
set_option maxRecDepth 20000 in
theorem w_M_X11_of__0_19 {p : Program} {l : Launch} {e : Env} {s : State} {m : MethodId} {args : Array Value} {below : List Frame} {meth : Method} {c : Code} {A : Nat → Prop} {Q : State → Prop} {D : va_G} {ca : Nat → ClassId} {a : Nat → Nat} {u : fw_S} {r : Int32}  (C : CX (WM ca a) D (tyv ca) p s m args c A prog_13_method_59_code 3 RX11) (hr : True → RX (WM ca a) D p l e rm_M_X11_of__0 s m args below meth c A prog_13_method_59_code Q .ireturn [.int r] u) {t : fw_S} {x1 : Int32} {x2 : Int32} {H : Heap} {locs : List Loc} {ls : Array Slot} (hf : b_M_X11_of__0_19  t x1 x2 = some (r, u)) (hP : va_P D classes (WM ca a t) H) (hS : va_S A s.heap H locs) (hl : lv_has ls 3 [(0, .ref (a 0)), (1, .int x1), (2, .int x2)]) : W p l e rm_M_X11_of__0 s m args below meth c H locs 0 0 Q (F0 m 19 ls []) := by
  obtain ⟨hx, hb, hml, hown, hts, hN, hK, hD, hA⟩ := id C
  have hf : (if x2 = 0 then b_M_X11_of__0_72 t x1 else if x2 = 1 then b_M_X11_of__0_79 t x1 else if x2 = 2 then b_M_X11_of__0_86 t x1 else if x2 = 3 then b_M_X11_of__0_97 t x1 else if x2 = 4 then b_M_X11_of__0_104 t x1 else if x2 = 5 then b_M_X11_of__0_111 t x1 else if x2 = 6 then b_M_X11_of__0_120 t x1 else if x2 = 7 then b_M_X11_of__0_135 t x1 else if x2 = 8 then b_M_X11_of__0_150 t x1 else b_M_X11_of__0_157 t x1) = some (r, u) := hf
  refine lv_iload_n hx hb dX11_of_19 rfl (lv_at hl 2 rfl) ?_
  by_cases h_20_0 : x2 = 0
  · have hf := fb_t h_20_0 hf
    refine lv_tableIn (tgt := 72) hx hb dX11_of_20 (by rw [h_20_0]; decide) (by rw [h_20_0]; decide) (by rw [h_20_0]; rfl) (by decide) ?_
    exact w_M_X11_of__0_72 C hr hf hP hS (lv_sub hl [0, 1] rfl)
  have hf := fb_f h_20_0 hf
  by_cases h_20_1 : x2 = 1
  · have hf := fb_t h_20_1 hf
    refine lv_tableIn (tgt := 79) hx hb dX11_of_20 (by rw [h_20_1]; decide) (by rw [h_20_1]; decide) (by rw [h_20_1]; rfl) (by decide) ?_
    exact w_M_X11_of__0_79 C hr hf hP hS (lv_sub hl [0, 1] rfl)
  have hf := fb_f h_20_1 hf
  by_cases h_20_2 : x2 = 2
  · have hf := fb_t h_20_2 hf
    refine lv_tableIn (tgt := 86) hx hb dX11_of_20 (by rw [h_20_2]; decide) (by rw [h_20_2]; decide) (by rw [h_20_2]; rfl) (by decide) ?_
    exact w_M_X11_of__0_86 C hr hf hP hS (lv_sub hl [0, 1] rfl)
  have hf := fb_f h_20_2 hf
  by_cases h_20_3 : x2 = 3
  · have hf := fb_t h_20_3 hf
    refine lv_tableIn (tgt := 97) hx hb dX11_of_20 (by rw [h_20_3]; decide) (by rw [h_20_3]; decide) (by rw [h_20_3]; rfl) (by decide) ?_
    exact w_M_X11_of__0_97 C hr hf hP hS (lv_sub hl [0, 1] rfl)
  have hf := fb_f h_20_3 hf
  by_cases h_20_4 : x2 = 4
  · have hf := fb_t h_20_4 hf
    refine lv_tableIn (tgt := 104) hx hb dX11_of_20 (by rw [h_20_4]; decide) (by rw [h_20_4]; decide) (by rw [h_20_4]; rfl) (by decide) ?_
    exact w_M_X11_of__0_104 C hr hf hP hS (lv_sub hl [0, 1] rfl)
  have hf := fb_f h_20_4 hf
  by_cases h_20_5 : x2 = 5
  · have hf := fb_t h_20_5 hf
    refine lv_tableIn (tgt := 111) hx hb dX11_of_20 (by rw [h_20_5]; decide) (by rw [h_20_5]; decide) (by rw [h_20_5]; rfl) (by decide) ?_
    exact w_M_X11_of__0_111 C hr hf hP hS (lv_sub hl [0, 1] rfl)
  have hf := fb_f h_20_5 hf
  by_cases h_20_6 : x2 = 6
  · have hf := fb_t h_20_6 hf
    refine lv_tableIn (tgt := 120) hx hb dX11_of_20 (by rw [h_20_6]; decide) (by rw [h_20_6]; decide) (by rw [h_20_6]; rfl) (by decide) ?_
    exact w_M_X11_of__0_120 C hr hf hP hS (lv_sub hl [0, 1] rfl)
  have hf := fb_f h_20_6 hf
  by_cases h_20_7 : x2 = 7
  · have hf := fb_t h_20_7 hf
    refine lv_tableIn (tgt := 135) hx hb dX11_of_20 (by rw [h_20_7]; decide) (by rw [h_20_7]; decide) (by rw [h_20_7]; rfl) (by decide) ?_
    exact w_M_X11_of__0_135 C hr hf hP hS (lv_sub hl [0, 1] rfl)
  have hf := fb_f h_20_7 hf
  by_cases h_20_8 : x2 = 8
  · have hf := fb_t h_20_8 hf
    refine lv_tableIn (tgt := 150) hx hb dX11_of_20 (by rw [h_20_8]; decide) (by rw [h_20_8]; decide) (by rw [h_20_8]; rfl) (by decide) ?_
    exact w_M_X11_of__0_150 C hr hf hP hS (lv_sub hl [0, 1] rfl)
  have hf := fb_f h_20_8 hf
  refine lv_tableOut (tgt := 157) hx hb dX11_of_20 (by have q0 := lv_neT h_20_0 (a := 0) (by decide); have q1 := lv_neT h_20_1 (a := 1) (by decide); have q2 := lv_neT h_20_2 (a := 2) (by decide); have q3 := lv_neT h_20_3 (a := 3) (by decide); have q4 := lv_neT h_20_4 (a := 4) (by decide); have q5 := lv_neT h_20_5 (a := 5) (by decide); have q6 := lv_neT h_20_6 (a := 6) (by decide); have q7 := lv_neT h_20_7 (a := 7) (by decide); have q8 := lv_neT h_20_8 (a := 8) (by decide); omega) (by decide) ?_
  exact w_M_X11_of__0_157 C hr hf hP hS (lv_sub hl [0, 1] rfl)
set_option maxRecDepth 20000 in
theorem w_M_X11_of__0_7 {p : Program} {l : Launch} {e : Env} {s : State} {m : MethodId} {args : Array Value} {below : List Frame} {meth : Method} {c : Code} {A : Nat → Prop} {Q : State → Prop} {D : va_G} {ca : Nat → ClassId} {a : Nat → Nat} {u : fw_S} {r : Int32}  (C : CX (WM ca a) D (tyv ca) p s m args c A prog_13_method_59_code 3 RX11) (hr : True → RX (WM ca a) D p l e rm_M_X11_of__0 s m args below meth c A prog_13_method_59_code Q .ireturn [.int r] u) {t : fw_S} {x1 : Int32} {x2 : Int32} {H : Heap} {locs : List Loc} {ls : Array Slot} (hf : b_M_X11_of__0_7  t x1 x2 = some (r, u)) (hP : va_P D classes (WM ca a t) H) (hS : va_S A s.heap H locs) (hl : lv_has ls 3 [(0, .ref (a 0)), (1, .int x1), (2, .int x2)]) : W p l e rm_M_X11_of__0 s m args below meth c H locs 0 0 Q (F0 m 7 ls []) := by
  obtain ⟨hx, hb, hml, hown, hts, hN, hK, hD, hA⟩ := id C
  have hf : (fb_b (f_M_X11_isIn t x2 ((0 : Int32)) ((9 : Int32))) fun v_2 t_1 => (if v_2 = 0 then b_M_X11_of__0_17 t_1 else b_M_X11_of__0_19 t_1 x1 x2)) = some (r, u) := hf
  refine lv_iload_n hx hb dX11_of_7 rfl (lv_at hl 2 rfl) ?_
  refine lv_iconst (v := 0) hx hb dX11_of_8 (by decide) ?_
  refine lv_bipush (v := 9) hx hb dX11_of_9 (by decide) ?_
  obtain ⟨v_2, t_1, g_11, hf⟩ := fb_bs hf
  refine fw_S1 (As := [.int x2, .int ((0 : Int32)), .int ((9 : Int32))]) (rest := []) (n := 3) C (c_M_X11_isIn (l := l) (D := D) (ca := ca) (a := a) g_11) kw_1426 kw_1427 kw_102 kw_1428 hP hS hl rfl rfl (by decide) (by decide +kernel) ⟨Nat.le_of_ble_eq_true rfl, Nat.le_of_ble_eq_true rfl⟩ rfl rfl (Nat.le_of_ble_eq_true rfl) dX11_of_11 (fun H locs hP hS => ?_)
  refine W.eq (g2 := F0 m 14 ls [.int v_2]) rfl ?_
  refine lv_if_ne (tgt := 19) hx hb dX11_of_14 (by decide) (fun h_14 => ?_) (fun h_14 => ?_)
  · have hf := fb_f h_14 hf
    exact w_M_X11_of__0_19 C hr hf hP hS (lv_sub hl [0, 1, 2] rfl)
  · have hf := fb_t h_14 hf
    exact w_M_X11_of__0_17 C hr hf hP hS (lv_sub hl [] rfl)
set_option maxRecDepth 20000 in
theorem w_M_X11_of__0_0 {p : Program} {l : Launch} {e : Env} {s : State} {m : MethodId} {args : Array Value} {below : List Frame} {meth : Method} {c : Code} {A : Nat → Prop} {Q : State → Prop} {D : va_G} {ca : Nat → ClassId} {a : Nat → Nat} {u : fw_S} {r : Int32}  (C : CX (WM ca a) D (tyv ca) p s m args c A prog_13_method_59_code 3 RX11) (hr : True → RX (WM ca a) D p l e rm_M_X11_of__0 s m args below meth c A prog_13_method_59_code Q .ireturn [.int r] u) {t : fw_S} {x1 : Int32} {x2 : Int32} {H : Heap} {locs : List Loc} {ls : Array Slot} (hf : b_M_X11_of__0_0  t x1 x2 = some (r, u)) (hP : va_P D classes (WM ca a t) H) (hS : va_S A s.heap H locs) (hl : lv_has ls 3 [(0, .ref (a 0)), (1, .int x1), (2, .int x2)]) : W p l e rm_M_X11_of__0 s m args below meth c H locs 0 0 Q (F0 m 0 ls []) := by
  obtain ⟨hx, hb, hml, hown, hts, hN, hK, hD, hA⟩ := id C
  have hf : (fb_b (f_M_X11_isCell t x1) fun v_2 t_1 => (if v_2 = 0 then b_M_X11_of__0_17 t_1 else b_M_X11_of__0_7 t_1 x1 x2)) = some (r, u) := hf
  refine lv_iload_n hx hb dX11_of_0 rfl (lv_at hl 1 rfl) ?_
  obtain ⟨v_2, t_1, g_1, hf⟩ := fb_bs hf
  refine fw_S1 (As := [.int x1]) (rest := []) (n := 1) C (c_M_X11_isCell (l := l) (D := D) (ca := ca) (a := a) g_1) kw_1437 kw_1438 kw_102 kw_1439 hP hS hl rfl rfl (by decide) (by decide +kernel) ⟨Nat.le_of_ble_eq_true rfl, Nat.le_of_ble_eq_true rfl⟩ rfl rfl (Nat.le_of_ble_eq_true rfl) dX11_of_1 (fun H locs hP hS => ?_)
  refine W.eq (g2 := F0 m 4 ls [.int v_2]) rfl ?_
  refine lv_if_eq (tgt := 17) hx hb dX11_of_4 (by decide) (fun h_4 => ?_) (fun h_4 => ?_)
  · have hf := fb_t h_4 hf
    exact w_M_X11_of__0_17 C hr hf hP hS (lv_sub hl [] rfl)
  · have hf := fb_f h_4 hf
    exact w_M_X11_of__0_7 C hr hf hP hS (lv_sub hl [0, 1, 2] rfl)
set_option maxRecDepth 20000 in
theorem c_M_X11_of__0 {l : Launch} {D : va_G} {ca : Nat → ClassId} {a : Nat → Nat} {t : fw_S} {x1 : Int32} {x2 : Int32} {u : fw_S} {r : Int32} (hf : f_M_X11_of__0 t x1 x2 = some (r, u)) : MC (WM ca a) D (tyv ca) l yX11_of (.code yX11_of prog_13_method_59_code 3 (some .int) :: lw_gd) rm_M_X11_of__0 [.ref (a 0), .int x1, .int x2] (some (.int r)) t u := by
  refine fw_met (okM ca a) (by decide +kernel) rfl rfl (Nat.le_of_ble_eq_true rfl) ?_
  intro p e s m args below meth c A Q ls C hr hk hP hS hl hQ
  exact w_M_X11_of__0_0 C (fun _ => fw_ri C hr hk hQ) hf hP hS (lv_sub hl [0, 1, 2] rfl)
/-! ReactiveSheetModel.reads(II)I ['m'] -/
abbrev rm_M_X11_reads___0 : Room := { frames := 2, cells := 0, slots := 0, locals := 42 }
def b_M_X11_reads___0_38  (t : fw_S) (z0 : Int32) : Option (Int32 × fw_S) := some (z0, t)
def b_M_X11_reads___0_23  (t : fw_S)  : Option (Int32 × fw_S) := b_M_X11_reads___0_38 t ((-1 : Int32))
def b_M_X11_reads___0_27  (t : fw_S) (x1 : Int32) (x2 : Int32) : Option (Int32 × fw_S) := fb_g (¬ (((((32 : Int32)) * x1) + x2) < 0 ∨ 1024 ≤ ((((32 : Int32)) * x1) + x2).toNatClampNeg)) (b_M_X11_reads___0_38 t (st_F t 6 ((((32 : Int32)) * x1) + x2).toNatClampNeg))
def b_M_X11_reads___0_7  (t : fw_S) (x1 : Int32) (x2 : Int32) : Option (Int32 × fw_S) := fb_g (¬ (x1 < 0 ∨ 32 ≤ x1.toNatClampNeg)) (fb_b (f_M_X11_isIn t x2 ((0 : Int32)) ((st_F t 3 x1.toNatClampNeg) - ((1 : Int32)))) fun v_2 t_1 => (if v_2 = 0 then b_M_X11_reads___0_23 t_1 else b_M_X11_reads___0_27 t_1 x1 x2))
def b_M_X11_reads___0_0  (t : fw_S) (x1 : Int32) (x2 : Int32) : Option (Int32 × fw_S) := fb_b (f_M_X11_isCell t x1) fun v_2 t_1 => (if v_2 = 0 then b_M_X11_reads___0_23 t_1 else b_M_X11_reads___0_7 t_1 x1 x2)
def f_M_X11_reads___0 (t : fw_S) (x1 : Int32) (x2 : Int32) : Option (Int32 × fw_S) := b_M_X11_reads___0_0 t x1 x2
set_option maxRecDepth 20000 in
theorem w_M_X11_reads___0_38 {p : Program} {l : Launch} {e : Env} {s : State} {m : MethodId} {args : Array Value} {below : List Frame} {meth : Method} {c : Code} {A : Nat → Prop} {Q : State → Prop} {D : va_G} {ca : Nat → ClassId} {a : Nat → Nat} {u : fw_S} {r : Int32}  (C : CX (WM ca a) D (tyv ca) p s m args c A prog_13_method_60_code 3 RX11) (hr : True → RX (WM ca a) D p l e rm_M_X11_reads___0 s m args below meth c A prog_13_method_60_code Q .ireturn [.int r] u) {t : fw_S} {z0 : Int32} {H : Heap} {locs : List Loc} {ls : Array Slot} (hf : b_M_X11_reads___0_38  t z0 = some (r, u)) (hP : va_P D classes (WM ca a t) H) (hS : va_S A s.heap H locs) (hl : lv_has ls 3 []) : W p l e rm_M_X11_reads___0 s m args below meth c H locs 0 0 Q (F0 m 38 ls [.int z0]) := by
  obtain ⟨hx, hb, hml, hown, hts, hN, hK, hD, hA⟩ := id C
  have hf : (some (z0, t)) = some (r, u) := hf
  obtain ⟨e_38, e2_38⟩ := fb_e hf
  subst e_38; subst e2_38
  exact hr trivial _ _ _ _ hP hS dX11_reads__38
set_option maxRecDepth 20000 in
theorem w_M_X11_reads___0_23 {p : Program} {l : Launch} {e : Env} {s : State} {m : MethodId} {args : Array Value} {below : List Frame} {meth : Method} {c : Code} {A : Nat → Prop} {Q : State → Prop} {D : va_G} {ca : Nat → ClassId} {a : Nat → Nat} {u : fw_S} {r : Int32}  (C : CX (WM ca a) D (tyv ca) p s m args c A prog_13_method_60_code 3 RX11) (hr : True → RX (WM ca a) D p l e rm_M_X11_reads___0 s m args below meth c A prog_13_method_60_code Q .ireturn [.int r] u) {t : fw_S}  {H : Heap} {locs : List Loc} {ls : Array Slot} (hf : b_M_X11_reads___0_23  t  = some (r, u)) (hP : va_P D classes (WM ca a t) H) (hS : va_S A s.heap H locs) (hl : lv_has ls 3 []) : W p l e rm_M_X11_reads___0 s m args below meth c H locs 0 0 Q (F0 m 23 ls []) := by
  obtain ⟨hx, hb, hml, hown, hts, hN, hK, hD, hA⟩ := id C
  have hf : (b_M_X11_reads___0_38 t ((-1 : Int32))) = some (r, u) := hf
  refine lv_iconst (v := (-1)) hx hb dX11_reads__23 (by decide) ?_
  refine lv_goto (tgt := 38) hx hb dX11_reads__24 (by decide) ?_
  exact w_M_X11_reads___0_38 C hr hf hP hS (lv_sub hl [] rfl)
set_option maxRecDepth 20000 in
theorem w_M_X11_reads___0_27 {p : Program} {l : Launch} {e : Env} {s : State} {m : MethodId} {args : Array Value} {below : List Frame} {meth : Method} {c : Code} {A : Nat → Prop} {Q : State → Prop} {D : va_G} {ca : Nat → ClassId} {a : Nat → Nat} {u : fw_S} {r : Int32}  (C : CX (WM ca a) D (tyv ca) p s m args c A prog_13_method_60_code 3 RX11) (hr : True → RX (WM ca a) D p l e rm_M_X11_reads___0 s m args below meth c A prog_13_method_60_code Q .ireturn [.int r] u) {t : fw_S} {x1 : Int32} {x2 : Int32} {H : Heap} {locs : List Loc} {ls : Array Slot} (hf : b_M_X11_reads___0_27  t x1 x2 = some (r, u)) (hP : va_P D classes (WM ca a t) H) (hS : va_S A s.heap H locs) (hl : lv_has ls 3 [(0, .ref (a 0)), (1, .int x1), (2, .int x2)]) : W p l e rm_M_X11_reads___0 s m args below meth c H locs 0 0 Q (F0 m 27 ls []) := by
  obtain ⟨hx, hb, hml, hown, hts, hN, hK, hD, hA⟩ := id C
  have hf : (fb_g (¬ (((((32 : Int32)) * x1) + x2) < 0 ∨ 1024 ≤ ((((32 : Int32)) * x1) + x2).toNatClampNeg)) (b_M_X11_reads___0_38 t (st_F t 6 ((((32 : Int32)) * x1) + x2).toNatClampNeg))) = some (r, u) := hf
  refine lv_aload_n hx hb dX11_reads__27 rfl (lv_at hl 0 rfl) ?_
  refine va_get (D := D) (ci := 11) (v := .ref (a 8)) (C := RX11) (T := TX11) (N := 76) hx hb hts inX11 hown hK hP 0 (heM_0 ca a t) rfl 7 (by decide) (hts _ kw_1199) (fun _ h9 => h9) rfl dX11_reads__28 ?_
  refine lv_bipush (v := 32) hx hb dX11_reads__31 (by decide) ?_
  refine lv_iload_n hx hb dX11_reads__33 rfl (lv_at hl 1 rfl) ?_
  refine lv_imul hx hb dX11_reads__34 ?_
  refine lv_iload_n hx hb dX11_reads__35 rfl (lv_at hl 2 rfl) ?_
  refine lv_iadd hx hb dX11_reads__36 ?_
  obtain ⟨h_37, hf⟩ := fb_if hf
  refine va_iald hx hb hK hP 8 0 (haM_8 ca a t) rfl h_37 dX11_reads__37 ?_
  exact w_M_X11_reads___0_38 C hr hf hP hS (lv_sub hl [] rfl)
set_option maxRecDepth 20000 in
theorem w_M_X11_reads___0_7 {p : Program} {l : Launch} {e : Env} {s : State} {m : MethodId} {args : Array Value} {below : List Frame} {meth : Method} {c : Code} {A : Nat → Prop} {Q : State → Prop} {D : va_G} {ca : Nat → ClassId} {a : Nat → Nat} {u : fw_S} {r : Int32}  (C : CX (WM ca a) D (tyv ca) p s m args c A prog_13_method_60_code 3 RX11) (hr : True → RX (WM ca a) D p l e rm_M_X11_reads___0 s m args below meth c A prog_13_method_60_code Q .ireturn [.int r] u) {t : fw_S} {x1 : Int32} {x2 : Int32} {H : Heap} {locs : List Loc} {ls : Array Slot} (hf : b_M_X11_reads___0_7  t x1 x2 = some (r, u)) (hP : va_P D classes (WM ca a t) H) (hS : va_S A s.heap H locs) (hl : lv_has ls 3 [(0, .ref (a 0)), (1, .int x1), (2, .int x2)]) : W p l e rm_M_X11_reads___0 s m args below meth c H locs 0 0 Q (F0 m 7 ls []) := by
  obtain ⟨hx, hb, hml, hown, hts, hN, hK, hD, hA⟩ := id C
  have hf : (fb_g (¬ (x1 < 0 ∨ 32 ≤ x1.toNatClampNeg)) (fb_b (f_M_X11_isIn t x2 ((0 : Int32)) ((st_F t 3 x1.toNatClampNeg) - ((1 : Int32)))) fun v_2 t_1 => (if v_2 = 0 then b_M_X11_reads___0_23 t_1 else b_M_X11_reads___0_27 t_1 x1 x2))) = some (r, u) := hf
  refine lv_iload_n hx hb dX11_reads__7 rfl (lv_at hl 2 rfl) ?_
  refine lv_iconst (v := 0) hx hb dX11_reads__8 (by decide) ?_
  refine lv_aload_n hx hb dX11_reads__9 rfl (lv_at hl 0 rfl) ?_
  refine va_get (D := D) (ci := 11) (v := .ref (a 4)) (C := RX11) (T := TX11) (N := 76) hx hb hts inX11 hown hK hP 0 (heM_0 ca a t) rfl 3 (by decide) (hts _ kw_1195) (fun _ h9 => h9) rfl dX11_reads__10 ?_
  refine lv_iload_n hx hb dX11_reads__13 rfl (lv_at hl 1 rfl) ?_
  obtain ⟨h_14, hf⟩ := fb_if hf
  refine va_iald hx hb hK hP 4 0 (haM_4 ca a t) rfl h_14 dX11_reads__14 ?_
  refine lv_iconst (v := 1) hx hb dX11_reads__15 (by decide) ?_
  refine lv_isub hx hb dX11_reads__16 ?_
  obtain ⟨v_2, t_1, g_17, hf⟩ := fb_bs hf
  refine fw_S1 (As := [.int x2, .int ((0 : Int32)), .int ((st_F t 3 x1.toNatClampNeg) - ((1 : Int32)))]) (rest := []) (n := 3) C (c_M_X11_isIn (l := l) (D := D) (ca := ca) (a := a) g_17) kw_1426 kw_1427 kw_102 kw_1428 hP hS hl rfl rfl (by decide) (by decide +kernel) ⟨Nat.le_of_ble_eq_true rfl, Nat.le_of_ble_eq_true rfl⟩ rfl rfl (Nat.le_of_ble_eq_true rfl) dX11_reads__17 (fun H locs hP hS => ?_)
  refine W.eq (g2 := F0 m 20 ls [.int v_2]) rfl ?_
  refine lv_if_ne (tgt := 27) hx hb dX11_reads__20 (by decide) (fun h_20 => ?_) (fun h_20 => ?_)
  · have hf := fb_f h_20 hf
    exact w_M_X11_reads___0_27 C hr hf hP hS (lv_sub hl [0, 1, 2] rfl)
  · have hf := fb_t h_20 hf
    exact w_M_X11_reads___0_23 C hr hf hP hS (lv_sub hl [] rfl)
set_option maxRecDepth 20000 in
theorem w_M_X11_reads___0_0 {p : Program} {l : Launch} {e : Env} {s : State} {m : MethodId} {args : Array Value} {below : List Frame} {meth : Method} {c : Code} {A : Nat → Prop} {Q : State → Prop} {D : va_G} {ca : Nat → ClassId} {a : Nat → Nat} {u : fw_S} {r : Int32}  (C : CX (WM ca a) D (tyv ca) p s m args c A prog_13_method_60_code 3 RX11) (hr : True → RX (WM ca a) D p l e rm_M_X11_reads___0 s m args below meth c A prog_13_method_60_code Q .ireturn [.int r] u) {t : fw_S} {x1 : Int32} {x2 : Int32} {H : Heap} {locs : List Loc} {ls : Array Slot} (hf : b_M_X11_reads___0_0  t x1 x2 = some (r, u)) (hP : va_P D classes (WM ca a t) H) (hS : va_S A s.heap H locs) (hl : lv_has ls 3 [(0, .ref (a 0)), (1, .int x1), (2, .int x2)]) : W p l e rm_M_X11_reads___0 s m args below meth c H locs 0 0 Q (F0 m 0 ls []) := by
  obtain ⟨hx, hb, hml, hown, hts, hN, hK, hD, hA⟩ := id C
  have hf : (fb_b (f_M_X11_isCell t x1) fun v_2 t_1 => (if v_2 = 0 then b_M_X11_reads___0_23 t_1 else b_M_X11_reads___0_7 t_1 x1 x2)) = some (r, u) := hf
  refine lv_iload_n hx hb dX11_reads__0 rfl (lv_at hl 1 rfl) ?_
  obtain ⟨v_2, t_1, g_1, hf⟩ := fb_bs hf
  refine fw_S1 (As := [.int x1]) (rest := []) (n := 1) C (c_M_X11_isCell (l := l) (D := D) (ca := ca) (a := a) g_1) kw_1437 kw_1438 kw_102 kw_1439 hP hS hl rfl rfl (by decide) (by decide +kernel) ⟨Nat.le_of_ble_eq_true rfl, Nat.le_of_ble_eq_true rfl⟩ rfl rfl (Nat.le_of_ble_eq_true rfl) dX11_reads__1 (fun H locs hP hS => ?_)
  refine W.eq (g2 := F0 m 4 ls [.int v_2]) rfl ?_
  refine lv_if_eq (tgt := 23) hx hb dX11_reads__4 (by decide) (fun h_4 => ?_) (fun h_4 => ?_)
  · have hf := fb_t h_4 hf
    exact w_M_X11_reads___0_23 C hr hf hP hS (lv_sub hl [] rfl)
  · have hf := fb_f h_4 hf
    exact w_M_X11_reads___0_7 C hr hf hP hS (lv_sub hl [0, 1, 2] rfl)
set_option maxRecDepth 20000 in
theorem c_M_X11_reads___0 {l : Launch} {D : va_G} {ca : Nat → ClassId} {a : Nat → Nat} {t : fw_S} {x1 : Int32} {x2 : Int32} {u : fw_S} {r : Int32} (hf : f_M_X11_reads___0 t x1 x2 = some (r, u)) : MC (WM ca a) D (tyv ca) l yX11_reads_ (.code yX11_reads_ prog_13_method_60_code 3 (some .int) :: lw_gd) rm_M_X11_reads___0 [.ref (a 0), .int x1, .int x2] (some (.int r)) t u := by
  refine fw_met (okM ca a) (by decide +kernel) rfl rfl (Nat.le_of_ble_eq_true rfl) ?_
  intro p e s m args below meth c A Q ls C hr hk hP hS hl hQ
  exact w_M_X11_reads___0_0 C (fun _ => fw_ri C hr hk hQ) hf hP hS (lv_sub hl [0, 1, 2] rfl)
/-! ReactiveSheetModel.order(I)I ['m'] -/
abbrev rm_M_X11_order__0 : Room := { frames := 3, cells := 0, slots := 0, locals := 66 }
def b_M_X11_order__0_71  (t : fw_S)  : Option (Int32 × fw_S) := some ((-1 : Int32), t)
def b_M_X11_order__0_65 (k8 : fw_S → Int32 → Int32 → Int32 → Option (Int32 × fw_S)) (t : fw_S) (x1 : Int32) (x2 : Int32) (x3 : Int32) : Option (Int32 × fw_S) := k8 t x1 x2 (x3 + 1)
def b_M_X11_order__0_59 (k8 : fw_S → Int32 → Int32 → Int32 → Option (Int32 × fw_S)) (k17 : fw_S → Int32 → Int32 → Int32 → Int32 → Option (Int32 × fw_S)) (t : fw_S) (x1 : Int32) (x2 : Int32) (x3 : Int32) (x4 : Int32) : Option (Int32 × fw_S) := k17 t x1 x2 x3 (x4 + 1)
def b_M_X11_order__0_56 (k8 : fw_S → Int32 → Int32 → Int32 → Option (Int32 × fw_S)) (k17 : fw_S → Int32 → Int32 → Int32 → Int32 → Option (Int32 × fw_S)) (t : fw_S) (x1 : Int32) (x2 : Int32) (x3 : Int32) (x4 : Int32) : Option (Int32 × fw_S) := b_M_X11_order__0_59 k8 k17 t x1 (x2 + 1) x3 x4
def b_M_X11_order__0_53  (t : fw_S) (x4 : Int32) : Option (Int32 × fw_S) := some (x4, t)
def b_M_X11_order__0_48 (k8 : fw_S → Int32 → Int32 → Int32 → Option (Int32 × fw_S)) (k17 : fw_S → Int32 → Int32 → Int32 → Int32 → Option (Int32 × fw_S)) (t : fw_S) (x1 : Int32) (x2 : Int32) (x3 : Int32) (x4 : Int32) : Option (Int32 × fw_S) := if x2 = x1 then b_M_X11_order__0_53 t x4 else b_M_X11_order__0_56 k8 k17 t x1 x2 x3 x4
def b_M_X11_order__0_45 (k8 : fw_S → Int32 → Int32 → Int32 → Option (Int32 × fw_S)) (k17 : fw_S → Int32 → Int32 → Int32 → Int32 → Option (Int32 × fw_S)) (t : fw_S) (x1 : Int32) (x2 : Int32) (x3 : Int32) (x4 : Int32) : Option (Int32 × fw_S) := b_M_X11_order__0_59 k8 k17 t x1 x2 x3 x4
def b_M_X11_order__0_34 (k8 : fw_S → Int32 → Int32 → Int32 → Option (Int32 × fw_S)) (k17 : fw_S → Int32 → Int32 → Int32 → Int32 → Option (Int32 × fw_S)) (t : fw_S) (x1 : Int32) (x2 : Int32) (x3 : Int32) (x4 : Int32) : Option (Int32 × fw_S) := fb_g (¬ (x4 < 0 ∨ 32 ≤ x4.toNatClampNeg)) (if (st_F t 40 x4.toNatClampNeg) = x3 then b_M_X11_order__0_48 k8 k17 t x1 x2 x3 x4 else b_M_X11_order__0_45 k8 k17 t x1 x2 x3 x4)
def b_M_X11_order__0_24 (k8 : fw_S → Int32 → Int32 → Int32 → Option (Int32 × fw_S)) (k17 : fw_S → Int32 → Int32 → Int32 → Int32 → Option (Int32 × fw_S)) (t : fw_S) (x1 : Int32) (x2 : Int32) (x3 : Int32) (x4 : Int32) : Option (Int32 × fw_S) := fb_g (¬ (x4 < 0 ∨ 32 ≤ x4.toNatClampNeg)) (if (st_F t 0 x4.toNatClampNeg) = 0 then b_M_X11_order__0_59 k8 k17 t x1 x2 x3 x4 else b_M_X11_order__0_34 k8 k17 t x1 x2 x3 x4)
def b_M_X11_order__0_17 (k8 : fw_S → Int32 → Int32 → Int32 → Option (Int32 × fw_S)) : Nat → (fw_S → Int32 → Int32 → Int32 → Int32 → Option (Int32 × fw_S))
  | 0 => fun _ _ _ _ _ => none
  | n + 1 => fun t x1 x2 x3 x4 => if ((32 : Int32)) ≤ x4 then b_M_X11_order__0_65 k8 t x1 x2 x3 else b_M_X11_order__0_24 k8 (b_M_X11_order__0_17 k8 n) t x1 x2 x3 x4
def b_M_X11_order__0_14 (k8 : fw_S → Int32 → Int32 → Int32 → Option (Int32 × fw_S)) (t : fw_S) (x1 : Int32) (x2 : Int32) (x3 : Int32) : Option (Int32 × fw_S) := b_M_X11_order__0_17 k8 3000 t x1 x2 x3 ((0 : Int32))
def b_M_X11_order__0_8  : Nat → (fw_S → Int32 → Int32 → Int32 → Option (Int32 × fw_S))
  | 0 => fun _ _ _ _ => none
  | n + 1 => fun t x1 x2 x3 => if ((32 : Int32)) < x3 then b_M_X11_order__0_71 t else b_M_X11_order__0_14 (b_M_X11_order__0_8 n) t x1 x2 x3
def b_M_X11_order__0_0  (t : fw_S) (x1 : Int32) : Option (Int32 × fw_S) := fb_v (f_M_X11_tellHeights__0 t) fun t_1 => (b_M_X11_order__0_8 3000 t_1 x1 ((0 : Int32)) ((0 : Int32)))
def f_M_X11_order__0 (t : fw_S) (x1 : Int32) : Option (Int32 × fw_S) := b_M_X11_order__0_0 t x1
set_option maxRecDepth 20000 in
theorem w_M_X11_order__0_71 {p : Program} {l : Launch} {e : Env} {s : State} {m : MethodId} {args : Array Value} {below : List Frame} {meth : Method} {c : Code} {A : Nat → Prop} {Q : State → Prop} {D : va_G} {ca : Nat → ClassId} {a : Nat → Nat} {u : fw_S} {r : Int32}  (C : CX (WM ca a) D (tyv ca) p s m args c A prog_13_method_61_code 5 RX11) (hr : True → RX (WM ca a) D p l e rm_M_X11_order__0 s m args below meth c A prog_13_method_61_code Q .ireturn [.int r] u) {t : fw_S}  {H : Heap} {locs : List Loc} {ls : Array Slot} (hf : b_M_X11_order__0_71  t  = some (r, u)) (hP : va_P D classes (WM ca a t) H) (hS : va_S A s.heap H locs) (hl : lv_has ls 5 []) : W p l e rm_M_X11_order__0 s m args below meth c H locs 0 0 Q (F0 m 71 ls []) := by
  obtain ⟨hx, hb, hml, hown, hts, hN, hK, hD, hA⟩ := id C
  have hf : (some ((-1 : Int32), t)) = some (r, u) := hf
  refine lv_iconst (v := (-1)) hx hb dX11_order_71 (by decide) ?_
  obtain ⟨e_72, e2_72⟩ := fb_e hf
  subst e_72; subst e2_72
  exact hr trivial _ _ _ _ hP hS dX11_order_72
set_option maxRecDepth 20000 in
theorem w_M_X11_order__0_65 {p : Program} {l : Launch} {e : Env} {s : State} {m : MethodId} {args : Array Value} {below : List Frame} {meth : Method} {c : Code} {A : Nat → Prop} {Q : State → Prop} {D : va_G} {ca : Nat → ClassId} {a : Nat → Nat} {u : fw_S} {r : Int32} {k8 : fw_S → Int32 → Int32 → Int32 → Option (Int32 × fw_S)} (C : CX (WM ca a) D (tyv ca) p s m args c A prog_13_method_61_code 5 RX11) (hr : True → RX (WM ca a) D p l e rm_M_X11_order__0 s m args below meth c A prog_13_method_61_code Q .ireturn [.int r] u) (hk8 : ∀ (t : fw_S) (x1 : Int32) (x2 : Int32) (x3 : Int32) (H : Heap) (locs : List Loc) (ls : Array Slot), k8 t x1 x2 x3 = some (r, u) → va_P D classes (WM ca a t) H → va_S A s.heap H locs → lv_has ls 5 [(0, .ref (a 0)), (1, .int x1), (2, .int x2), (3, .int x3)] → W p l e rm_M_X11_order__0 s m args below meth c H locs 0 0 Q (F0 m 8 ls [])) {t : fw_S} {x1 : Int32} {x2 : Int32} {x3 : Int32} {H : Heap} {locs : List Loc} {ls : Array Slot} (hf : b_M_X11_order__0_65 k8 t x1 x2 x3 = some (r, u)) (hP : va_P D classes (WM ca a t) H) (hS : va_S A s.heap H locs) (hl : lv_has ls 5 [(0, .ref (a 0)), (1, .int x1), (2, .int x2), (3, .int x3)]) : W p l e rm_M_X11_order__0 s m args below meth c H locs 0 0 Q (F0 m 65 ls []) := by
  obtain ⟨hx, hb, hml, hown, hts, hN, hK, hD, hA⟩ := id C
  have hf : (k8 t x1 x2 (x3 + 1)) = some (r, u) := hf
  refine lv_iinc (v := x3 + 1) (lv' := [(3, .int (x3 + 1)), (0, .ref (a 0)), (1, .int x1), (2, .int x2)]) hx hb dX11_order_65 hl (k := 3) rfl rfl (by decide) rfl (fun ls hl => ?_)
  refine lv_goto (tgt := 8) hx hb dX11_order_68 (by decide) ?_
  exact hk8 t x1 x2 (x3 + 1) _ _ _ hf hP hS (lv_sub hl [1, 2, 3, 0] rfl)
set_option maxRecDepth 20000 in
theorem w_M_X11_order__0_59 {p : Program} {l : Launch} {e : Env} {s : State} {m : MethodId} {args : Array Value} {below : List Frame} {meth : Method} {c : Code} {A : Nat → Prop} {Q : State → Prop} {D : va_G} {ca : Nat → ClassId} {a : Nat → Nat} {u : fw_S} {r : Int32} {k8 : fw_S → Int32 → Int32 → Int32 → Option (Int32 × fw_S)} {k17 : fw_S → Int32 → Int32 → Int32 → Int32 → Option (Int32 × fw_S)} (C : CX (WM ca a) D (tyv ca) p s m args c A prog_13_method_61_code 5 RX11) (hr : True → RX (WM ca a) D p l e rm_M_X11_order__0 s m args below meth c A prog_13_method_61_code Q .ireturn [.int r] u) (hk8 : ∀ (t : fw_S) (x1 : Int32) (x2 : Int32) (x3 : Int32) (H : Heap) (locs : List Loc) (ls : Array Slot), k8 t x1 x2 x3 = some (r, u) → va_P D classes (WM ca a t) H → va_S A s.heap H locs → lv_has ls 5 [(0, .ref (a 0)), (1, .int x1), (2, .int x2), (3, .int x3)] → W p l e rm_M_X11_order__0 s m args below meth c H locs 0 0 Q (F0 m 8 ls [])) (hk17 : ∀ (t : fw_S) (x1 : Int32) (x2 : Int32) (x3 : Int32) (x4 : Int32) (H : Heap) (locs : List Loc) (ls : Array Slot), k17 t x1 x2 x3 x4 = some (r, u) → va_P D classes (WM ca a t) H → va_S A s.heap H locs → lv_has ls 5 [(0, .ref (a 0)), (1, .int x1), (2, .int x2), (3, .int x3), (4, .int x4)] → W p l e rm_M_X11_order__0 s m args below meth c H locs 0 0 Q (F0 m 17 ls [])) {t : fw_S} {x1 : Int32} {x2 : Int32} {x3 : Int32} {x4 : Int32} {H : Heap} {locs : List Loc} {ls : Array Slot} (hf : b_M_X11_order__0_59 k8 k17 t x1 x2 x3 x4 = some (r, u)) (hP : va_P D classes (WM ca a t) H) (hS : va_S A s.heap H locs) (hl : lv_has ls 5 [(0, .ref (a 0)), (1, .int x1), (2, .int x2), (3, .int x3), (4, .int x4)]) : W p l e rm_M_X11_order__0 s m args below meth c H locs 0 0 Q (F0 m 59 ls []) := by
  obtain ⟨hx, hb, hml, hown, hts, hN, hK, hD, hA⟩ := id C
  have hf : (k17 t x1 x2 x3 (x4 + 1)) = some (r, u) := hf
  refine lv_iinc (v := x4 + 1) (lv' := [(4, .int (x4 + 1)), (0, .ref (a 0)), (1, .int x1), (2, .int x2), (3, .int x3)]) hx hb dX11_order_59 hl (k := 4) rfl rfl (by decide) rfl (fun ls hl => ?_)
  refine lv_goto (tgt := 17) hx hb dX11_order_62 (by decide) ?_
  exact hk17 t x1 x2 x3 (x4 + 1) _ _ _ hf hP hS (lv_sub hl [1, 2, 3, 4, 0] rfl)
set_option maxRecDepth 20000 in
theorem w_M_X11_order__0_56 {p : Program} {l : Launch} {e : Env} {s : State} {m : MethodId} {args : Array Value} {below : List Frame} {meth : Method} {c : Code} {A : Nat → Prop} {Q : State → Prop} {D : va_G} {ca : Nat → ClassId} {a : Nat → Nat} {u : fw_S} {r : Int32} {k8 : fw_S → Int32 → Int32 → Int32 → Option (Int32 × fw_S)} {k17 : fw_S → Int32 → Int32 → Int32 → Int32 → Option (Int32 × fw_S)} (C : CX (WM ca a) D (tyv ca) p s m args c A prog_13_method_61_code 5 RX11) (hr : True → RX (WM ca a) D p l e rm_M_X11_order__0 s m args below meth c A prog_13_method_61_code Q .ireturn [.int r] u) (hk8 : ∀ (t : fw_S) (x1 : Int32) (x2 : Int32) (x3 : Int32) (H : Heap) (locs : List Loc) (ls : Array Slot), k8 t x1 x2 x3 = some (r, u) → va_P D classes (WM ca a t) H → va_S A s.heap H locs → lv_has ls 5 [(0, .ref (a 0)), (1, .int x1), (2, .int x2), (3, .int x3)] → W p l e rm_M_X11_order__0 s m args below meth c H locs 0 0 Q (F0 m 8 ls [])) (hk17 : ∀ (t : fw_S) (x1 : Int32) (x2 : Int32) (x3 : Int32) (x4 : Int32) (H : Heap) (locs : List Loc) (ls : Array Slot), k17 t x1 x2 x3 x4 = some (r, u) → va_P D classes (WM ca a t) H → va_S A s.heap H locs → lv_has ls 5 [(0, .ref (a 0)), (1, .int x1), (2, .int x2), (3, .int x3), (4, .int x4)] → W p l e rm_M_X11_order__0 s m args below meth c H locs 0 0 Q (F0 m 17 ls [])) {t : fw_S} {x1 : Int32} {x2 : Int32} {x3 : Int32} {x4 : Int32} {H : Heap} {locs : List Loc} {ls : Array Slot} (hf : b_M_X11_order__0_56 k8 k17 t x1 x2 x3 x4 = some (r, u)) (hP : va_P D classes (WM ca a t) H) (hS : va_S A s.heap H locs) (hl : lv_has ls 5 [(0, .ref (a 0)), (1, .int x1), (2, .int x2), (3, .int x3), (4, .int x4)]) : W p l e rm_M_X11_order__0 s m args below meth c H locs 0 0 Q (F0 m 56 ls []) := by
  obtain ⟨hx, hb, hml, hown, hts, hN, hK, hD, hA⟩ := id C
  have hf : (b_M_X11_order__0_59 k8 k17 t x1 (x2 + 1) x3 x4) = some (r, u) := hf
  refine lv_iinc (v := x2 + 1) (lv' := [(2, .int (x2 + 1)), (0, .ref (a 0)), (1, .int x1), (3, .int x3), (4, .int x4)]) hx hb dX11_order_56 hl (k := 2) rfl rfl (by decide) rfl (fun ls hl => ?_)
  exact w_M_X11_order__0_59 C hr hk8 hk17 hf hP hS (lv_sub hl [1, 2, 0, 3, 4] rfl)
set_option maxRecDepth 20000 in
theorem w_M_X11_order__0_53 {p : Program} {l : Launch} {e : Env} {s : State} {m : MethodId} {args : Array Value} {below : List Frame} {meth : Method} {c : Code} {A : Nat → Prop} {Q : State → Prop} {D : va_G} {ca : Nat → ClassId} {a : Nat → Nat} {u : fw_S} {r : Int32}  (C : CX (WM ca a) D (tyv ca) p s m args c A prog_13_method_61_code 5 RX11) (hr : True → RX (WM ca a) D p l e rm_M_X11_order__0 s m args below meth c A prog_13_method_61_code Q .ireturn [.int r] u) {t : fw_S} {x4 : Int32} {H : Heap} {locs : List Loc} {ls : Array Slot} (hf : b_M_X11_order__0_53  t x4 = some (r, u)) (hP : va_P D classes (WM ca a t) H) (hS : va_S A s.heap H locs) (hl : lv_has ls 5 [(4, .int x4)]) : W p l e rm_M_X11_order__0 s m args below meth c H locs 0 0 Q (F0 m 53 ls []) := by
  obtain ⟨hx, hb, hml, hown, hts, hN, hK, hD, hA⟩ := id C
  have hf : (some (x4, t)) = some (r, u) := hf
  refine lv_iload hx hb dX11_order_53 (lv_at hl 0 rfl) ?_
  obtain ⟨e_55, e2_55⟩ := fb_e hf
  subst e_55; subst e2_55
  exact hr trivial _ _ _ _ hP hS dX11_order_55
set_option maxRecDepth 20000 in
theorem w_M_X11_order__0_48 {p : Program} {l : Launch} {e : Env} {s : State} {m : MethodId} {args : Array Value} {below : List Frame} {meth : Method} {c : Code} {A : Nat → Prop} {Q : State → Prop} {D : va_G} {ca : Nat → ClassId} {a : Nat → Nat} {u : fw_S} {r : Int32} {k8 : fw_S → Int32 → Int32 → Int32 → Option (Int32 × fw_S)} {k17 : fw_S → Int32 → Int32 → Int32 → Int32 → Option (Int32 × fw_S)} (C : CX (WM ca a) D (tyv ca) p s m args c A prog_13_method_61_code 5 RX11) (hr : True → RX (WM ca a) D p l e rm_M_X11_order__0 s m args below meth c A prog_13_method_61_code Q .ireturn [.int r] u) (hk8 : ∀ (t : fw_S) (x1 : Int32) (x2 : Int32) (x3 : Int32) (H : Heap) (locs : List Loc) (ls : Array Slot), k8 t x1 x2 x3 = some (r, u) → va_P D classes (WM ca a t) H → va_S A s.heap H locs → lv_has ls 5 [(0, .ref (a 0)), (1, .int x1), (2, .int x2), (3, .int x3)] → W p l e rm_M_X11_order__0 s m args below meth c H locs 0 0 Q (F0 m 8 ls [])) (hk17 : ∀ (t : fw_S) (x1 : Int32) (x2 : Int32) (x3 : Int32) (x4 : Int32) (H : Heap) (locs : List Loc) (ls : Array Slot), k17 t x1 x2 x3 x4 = some (r, u) → va_P D classes (WM ca a t) H → va_S A s.heap H locs → lv_has ls 5 [(0, .ref (a 0)), (1, .int x1), (2, .int x2), (3, .int x3), (4, .int x4)] → W p l e rm_M_X11_order__0 s m args below meth c H locs 0 0 Q (F0 m 17 ls [])) {t : fw_S} {x1 : Int32} {x2 : Int32} {x3 : Int32} {x4 : Int32} {H : Heap} {locs : List Loc} {ls : Array Slot} (hf : b_M_X11_order__0_48 k8 k17 t x1 x2 x3 x4 = some (r, u)) (hP : va_P D classes (WM ca a t) H) (hS : va_S A s.heap H locs) (hl : lv_has ls 5 [(0, .ref (a 0)), (1, .int x1), (2, .int x2), (3, .int x3), (4, .int x4)]) : W p l e rm_M_X11_order__0 s m args below meth c H locs 0 0 Q (F0 m 48 ls []) := by
  obtain ⟨hx, hb, hml, hown, hts, hN, hK, hD, hA⟩ := id C
  have hf : (if x2 = x1 then b_M_X11_order__0_53 t x4 else b_M_X11_order__0_56 k8 k17 t x1 x2 x3 x4) = some (r, u) := hf
  refine lv_iload_n hx hb dX11_order_48 rfl (lv_at hl 2 rfl) ?_
  refine lv_iload_n hx hb dX11_order_49 rfl (lv_at hl 1 rfl) ?_
  refine lv_icmp_ne (tgt := 56) hx hb dX11_order_50 (by decide) (fun h_50 => ?_) (fun h_50 => ?_)
  · have hf := fb_f h_50 hf
    exact w_M_X11_order__0_56 C hr hk8 hk17 hf hP hS (lv_sub hl [0, 1, 2, 3, 4] rfl)
  · have hf := fb_t h_50 hf
    exact w_M_X11_order__0_53 C hr hf hP hS (lv_sub hl [4] rfl)
set_option maxRecDepth 20000 in
theorem w_M_X11_order__0_45 {p : Program} {l : Launch} {e : Env} {s : State} {m : MethodId} {args : Array Value} {below : List Frame} {meth : Method} {c : Code} {A : Nat → Prop} {Q : State → Prop} {D : va_G} {ca : Nat → ClassId} {a : Nat → Nat} {u : fw_S} {r : Int32} {k8 : fw_S → Int32 → Int32 → Int32 → Option (Int32 × fw_S)} {k17 : fw_S → Int32 → Int32 → Int32 → Int32 → Option (Int32 × fw_S)} (C : CX (WM ca a) D (tyv ca) p s m args c A prog_13_method_61_code 5 RX11) (hr : True → RX (WM ca a) D p l e rm_M_X11_order__0 s m args below meth c A prog_13_method_61_code Q .ireturn [.int r] u) (hk8 : ∀ (t : fw_S) (x1 : Int32) (x2 : Int32) (x3 : Int32) (H : Heap) (locs : List Loc) (ls : Array Slot), k8 t x1 x2 x3 = some (r, u) → va_P D classes (WM ca a t) H → va_S A s.heap H locs → lv_has ls 5 [(0, .ref (a 0)), (1, .int x1), (2, .int x2), (3, .int x3)] → W p l e rm_M_X11_order__0 s m args below meth c H locs 0 0 Q (F0 m 8 ls [])) (hk17 : ∀ (t : fw_S) (x1 : Int32) (x2 : Int32) (x3 : Int32) (x4 : Int32) (H : Heap) (locs : List Loc) (ls : Array Slot), k17 t x1 x2 x3 x4 = some (r, u) → va_P D classes (WM ca a t) H → va_S A s.heap H locs → lv_has ls 5 [(0, .ref (a 0)), (1, .int x1), (2, .int x2), (3, .int x3), (4, .int x4)] → W p l e rm_M_X11_order__0 s m args below meth c H locs 0 0 Q (F0 m 17 ls [])) {t : fw_S} {x1 : Int32} {x2 : Int32} {x3 : Int32} {x4 : Int32} {H : Heap} {locs : List Loc} {ls : Array Slot} (hf : b_M_X11_order__0_45 k8 k17 t x1 x2 x3 x4 = some (r, u)) (hP : va_P D classes (WM ca a t) H) (hS : va_S A s.heap H locs) (hl : lv_has ls 5 [(0, .ref (a 0)), (1, .int x1), (2, .int x2), (3, .int x3), (4, .int x4)]) : W p l e rm_M_X11_order__0 s m args below meth c H locs 0 0 Q (F0 m 45 ls []) := by
  obtain ⟨hx, hb, hml, hown, hts, hN, hK, hD, hA⟩ := id C
  have hf : (b_M_X11_order__0_59 k8 k17 t x1 x2 x3 x4) = some (r, u) := hf
  refine lv_goto (tgt := 59) hx hb dX11_order_45 (by decide) ?_
  exact w_M_X11_order__0_59 C hr hk8 hk17 hf hP hS (lv_sub hl [0, 1, 2, 3, 4] rfl)
set_option maxRecDepth 20000 in
theorem w_M_X11_order__0_34 {p : Program} {l : Launch} {e : Env} {s : State} {m : MethodId} {args : Array Value} {below : List Frame} {meth : Method} {c : Code} {A : Nat → Prop} {Q : State → Prop} {D : va_G} {ca : Nat → ClassId} {a : Nat → Nat} {u : fw_S} {r : Int32} {k8 : fw_S → Int32 → Int32 → Int32 → Option (Int32 × fw_S)} {k17 : fw_S → Int32 → Int32 → Int32 → Int32 → Option (Int32 × fw_S)} (C : CX (WM ca a) D (tyv ca) p s m args c A prog_13_method_61_code 5 RX11) (hr : True → RX (WM ca a) D p l e rm_M_X11_order__0 s m args below meth c A prog_13_method_61_code Q .ireturn [.int r] u) (hk8 : ∀ (t : fw_S) (x1 : Int32) (x2 : Int32) (x3 : Int32) (H : Heap) (locs : List Loc) (ls : Array Slot), k8 t x1 x2 x3 = some (r, u) → va_P D classes (WM ca a t) H → va_S A s.heap H locs → lv_has ls 5 [(0, .ref (a 0)), (1, .int x1), (2, .int x2), (3, .int x3)] → W p l e rm_M_X11_order__0 s m args below meth c H locs 0 0 Q (F0 m 8 ls [])) (hk17 : ∀ (t : fw_S) (x1 : Int32) (x2 : Int32) (x3 : Int32) (x4 : Int32) (H : Heap) (locs : List Loc) (ls : Array Slot), k17 t x1 x2 x3 x4 = some (r, u) → va_P D classes (WM ca a t) H → va_S A s.heap H locs → lv_has ls 5 [(0, .ref (a 0)), (1, .int x1), (2, .int x2), (3, .int x3), (4, .int x4)] → W p l e rm_M_X11_order__0 s m args below meth c H locs 0 0 Q (F0 m 17 ls [])) {t : fw_S} {x1 : Int32} {x2 : Int32} {x3 : Int32} {x4 : Int32} {H : Heap} {locs : List Loc} {ls : Array Slot} (hf : b_M_X11_order__0_34 k8 k17 t x1 x2 x3 x4 = some (r, u)) (hP : va_P D classes (WM ca a t) H) (hS : va_S A s.heap H locs) (hl : lv_has ls 5 [(0, .ref (a 0)), (1, .int x1), (2, .int x2), (3, .int x3), (4, .int x4)]) : W p l e rm_M_X11_order__0 s m args below meth c H locs 0 0 Q (F0 m 34 ls []) := by
  obtain ⟨hx, hb, hml, hown, hts, hN, hK, hD, hA⟩ := id C
  have hf : (fb_g (¬ (x4 < 0 ∨ 32 ≤ x4.toNatClampNeg)) (if (st_F t 40 x4.toNatClampNeg) = x3 then b_M_X11_order__0_48 k8 k17 t x1 x2 x3 x4 else b_M_X11_order__0_45 k8 k17 t x1 x2 x3 x4)) = some (r, u) := hf
  refine lv_aload_n hx hb dX11_order_34 rfl (lv_at hl 0 rfl) ?_
  refine va_get (D := D) (ci := 11) (v := .ref (a 50)) (C := RX11) (T := TX11) (N := 76) hx hb hts inX11 hown hK hP 0 (heM_0 ca a t) rfl 70 (by decide) (hts _ kw_1262) (fun _ h9 => h9) rfl dX11_order_35 ?_
  refine lv_iload hx hb dX11_order_38 (lv_at hl 4 rfl) ?_
  obtain ⟨h_40, hf⟩ := fb_if hf
  refine va_iald hx hb hK hP 50 0 (haM_50 ca a t) rfl h_40 dX11_order_40 ?_
  refine lv_iload_n hx hb dX11_order_41 rfl (lv_at hl 3 rfl) ?_
  refine lv_icmp_eq (tgt := 48) hx hb dX11_order_42 (by decide) (fun h_42 => ?_) (fun h_42 => ?_)
  · have hf := fb_t h_42 hf
    exact w_M_X11_order__0_48 C hr hk8 hk17 hf hP hS (lv_sub hl [0, 1, 2, 3, 4] rfl)
  · have hf := fb_f h_42 hf
    exact w_M_X11_order__0_45 C hr hk8 hk17 hf hP hS (lv_sub hl [0, 1, 2, 3, 4] rfl)
set_option maxRecDepth 20000 in
theorem w_M_X11_order__0_24 {p : Program} {l : Launch} {e : Env} {s : State} {m : MethodId} {args : Array Value} {below : List Frame} {meth : Method} {c : Code} {A : Nat → Prop} {Q : State → Prop} {D : va_G} {ca : Nat → ClassId} {a : Nat → Nat} {u : fw_S} {r : Int32} {k8 : fw_S → Int32 → Int32 → Int32 → Option (Int32 × fw_S)} {k17 : fw_S → Int32 → Int32 → Int32 → Int32 → Option (Int32 × fw_S)} (C : CX (WM ca a) D (tyv ca) p s m args c A prog_13_method_61_code 5 RX11) (hr : True → RX (WM ca a) D p l e rm_M_X11_order__0 s m args below meth c A prog_13_method_61_code Q .ireturn [.int r] u) (hk8 : ∀ (t : fw_S) (x1 : Int32) (x2 : Int32) (x3 : Int32) (H : Heap) (locs : List Loc) (ls : Array Slot), k8 t x1 x2 x3 = some (r, u) → va_P D classes (WM ca a t) H → va_S A s.heap H locs → lv_has ls 5 [(0, .ref (a 0)), (1, .int x1), (2, .int x2), (3, .int x3)] → W p l e rm_M_X11_order__0 s m args below meth c H locs 0 0 Q (F0 m 8 ls [])) (hk17 : ∀ (t : fw_S) (x1 : Int32) (x2 : Int32) (x3 : Int32) (x4 : Int32) (H : Heap) (locs : List Loc) (ls : Array Slot), k17 t x1 x2 x3 x4 = some (r, u) → va_P D classes (WM ca a t) H → va_S A s.heap H locs → lv_has ls 5 [(0, .ref (a 0)), (1, .int x1), (2, .int x2), (3, .int x3), (4, .int x4)] → W p l e rm_M_X11_order__0 s m args below meth c H locs 0 0 Q (F0 m 17 ls [])) {t : fw_S} {x1 : Int32} {x2 : Int32} {x3 : Int32} {x4 : Int32} {H : Heap} {locs : List Loc} {ls : Array Slot} (hf : b_M_X11_order__0_24 k8 k17 t x1 x2 x3 x4 = some (r, u)) (hP : va_P D classes (WM ca a t) H) (hS : va_S A s.heap H locs) (hl : lv_has ls 5 [(0, .ref (a 0)), (1, .int x1), (2, .int x2), (3, .int x3), (4, .int x4)]) : W p l e rm_M_X11_order__0 s m args below meth c H locs 0 0 Q (F0 m 24 ls []) := by
  obtain ⟨hx, hb, hml, hown, hts, hN, hK, hD, hA⟩ := id C
  have hf : (fb_g (¬ (x4 < 0 ∨ 32 ≤ x4.toNatClampNeg)) (if (st_F t 0 x4.toNatClampNeg) = 0 then b_M_X11_order__0_59 k8 k17 t x1 x2 x3 x4 else b_M_X11_order__0_34 k8 k17 t x1 x2 x3 x4)) = some (r, u) := hf
  refine lv_aload_n hx hb dX11_order_24 rfl (lv_at hl 0 rfl) ?_
  refine va_get (D := D) (ci := 11) (v := .ref (a 1)) (C := RX11) (T := TX11) (N := 76) hx hb hts inX11 hown hK hP 0 (heM_0 ca a t) rfl 0 (by decide) (hts _ kw_1192) (fun _ h9 => h9) rfl dX11_order_25 ?_
  refine lv_iload hx hb dX11_order_28 (lv_at hl 4 rfl) ?_
  obtain ⟨h_30, hf⟩ := fb_if hf
  refine va_iald hx hb hK hP 1 0 (haM_1 ca a t) rfl h_30 dX11_order_30 ?_
  refine lv_if_eq (tgt := 59) hx hb dX11_order_31 (by decide) (fun h_31 => ?_) (fun h_31 => ?_)
  · have hf := fb_t h_31 hf
    exact w_M_X11_order__0_59 C hr hk8 hk17 hf hP hS (lv_sub hl [0, 1, 2, 3, 4] rfl)
  · have hf := fb_f h_31 hf
    exact w_M_X11_order__0_34 C hr hk8 hk17 hf hP hS (lv_sub hl [0, 1, 2, 3, 4] rfl)
set_option maxRecDepth 20000 in
theorem w_M_X11_order__0_17 {p : Program} {l : Launch} {e : Env} {s : State} {m : MethodId} {args : Array Value} {below : List Frame} {meth : Method} {c : Code} {A : Nat → Prop} {Q : State → Prop} {D : va_G} {ca : Nat → ClassId} {a : Nat → Nat} {u : fw_S} {r : Int32} {k8 : fw_S → Int32 → Int32 → Int32 → Option (Int32 × fw_S)} (C : CX (WM ca a) D (tyv ca) p s m args c A prog_13_method_61_code 5 RX11) (hr : True → RX (WM ca a) D p l e rm_M_X11_order__0 s m args below meth c A prog_13_method_61_code Q .ireturn [.int r] u) (hk8 : ∀ (t : fw_S) (x1 : Int32) (x2 : Int32) (x3 : Int32) (H : Heap) (locs : List Loc) (ls : Array Slot), k8 t x1 x2 x3 = some (r, u) → va_P D classes (WM ca a t) H → va_S A s.heap H locs → lv_has ls 5 [(0, .ref (a 0)), (1, .int x1), (2, .int x2), (3, .int x3)] → W p l e rm_M_X11_order__0 s m args below meth c H locs 0 0 Q (F0 m 8 ls [])) : ∀ (n : Nat) (t : fw_S) (x1 : Int32) (x2 : Int32) (x3 : Int32) (x4 : Int32) (H : Heap) (locs : List Loc) (ls : Array Slot), b_M_X11_order__0_17 k8 n t x1 x2 x3 x4 = some (r, u) → va_P D classes (WM ca a t) H → va_S A s.heap H locs → lv_has ls 5 [(0, .ref (a 0)), (1, .int x1), (2, .int x2), (3, .int x3), (4, .int x4)] → W p l e rm_M_X11_order__0 s m args below meth c H locs 0 0 Q (F0 m 17 ls []) := by
  obtain ⟨hx, hb, hml, hown, hts, hN, hK, hD, hA⟩ := id C
  intro n
  induction n with
  | zero => intro t x1 x2 x3 x4 H locs ls hf; cases hf
  | succ n hk17 =>
    intro t x1 x2 x3 x4 H locs ls hf hP hS hl
    have hf : (if ((32 : Int32)) ≤ x4 then b_M_X11_order__0_65 k8 t x1 x2 x3 else b_M_X11_order__0_24 k8 (b_M_X11_order__0_17 k8 n) t x1 x2 x3 x4) = some (r, u) := hf
    refine lv_iload hx hb dX11_order_17 (lv_at hl 4 rfl) ?_
    refine lv_bipush (v := 32) hx hb dX11_order_19 (by decide) ?_
    refine lv_icmp_ge (tgt := 65) hx hb dX11_order_21 (by decide) (fun h_21 => ?_) (fun h_21 => ?_)
    · have hf := fb_t h_21 hf
      exact w_M_X11_order__0_65 C hr hk8 hf hP hS (lv_sub hl [0, 1, 2, 3] rfl)
    · have hf := fb_f h_21 hf
      exact w_M_X11_order__0_24 C hr hk8 hk17 hf hP hS (lv_sub hl [0, 1, 2, 3, 4] rfl)
set_option maxRecDepth 20000 in
theorem w_M_X11_order__0_14 {p : Program} {l : Launch} {e : Env} {s : State} {m : MethodId} {args : Array Value} {below : List Frame} {meth : Method} {c : Code} {A : Nat → Prop} {Q : State → Prop} {D : va_G} {ca : Nat → ClassId} {a : Nat → Nat} {u : fw_S} {r : Int32} {k8 : fw_S → Int32 → Int32 → Int32 → Option (Int32 × fw_S)} (C : CX (WM ca a) D (tyv ca) p s m args c A prog_13_method_61_code 5 RX11) (hr : True → RX (WM ca a) D p l e rm_M_X11_order__0 s m args below meth c A prog_13_method_61_code Q .ireturn [.int r] u) (hk8 : ∀ (t : fw_S) (x1 : Int32) (x2 : Int32) (x3 : Int32) (H : Heap) (locs : List Loc) (ls : Array Slot), k8 t x1 x2 x3 = some (r, u) → va_P D classes (WM ca a t) H → va_S A s.heap H locs → lv_has ls 5 [(0, .ref (a 0)), (1, .int x1), (2, .int x2), (3, .int x3)] → W p l e rm_M_X11_order__0 s m args below meth c H locs 0 0 Q (F0 m 8 ls [])) {t : fw_S} {x1 : Int32} {x2 : Int32} {x3 : Int32} {H : Heap} {locs : List Loc} {ls : Array Slot} (hf : b_M_X11_order__0_14 k8 t x1 x2 x3 = some (r, u)) (hP : va_P D classes (WM ca a t) H) (hS : va_S A s.heap H locs) (hl : lv_has ls 5 [(0, .ref (a 0)), (1, .int x1), (2, .int x2), (3, .int x3)]) : W p l e rm_M_X11_order__0 s m args below meth c H locs 0 0 Q (F0 m 14 ls []) := by
  obtain ⟨hx, hb, hml, hown, hts, hN, hK, hD, hA⟩ := id C
  have hf : (b_M_X11_order__0_17 k8 3000 t x1 x2 x3 ((0 : Int32))) = some (r, u) := hf
  refine lv_iconst (v := 0) hx hb dX11_order_14 (by decide) ?_
  refine lv_istore (lv' := [(4, .int ((0 : Int32))), (0, .ref (a 0)), (1, .int x1), (2, .int x2), (3, .int x3)]) hx hb dX11_order_15 hl (by decide) rfl (fun ls hl => ?_)
  exact w_M_X11_order__0_17 C hr hk8 3000 t x1 x2 x3 ((0 : Int32)) _ _ _ hf hP hS (lv_sub hl [1, 2, 3, 4, 0] rfl)
set_option maxRecDepth 20000 in
theorem w_M_X11_order__0_8 {p : Program} {l : Launch} {e : Env} {s : State} {m : MethodId} {args : Array Value} {below : List Frame} {meth : Method} {c : Code} {A : Nat → Prop} {Q : State → Prop} {D : va_G} {ca : Nat → ClassId} {a : Nat → Nat} {u : fw_S} {r : Int32}  (C : CX (WM ca a) D (tyv ca) p s m args c A prog_13_method_61_code 5 RX11) (hr : True → RX (WM ca a) D p l e rm_M_X11_order__0 s m args below meth c A prog_13_method_61_code Q .ireturn [.int r] u) : ∀ (n : Nat) (t : fw_S) (x1 : Int32) (x2 : Int32) (x3 : Int32) (H : Heap) (locs : List Loc) (ls : Array Slot), b_M_X11_order__0_8  n t x1 x2 x3 = some (r, u) → va_P D classes (WM ca a t) H → va_S A s.heap H locs → lv_has ls 5 [(0, .ref (a 0)), (1, .int x1), (2, .int x2), (3, .int x3)] → W p l e rm_M_X11_order__0 s m args below meth c H locs 0 0 Q (F0 m 8 ls []) := by
  obtain ⟨hx, hb, hml, hown, hts, hN, hK, hD, hA⟩ := id C
  intro n
  induction n with
  | zero => intro t x1 x2 x3 H locs ls hf; cases hf
  | succ n hk8 =>
    intro t x1 x2 x3 H locs ls hf hP hS hl
    have hf : (if ((32 : Int32)) < x3 then b_M_X11_order__0_71 t else b_M_X11_order__0_14 (b_M_X11_order__0_8 n) t x1 x2 x3) = some (r, u) := hf
    refine lv_iload_n hx hb dX11_order_8 rfl (lv_at hl 3 rfl) ?_
    refine lv_bipush (v := 32) hx hb dX11_order_9 (by decide) ?_
    refine lv_icmp_gt (tgt := 71) hx hb dX11_order_11 (by decide) (fun h_11 => ?_) (fun h_11 => ?_)
    · have hf := fb_t h_11 hf
      exact w_M_X11_order__0_71 C hr hf hP hS (lv_sub hl [] rfl)
    · have hf := fb_f h_11 hf
      exact w_M_X11_order__0_14 C hr hk8 hf hP hS (lv_sub hl [0, 1, 2, 3] rfl)
set_option maxRecDepth 20000 in
theorem w_M_X11_order__0_0 {p : Program} {l : Launch} {e : Env} {s : State} {m : MethodId} {args : Array Value} {below : List Frame} {meth : Method} {c : Code} {A : Nat → Prop} {Q : State → Prop} {D : va_G} {ca : Nat → ClassId} {a : Nat → Nat} {u : fw_S} {r : Int32}  (C : CX (WM ca a) D (tyv ca) p s m args c A prog_13_method_61_code 5 RX11) (hr : True → RX (WM ca a) D p l e rm_M_X11_order__0 s m args below meth c A prog_13_method_61_code Q .ireturn [.int r] u) {t : fw_S} {x1 : Int32} {H : Heap} {locs : List Loc} {ls : Array Slot} (hf : b_M_X11_order__0_0  t x1 = some (r, u)) (hP : va_P D classes (WM ca a t) H) (hS : va_S A s.heap H locs) (hl : lv_has ls 5 [(0, .ref (a 0)), (1, .int x1)]) : W p l e rm_M_X11_order__0 s m args below meth c H locs 0 0 Q (F0 m 0 ls []) := by
  obtain ⟨hx, hb, hml, hown, hts, hN, hK, hD, hA⟩ := id C
  have hf : (fb_v (f_M_X11_tellHeights__0 t) fun t_1 => (b_M_X11_order__0_8 3000 t_1 x1 ((0 : Int32)) ((0 : Int32)))) = some (r, u) := hf
  refine lv_aload_n hx hb dX11_order_0 rfl (lv_at hl 0 rfl) ?_
  obtain ⟨t_1, g_1, hf⟩ := fb_vs hf
  refine fw_V1 (As := []) (rest := []) (n := 0) (q0 := 0) C (c_M_X11_tellHeights__0 (l := l) (D := D) (ca := ca) (a := a) g_1) kw_1636 kw_1638 kw_102 kw_1639 kw_79 hP hS hl (heM_0 ca a t) rfl rfl rfl (by decide) (by decide +kernel) ⟨Nat.le_of_ble_eq_true rfl, Nat.le_of_ble_eq_true rfl⟩ rfl rfl (Nat.le_of_ble_eq_true rfl) dX11_order_1 (fun H locs hP hS => ?_)
  refine W.eq (g2 := F0 m 4 ls []) rfl ?_
  refine lv_iconst (v := 0) hx hb dX11_order_4 (by decide) ?_
  refine lv_istore_n (lv' := [(2, .int ((0 : Int32))), (0, .ref (a 0)), (1, .int x1)]) hx hb dX11_order_5 rfl hl (by decide) rfl (fun ls hl => ?_)
  refine lv_iconst (v := 0) hx hb dX11_order_6 (by decide) ?_
  refine lv_istore_n (lv' := [(3, .int ((0 : Int32))), (2, .int ((0 : Int32))), (0, .ref (a 0)), (1, .int x1)]) hx hb dX11_order_7 rfl hl (by decide) rfl (fun ls hl => ?_)
  exact w_M_X11_order__0_8 C hr 3000 t_1 x1 ((0 : Int32)) ((0 : Int32)) _ _ _ hf hP hS (lv_sub hl [2, 3, 1, 0] rfl)
set_option maxRecDepth 20000 in
theorem c_M_X11_order__0 {l : Launch} {D : va_G} {ca : Nat → ClassId} {a : Nat → Nat} {t : fw_S} {x1 : Int32} {u : fw_S} {r : Int32} (hf : f_M_X11_order__0 t x1 = some (r, u)) : MC (WM ca a) D (tyv ca) l yX11_order (.code yX11_order prog_13_method_61_code 5 (some .int) :: lw_gd) rm_M_X11_order__0 [.ref (a 0), .int x1] (some (.int r)) t u := by
  refine fw_met (okM ca a) (by decide +kernel) rfl rfl (Nat.le_of_ble_eq_true rfl) ?_
  intro p e s m args below meth c A Q ls C hr hk hP hS hl hQ
  exact w_M_X11_order__0_0 C (fun _ => fw_ri C hr hk hQ) hf hP hS (lv_sub hl [0, 1] rfl)
/-! ReactiveSheetModel.why(II)I ['m'] -/
abbrev rm_M_X11_why__0 : Room := { frames := 2, cells := 0, slots := 0, locals := 42 }
def b_M_X11_why__0_11  (t : fw_S)  : Option (Int32 × fw_S) := some ((-1 : Int32), t)
def b_M_X11_why__0_55  (t : fw_S) (z0 : Int32) : Option (Int32 × fw_S) := some (z0, t)
def b_M_X11_why__0_54  (t : fw_S) (x3 : Int32) : Option (Int32 × fw_S) := b_M_X11_why__0_55 t x3
def b_M_X11_why__0_50  (t : fw_S)  : Option (Int32 × fw_S) := b_M_X11_why__0_55 t ((-1 : Int32))
def b_M_X11_why__0_46  (t : fw_S) (x3 : Int32) : Option (Int32 × fw_S) := if 0 ≤ x3 then b_M_X11_why__0_54 t x3 else b_M_X11_why__0_50 t
def b_M_X11_why__0_33 (k23 : fw_S → Int32 → Int32 → Int32 → Option (Int32 × fw_S)) (t : fw_S) (x2 : Int32) (x3 : Int32) (x4 : Int32) : Option (Int32 × fw_S) := fb_g (¬ (x3 < 0 ∨ 32 ≤ x3.toNatClampNeg)) (k23 t x2 (st_F t 4 x3.toNatClampNeg) (x4 + 1))
def b_M_X11_why__0_29 (k23 : fw_S → Int32 → Int32 → Int32 → Option (Int32 × fw_S)) (t : fw_S) (x2 : Int32) (x3 : Int32) (x4 : Int32) : Option (Int32 × fw_S) := if x3 < 0 then b_M_X11_why__0_46 t x3 else b_M_X11_why__0_33 k23 t x2 x3 x4
def b_M_X11_why__0_23  : Nat → (fw_S → Int32 → Int32 → Int32 → Option (Int32 × fw_S))
  | 0 => fun _ _ _ _ => none
  | n + 1 => fun t x2 x3 x4 => if x2 ≤ x4 then b_M_X11_why__0_46 t x3 else b_M_X11_why__0_29 (b_M_X11_why__0_23 n) t x2 x3 x4
def b_M_X11_why__0_13  (t : fw_S) (x1 : Int32) (x2 : Int32) : Option (Int32 × fw_S) := fb_g (¬ (x1 < 0 ∨ 32 ≤ x1.toNatClampNeg)) (b_M_X11_why__0_23 3000 t x2 (st_F t 4 x1.toNatClampNeg) ((0 : Int32)))
def b_M_X11_why__0_7  (t : fw_S) (x1 : Int32) (x2 : Int32) : Option (Int32 × fw_S) := if 0 ≤ x2 then b_M_X11_why__0_13 t x1 x2 else b_M_X11_why__0_11 t
def b_M_X11_why__0_0  (t : fw_S) (x1 : Int32) (x2 : Int32) : Option (Int32 × fw_S) := fb_b (f_M_X11_isCell t x1) fun v_2 t_1 => (if v_2 = 0 then b_M_X11_why__0_11 t_1 else b_M_X11_why__0_7 t_1 x1 x2)
def f_M_X11_why__0 (t : fw_S) (x1 : Int32) (x2 : Int32) : Option (Int32 × fw_S) := b_M_X11_why__0_0 t x1 x2
set_option maxRecDepth 20000 in
theorem w_M_X11_why__0_11 {p : Program} {l : Launch} {e : Env} {s : State} {m : MethodId} {args : Array Value} {below : List Frame} {meth : Method} {c : Code} {A : Nat → Prop} {Q : State → Prop} {D : va_G} {ca : Nat → ClassId} {a : Nat → Nat} {u : fw_S} {r : Int32}  (C : CX (WM ca a) D (tyv ca) p s m args c A prog_13_method_62_code 5 RX11) (hr : True → RX (WM ca a) D p l e rm_M_X11_why__0 s m args below meth c A prog_13_method_62_code Q .ireturn [.int r] u) {t : fw_S}  {H : Heap} {locs : List Loc} {ls : Array Slot} (hf : b_M_X11_why__0_11  t  = some (r, u)) (hP : va_P D classes (WM ca a t) H) (hS : va_S A s.heap H locs) (hl : lv_has ls 5 []) : W p l e rm_M_X11_why__0 s m args below meth c H locs 0 0 Q (F0 m 11 ls []) := by
  obtain ⟨hx, hb, hml, hown, hts, hN, hK, hD, hA⟩ := id C
  have hf : (some ((-1 : Int32), t)) = some (r, u) := hf
  refine lv_iconst (v := (-1)) hx hb dX11_why_11 (by decide) ?_
  obtain ⟨e_12, e2_12⟩ := fb_e hf
  subst e_12; subst e2_12
  exact hr trivial _ _ _ _ hP hS dX11_why_12
set_option maxRecDepth 20000 in
theorem w_M_X11_why__0_55 {p : Program} {l : Launch} {e : Env} {s : State} {m : MethodId} {args : Array Value} {below : List Frame} {meth : Method} {c : Code} {A : Nat → Prop} {Q : State → Prop} {D : va_G} {ca : Nat → ClassId} {a : Nat → Nat} {u : fw_S} {r : Int32}  (C : CX (WM ca a) D (tyv ca) p s m args c A prog_13_method_62_code 5 RX11) (hr : True → RX (WM ca a) D p l e rm_M_X11_why__0 s m args below meth c A prog_13_method_62_code Q .ireturn [.int r] u) {t : fw_S} {z0 : Int32} {H : Heap} {locs : List Loc} {ls : Array Slot} (hf : b_M_X11_why__0_55  t z0 = some (r, u)) (hP : va_P D classes (WM ca a t) H) (hS : va_S A s.heap H locs) (hl : lv_has ls 5 []) : W p l e rm_M_X11_why__0 s m args below meth c H locs 0 0 Q (F0 m 55 ls [.int z0]) := by
  obtain ⟨hx, hb, hml, hown, hts, hN, hK, hD, hA⟩ := id C
  have hf : (some (z0, t)) = some (r, u) := hf
  obtain ⟨e_55, e2_55⟩ := fb_e hf
  subst e_55; subst e2_55
  exact hr trivial _ _ _ _ hP hS dX11_why_55
set_option maxRecDepth 20000 in
theorem w_M_X11_why__0_54 {p : Program} {l : Launch} {e : Env} {s : State} {m : MethodId} {args : Array Value} {below : List Frame} {meth : Method} {c : Code} {A : Nat → Prop} {Q : State → Prop} {D : va_G} {ca : Nat → ClassId} {a : Nat → Nat} {u : fw_S} {r : Int32}  (C : CX (WM ca a) D (tyv ca) p s m args c A prog_13_method_62_code 5 RX11) (hr : True → RX (WM ca a) D p l e rm_M_X11_why__0 s m args below meth c A prog_13_method_62_code Q .ireturn [.int r] u) {t : fw_S} {x3 : Int32} {H : Heap} {locs : List Loc} {ls : Array Slot} (hf : b_M_X11_why__0_54  t x3 = some (r, u)) (hP : va_P D classes (WM ca a t) H) (hS : va_S A s.heap H locs) (hl : lv_has ls 5 [(3, .int x3)]) : W p l e rm_M_X11_why__0 s m args below meth c H locs 0 0 Q (F0 m 54 ls []) := by
  obtain ⟨hx, hb, hml, hown, hts, hN, hK, hD, hA⟩ := id C
  have hf : (b_M_X11_why__0_55 t x3) = some (r, u) := hf
  refine lv_iload_n hx hb dX11_why_54 rfl (lv_at hl 0 rfl) ?_
  exact w_M_X11_why__0_55 C hr hf hP hS (lv_sub hl [] rfl)
set_option maxRecDepth 20000 in
theorem w_M_X11_why__0_50 {p : Program} {l : Launch} {e : Env} {s : State} {m : MethodId} {args : Array Value} {below : List Frame} {meth : Method} {c : Code} {A : Nat → Prop} {Q : State → Prop} {D : va_G} {ca : Nat → ClassId} {a : Nat → Nat} {u : fw_S} {r : Int32}  (C : CX (WM ca a) D (tyv ca) p s m args c A prog_13_method_62_code 5 RX11) (hr : True → RX (WM ca a) D p l e rm_M_X11_why__0 s m args below meth c A prog_13_method_62_code Q .ireturn [.int r] u) {t : fw_S}  {H : Heap} {locs : List Loc} {ls : Array Slot} (hf : b_M_X11_why__0_50  t  = some (r, u)) (hP : va_P D classes (WM ca a t) H) (hS : va_S A s.heap H locs) (hl : lv_has ls 5 []) : W p l e rm_M_X11_why__0 s m args below meth c H locs 0 0 Q (F0 m 50 ls []) := by
  obtain ⟨hx, hb, hml, hown, hts, hN, hK, hD, hA⟩ := id C
  have hf : (b_M_X11_why__0_55 t ((-1 : Int32))) = some (r, u) := hf
  refine lv_iconst (v := (-1)) hx hb dX11_why_50 (by decide) ?_
  refine lv_goto (tgt := 55) hx hb dX11_why_51 (by decide) ?_
  exact w_M_X11_why__0_55 C hr hf hP hS (lv_sub hl [] rfl)
set_option maxRecDepth 20000 in
theorem w_M_X11_why__0_46 {p : Program} {l : Launch} {e : Env} {s : State} {m : MethodId} {args : Array Value} {below : List Frame} {meth : Method} {c : Code} {A : Nat → Prop} {Q : State → Prop} {D : va_G} {ca : Nat → ClassId} {a : Nat → Nat} {u : fw_S} {r : Int32}  (C : CX (WM ca a) D (tyv ca) p s m args c A prog_13_method_62_code 5 RX11) (hr : True → RX (WM ca a) D p l e rm_M_X11_why__0 s m args below meth c A prog_13_method_62_code Q .ireturn [.int r] u) {t : fw_S} {x3 : Int32} {H : Heap} {locs : List Loc} {ls : Array Slot} (hf : b_M_X11_why__0_46  t x3 = some (r, u)) (hP : va_P D classes (WM ca a t) H) (hS : va_S A s.heap H locs) (hl : lv_has ls 5 [(3, .int x3)]) : W p l e rm_M_X11_why__0 s m args below meth c H locs 0 0 Q (F0 m 46 ls []) := by
  obtain ⟨hx, hb, hml, hown, hts, hN, hK, hD, hA⟩ := id C
  have hf : (if 0 ≤ x3 then b_M_X11_why__0_54 t x3 else b_M_X11_why__0_50 t) = some (r, u) := hf
  refine lv_iload_n hx hb dX11_why_46 rfl (lv_at hl 0 rfl) ?_
  refine lv_if_ge (tgt := 54) hx hb dX11_why_47 (by decide) (fun h_47 => ?_) (fun h_47 => ?_)
  · have hf := fb_t h_47 hf
    exact w_M_X11_why__0_54 C hr hf hP hS (lv_sub hl [0] rfl)
  · have hf := fb_f h_47 hf
    exact w_M_X11_why__0_50 C hr hf hP hS (lv_sub hl [] rfl)
set_option maxRecDepth 20000 in
theorem w_M_X11_why__0_33 {p : Program} {l : Launch} {e : Env} {s : State} {m : MethodId} {args : Array Value} {below : List Frame} {meth : Method} {c : Code} {A : Nat → Prop} {Q : State → Prop} {D : va_G} {ca : Nat → ClassId} {a : Nat → Nat} {u : fw_S} {r : Int32} {k23 : fw_S → Int32 → Int32 → Int32 → Option (Int32 × fw_S)} (C : CX (WM ca a) D (tyv ca) p s m args c A prog_13_method_62_code 5 RX11) (hr : True → RX (WM ca a) D p l e rm_M_X11_why__0 s m args below meth c A prog_13_method_62_code Q .ireturn [.int r] u) (hk23 : ∀ (t : fw_S) (x2 : Int32) (x3 : Int32) (x4 : Int32) (H : Heap) (locs : List Loc) (ls : Array Slot), k23 t x2 x3 x4 = some (r, u) → va_P D classes (WM ca a t) H → va_S A s.heap H locs → lv_has ls 5 [(0, .ref (a 0)), (2, .int x2), (3, .int x3), (4, .int x4)] → W p l e rm_M_X11_why__0 s m args below meth c H locs 0 0 Q (F0 m 23 ls [])) {t : fw_S} {x2 : Int32} {x3 : Int32} {x4 : Int32} {H : Heap} {locs : List Loc} {ls : Array Slot} (hf : b_M_X11_why__0_33 k23 t x2 x3 x4 = some (r, u)) (hP : va_P D classes (WM ca a t) H) (hS : va_S A s.heap H locs) (hl : lv_has ls 5 [(0, .ref (a 0)), (2, .int x2), (3, .int x3), (4, .int x4)]) : W p l e rm_M_X11_why__0 s m args below meth c H locs 0 0 Q (F0 m 33 ls []) := by
  obtain ⟨hx, hb, hml, hown, hts, hN, hK, hD, hA⟩ := id C
  have hf : (fb_g (¬ (x3 < 0 ∨ 32 ≤ x3.toNatClampNeg)) (k23 t x2 (st_F t 4 x3.toNatClampNeg) (x4 + 1))) = some (r, u) := hf
  refine lv_aload_n hx hb dX11_why_33 rfl (lv_at hl 0 rfl) ?_
  refine va_get (D := D) (ci := 11) (v := .ref (a 5)) (C := RX11) (T := TX11) (N := 76) hx hb hts inX11 hown hK hP 0 (heM_0 ca a t) rfl 4 (by decide) (hts _ kw_1196) (fun _ h9 => h9) rfl dX11_why_34 ?_
  refine lv_iload_n hx hb dX11_why_37 rfl (lv_at hl 2 rfl) ?_
  obtain ⟨h_38, hf⟩ := fb_if hf
  refine va_iald hx hb hK hP 5 0 (haM_5 ca a t) rfl h_38 dX11_why_38 ?_
  refine lv_istore_n (lv' := [(3, .int (st_F t 4 x3.toNatClampNeg)), (0, .ref (a 0)), (2, .int x2), (4, .int x4)]) hx hb dX11_why_39 rfl hl (by decide) rfl (fun ls hl => ?_)
  refine lv_iinc (v := x4 + 1) (lv' := [(4, .int (x4 + 1)), (3, .int (st_F t 4 x3.toNatClampNeg)), (0, .ref (a 0)), (2, .int x2)]) hx hb dX11_why_40 hl (k := 3) rfl rfl (by decide) rfl (fun ls hl => ?_)
  refine lv_goto (tgt := 23) hx hb dX11_why_43 (by decide) ?_
  exact hk23 t x2 (st_F t 4 x3.toNatClampNeg) (x4 + 1) _ _ _ hf hP hS (lv_sub hl [2, 3, 1, 0] rfl)
set_option maxRecDepth 20000 in
theorem w_M_X11_why__0_29 {p : Program} {l : Launch} {e : Env} {s : State} {m : MethodId} {args : Array Value} {below : List Frame} {meth : Method} {c : Code} {A : Nat → Prop} {Q : State → Prop} {D : va_G} {ca : Nat → ClassId} {a : Nat → Nat} {u : fw_S} {r : Int32} {k23 : fw_S → Int32 → Int32 → Int32 → Option (Int32 × fw_S)} (C : CX (WM ca a) D (tyv ca) p s m args c A prog_13_method_62_code 5 RX11) (hr : True → RX (WM ca a) D p l e rm_M_X11_why__0 s m args below meth c A prog_13_method_62_code Q .ireturn [.int r] u) (hk23 : ∀ (t : fw_S) (x2 : Int32) (x3 : Int32) (x4 : Int32) (H : Heap) (locs : List Loc) (ls : Array Slot), k23 t x2 x3 x4 = some (r, u) → va_P D classes (WM ca a t) H → va_S A s.heap H locs → lv_has ls 5 [(0, .ref (a 0)), (2, .int x2), (3, .int x3), (4, .int x4)] → W p l e rm_M_X11_why__0 s m args below meth c H locs 0 0 Q (F0 m 23 ls [])) {t : fw_S} {x2 : Int32} {x3 : Int32} {x4 : Int32} {H : Heap} {locs : List Loc} {ls : Array Slot} (hf : b_M_X11_why__0_29 k23 t x2 x3 x4 = some (r, u)) (hP : va_P D classes (WM ca a t) H) (hS : va_S A s.heap H locs) (hl : lv_has ls 5 [(0, .ref (a 0)), (2, .int x2), (3, .int x3), (4, .int x4)]) : W p l e rm_M_X11_why__0 s m args below meth c H locs 0 0 Q (F0 m 29 ls []) := by
  obtain ⟨hx, hb, hml, hown, hts, hN, hK, hD, hA⟩ := id C
  have hf : (if x3 < 0 then b_M_X11_why__0_46 t x3 else b_M_X11_why__0_33 k23 t x2 x3 x4) = some (r, u) := hf
  refine lv_iload_n hx hb dX11_why_29 rfl (lv_at hl 2 rfl) ?_
  refine lv_if_lt (tgt := 46) hx hb dX11_why_30 (by decide) (fun h_30 => ?_) (fun h_30 => ?_)
  · have hf := fb_t h_30 hf
    exact w_M_X11_why__0_46 C hr hf hP hS (lv_sub hl [2] rfl)
  · have hf := fb_f h_30 hf
    exact w_M_X11_why__0_33 C hr hk23 hf hP hS (lv_sub hl [0, 1, 2, 3] rfl)
set_option maxRecDepth 20000 in
theorem w_M_X11_why__0_23 {p : Program} {l : Launch} {e : Env} {s : State} {m : MethodId} {args : Array Value} {below : List Frame} {meth : Method} {c : Code} {A : Nat → Prop} {Q : State → Prop} {D : va_G} {ca : Nat → ClassId} {a : Nat → Nat} {u : fw_S} {r : Int32}  (C : CX (WM ca a) D (tyv ca) p s m args c A prog_13_method_62_code 5 RX11) (hr : True → RX (WM ca a) D p l e rm_M_X11_why__0 s m args below meth c A prog_13_method_62_code Q .ireturn [.int r] u) : ∀ (n : Nat) (t : fw_S) (x2 : Int32) (x3 : Int32) (x4 : Int32) (H : Heap) (locs : List Loc) (ls : Array Slot), b_M_X11_why__0_23  n t x2 x3 x4 = some (r, u) → va_P D classes (WM ca a t) H → va_S A s.heap H locs → lv_has ls 5 [(0, .ref (a 0)), (2, .int x2), (3, .int x3), (4, .int x4)] → W p l e rm_M_X11_why__0 s m args below meth c H locs 0 0 Q (F0 m 23 ls []) := by
  obtain ⟨hx, hb, hml, hown, hts, hN, hK, hD, hA⟩ := id C
  intro n
  induction n with
  | zero => intro t x2 x3 x4 H locs ls hf; cases hf
  | succ n hk23 =>
    intro t x2 x3 x4 H locs ls hf hP hS hl
    have hf : (if x2 ≤ x4 then b_M_X11_why__0_46 t x3 else b_M_X11_why__0_29 (b_M_X11_why__0_23 n) t x2 x3 x4) = some (r, u) := hf
    refine lv_iload hx hb dX11_why_23 (lv_at hl 3 rfl) ?_
    refine lv_iload_n hx hb dX11_why_25 rfl (lv_at hl 1 rfl) ?_
    refine lv_icmp_ge (tgt := 46) hx hb dX11_why_26 (by decide) (fun h_26 => ?_) (fun h_26 => ?_)
    · have hf := fb_t h_26 hf
      exact w_M_X11_why__0_46 C hr hf hP hS (lv_sub hl [2] rfl)
    · have hf := fb_f h_26 hf
      exact w_M_X11_why__0_29 C hr hk23 hf hP hS (lv_sub hl [0, 1, 2, 3] rfl)
set_option maxRecDepth 20000 in
theorem w_M_X11_why__0_13 {p : Program} {l : Launch} {e : Env} {s : State} {m : MethodId} {args : Array Value} {below : List Frame} {meth : Method} {c : Code} {A : Nat → Prop} {Q : State → Prop} {D : va_G} {ca : Nat → ClassId} {a : Nat → Nat} {u : fw_S} {r : Int32}  (C : CX (WM ca a) D (tyv ca) p s m args c A prog_13_method_62_code 5 RX11) (hr : True → RX (WM ca a) D p l e rm_M_X11_why__0 s m args below meth c A prog_13_method_62_code Q .ireturn [.int r] u) {t : fw_S} {x1 : Int32} {x2 : Int32} {H : Heap} {locs : List Loc} {ls : Array Slot} (hf : b_M_X11_why__0_13  t x1 x2 = some (r, u)) (hP : va_P D classes (WM ca a t) H) (hS : va_S A s.heap H locs) (hl : lv_has ls 5 [(0, .ref (a 0)), (1, .int x1), (2, .int x2)]) : W p l e rm_M_X11_why__0 s m args below meth c H locs 0 0 Q (F0 m 13 ls []) := by
  obtain ⟨hx, hb, hml, hown, hts, hN, hK, hD, hA⟩ := id C
  have hf : (fb_g (¬ (x1 < 0 ∨ 32 ≤ x1.toNatClampNeg)) (b_M_X11_why__0_23 3000 t x2 (st_F t 4 x1.toNatClampNeg) ((0 : Int32)))) = some (r, u) := hf
  refine lv_aload_n hx hb dX11_why_13 rfl (lv_at hl 0 rfl) ?_
  refine va_get (D := D) (ci := 11) (v := .ref (a 5)) (C := RX11) (T := TX11) (N := 76) hx hb hts inX11 hown hK hP 0 (heM_0 ca a t) rfl 4 (by decide) (hts _ kw_1196) (fun _ h9 => h9) rfl dX11_why_14 ?_
  refine lv_iload_n hx hb dX11_why_17 rfl (lv_at hl 1 rfl) ?_
  obtain ⟨h_18, hf⟩ := fb_if hf
  refine va_iald hx hb hK hP 5 0 (haM_5 ca a t) rfl h_18 dX11_why_18 ?_
  refine lv_istore_n (lv' := [(3, .int (st_F t 4 x1.toNatClampNeg)), (0, .ref (a 0)), (1, .int x1), (2, .int x2)]) hx hb dX11_why_19 rfl hl (by decide) rfl (fun ls hl => ?_)
  refine lv_iconst (v := 0) hx hb dX11_why_20 (by decide) ?_
  refine lv_istore (lv' := [(4, .int ((0 : Int32))), (3, .int (st_F t 4 x1.toNatClampNeg)), (0, .ref (a 0)), (1, .int x1), (2, .int x2)]) hx hb dX11_why_21 hl (by decide) rfl (fun ls hl => ?_)
  exact w_M_X11_why__0_23 C hr 3000 t x2 (st_F t 4 x1.toNatClampNeg) ((0 : Int32)) _ _ _ hf hP hS (lv_sub hl [2, 4, 1, 0] rfl)
set_option maxRecDepth 20000 in
theorem w_M_X11_why__0_7 {p : Program} {l : Launch} {e : Env} {s : State} {m : MethodId} {args : Array Value} {below : List Frame} {meth : Method} {c : Code} {A : Nat → Prop} {Q : State → Prop} {D : va_G} {ca : Nat → ClassId} {a : Nat → Nat} {u : fw_S} {r : Int32}  (C : CX (WM ca a) D (tyv ca) p s m args c A prog_13_method_62_code 5 RX11) (hr : True → RX (WM ca a) D p l e rm_M_X11_why__0 s m args below meth c A prog_13_method_62_code Q .ireturn [.int r] u) {t : fw_S} {x1 : Int32} {x2 : Int32} {H : Heap} {locs : List Loc} {ls : Array Slot} (hf : b_M_X11_why__0_7  t x1 x2 = some (r, u)) (hP : va_P D classes (WM ca a t) H) (hS : va_S A s.heap H locs) (hl : lv_has ls 5 [(0, .ref (a 0)), (1, .int x1), (2, .int x2)]) : W p l e rm_M_X11_why__0 s m args below meth c H locs 0 0 Q (F0 m 7 ls []) := by
  obtain ⟨hx, hb, hml, hown, hts, hN, hK, hD, hA⟩ := id C
  have hf : (if 0 ≤ x2 then b_M_X11_why__0_13 t x1 x2 else b_M_X11_why__0_11 t) = some (r, u) := hf
  refine lv_iload_n hx hb dX11_why_7 rfl (lv_at hl 2 rfl) ?_
  refine lv_if_ge (tgt := 13) hx hb dX11_why_8 (by decide) (fun h_8 => ?_) (fun h_8 => ?_)
  · have hf := fb_t h_8 hf
    exact w_M_X11_why__0_13 C hr hf hP hS (lv_sub hl [0, 1, 2] rfl)
  · have hf := fb_f h_8 hf
    exact w_M_X11_why__0_11 C hr hf hP hS (lv_sub hl [] rfl)
set_option maxRecDepth 20000 in
theorem w_M_X11_why__0_0 {p : Program} {l : Launch} {e : Env} {s : State} {m : MethodId} {args : Array Value} {below : List Frame} {meth : Method} {c : Code} {A : Nat → Prop} {Q : State → Prop} {D : va_G} {ca : Nat → ClassId} {a : Nat → Nat} {u : fw_S} {r : Int32}  (C : CX (WM ca a) D (tyv ca) p s m args c A prog_13_method_62_code 5 RX11) (hr : True → RX (WM ca a) D p l e rm_M_X11_why__0 s m args below meth c A prog_13_method_62_code Q .ireturn [.int r] u) {t : fw_S} {x1 : Int32} {x2 : Int32} {H : Heap} {locs : List Loc} {ls : Array Slot} (hf : b_M_X11_why__0_0  t x1 x2 = some (r, u)) (hP : va_P D classes (WM ca a t) H) (hS : va_S A s.heap H locs) (hl : lv_has ls 5 [(0, .ref (a 0)), (1, .int x1), (2, .int x2)]) : W p l e rm_M_X11_why__0 s m args below meth c H locs 0 0 Q (F0 m 0 ls []) := by
  obtain ⟨hx, hb, hml, hown, hts, hN, hK, hD, hA⟩ := id C
  have hf : (fb_b (f_M_X11_isCell t x1) fun v_2 t_1 => (if v_2 = 0 then b_M_X11_why__0_11 t_1 else b_M_X11_why__0_7 t_1 x1 x2)) = some (r, u) := hf
  refine lv_iload_n hx hb dX11_why_0 rfl (lv_at hl 1 rfl) ?_
  obtain ⟨v_2, t_1, g_1, hf⟩ := fb_bs hf
  refine fw_S1 (As := [.int x1]) (rest := []) (n := 1) C (c_M_X11_isCell (l := l) (D := D) (ca := ca) (a := a) g_1) kw_1437 kw_1438 kw_102 kw_1439 hP hS hl rfl rfl (by decide) (by decide +kernel) ⟨Nat.le_of_ble_eq_true rfl, Nat.le_of_ble_eq_true rfl⟩ rfl rfl (Nat.le_of_ble_eq_true rfl) dX11_why_1 (fun H locs hP hS => ?_)
  refine W.eq (g2 := F0 m 4 ls [.int v_2]) rfl ?_
  refine lv_if_eq (tgt := 11) hx hb dX11_why_4 (by decide) (fun h_4 => ?_) (fun h_4 => ?_)
  · have hf := fb_t h_4 hf
    exact w_M_X11_why__0_11 C hr hf hP hS (lv_sub hl [] rfl)
  · have hf := fb_f h_4 hf
    exact w_M_X11_why__0_7 C hr hf hP hS (lv_sub hl [0, 1, 2] rfl)
set_option maxRecDepth 20000 in
theorem c_M_X11_why__0 {l : Launch} {D : va_G} {ca : Nat → ClassId} {a : Nat → Nat} {t : fw_S} {x1 : Int32} {x2 : Int32} {u : fw_S} {r : Int32} (hf : f_M_X11_why__0 t x1 x2 = some (r, u)) : MC (WM ca a) D (tyv ca) l yX11_why (.code yX11_why prog_13_method_62_code 5 (some .int) :: lw_gd) rm_M_X11_why__0 [.ref (a 0), .int x1, .int x2] (some (.int r)) t u := by
  refine fw_met (okM ca a) (by decide +kernel) rfl rfl (Nat.le_of_ble_eq_true rfl) ?_
  intro p e s m args below meth c A Q ls C hr hk hP hS hl hQ
  exact w_M_X11_why__0_0 C (fun _ => fw_ri C hr hk hQ) hf hP hS (lv_sub hl [0, 1, 2] rfl)
/-! ReactiveSheetModel.way(III)I ['m'] -/
abbrev rm_M_X11_way__0 : Room := { frames := 2, cells := 0, slots := 0, locals := 42 }
def b_M_X11_way__0_19  (t : fw_S)  : Option (Int32 × fw_S) := some ((-1 : Int32), t)
def b_M_X11_way__0_231  (t : fw_S) (z0 : Int32) : Option (Int32 × fw_S) := some (z0, t)
def b_M_X11_way__0_229  (t : fw_S) (x7 : Int32) : Option (Int32 × fw_S) := b_M_X11_way__0_231 t x7
def b_M_X11_way__0_224  (t : fw_S) (x5 : Int32) : Option (Int32 × fw_S) := b_M_X11_way__0_231 t x5
def b_M_X11_way__0_219  (t : fw_S) (x3 : Int32) (x5 : Int32) (x7 : Int32) : Option (Int32 × fw_S) := if x3 = ((-1 : Int32)) then b_M_X11_way__0_224 t x5 else b_M_X11_way__0_229 t x7
def b_M_X11_way__0_212 (k188 : fw_S → Int32 → Int32 → Int32 → Int32 → Int32 → Option (Int32 × fw_S)) (t : fw_S) (x2 : Int32) (x3 : Int32) (x5 : Int32) (x6 : Int32) : Option (Int32 × fw_S) := k188 t x2 x3 x5 x6 x6
def b_M_X11_way__0_194 (k188 : fw_S → Int32 → Int32 → Int32 → Int32 → Int32 → Option (Int32 × fw_S)) (t : fw_S) (x2 : Int32) (x3 : Int32) (x5 : Int32) (x6 : Int32) (x7 : Int32) : Option (Int32 × fw_S) := fb_g (¬ (x6 < 0 ∨ 32 ≤ x6.toNatClampNeg)) (if (x5 + 1) = x3 then b_M_X11_way__0_212 k188 t x2 x3 (x5 + 1) (st_F t 42 x6.toNatClampNeg) else k188 t x2 x3 (x5 + 1) (st_F t 42 x6.toNatClampNeg) x7)
def b_M_X11_way__0_188  : Nat → (fw_S → Int32 → Int32 → Int32 → Int32 → Int32 → Option (Int32 × fw_S))
  | 0 => fun _ _ _ _ _ _ => none
  | n + 1 => fun t x2 x3 x5 x6 x7 => if x6 = x2 then b_M_X11_way__0_219 t x3 x5 x7 else b_M_X11_way__0_194 (b_M_X11_way__0_188 n) t x2 x3 x5 x6 x7
def b_M_X11_way__0_186  (t : fw_S) (x2 : Int32) (x3 : Int32) (x5 : Int32) (x6 : Int32) (z0 : Int32) : Option (Int32 × fw_S) := b_M_X11_way__0_188 3000 t x2 x3 x5 x6 z0
def b_M_X11_way__0_185  (t : fw_S) (x2 : Int32) (x3 : Int32) (x5 : Int32) (x6 : Int32) : Option (Int32 × fw_S) := b_M_X11_way__0_186 t x2 x3 x5 x6 ((-1 : Int32))
def b_M_X11_way__0_181  (t : fw_S) (x1 : Int32) (x2 : Int32) (x3 : Int32) (x5 : Int32) (x6 : Int32) : Option (Int32 × fw_S) := b_M_X11_way__0_186 t x2 x3 x5 x6 x1
def b_M_X11_way__0_171  (t : fw_S) (x1 : Int32) (x2 : Int32) (x3 : Int32) : Option (Int32 × fw_S) := if x3 = 0 then b_M_X11_way__0_181 t x1 x2 x3 ((0 : Int32)) x1 else b_M_X11_way__0_185 t x2 x3 ((0 : Int32)) x1
def b_M_X11_way__0_168  (t : fw_S)  : Option (Int32 × fw_S) := some ((-5 : Int32), t)
def b_M_X11_way__0_158  (t : fw_S) (x1 : Int32) (x2 : Int32) (x3 : Int32) : Option (Int32 × fw_S) := fb_g (¬ (x1 < 0 ∨ 32 ≤ x1.toNatClampNeg)) (if (st_F t 42 x1.toNatClampNeg) = ((-1 : Int32)) then b_M_X11_way__0_168 t else b_M_X11_way__0_171 t x1 x2 x3)
def b_M_X11_way__0_152 (k65 : fw_S → Int32 → Int32 → Int32 → Int32 → Int32 → Option (Int32 × fw_S)) (t : fw_S) (x1 : Int32) (x2 : Int32) (x3 : Int32) (x4 : Int32) (x5 : Int32) : Option (Int32 × fw_S) := k65 t x1 x2 x3 x4 (x5 + 1)
def b_M_X11_way__0_146 (k65 : fw_S → Int32 → Int32 → Int32 → Int32 → Int32 → Option (Int32 × fw_S)) (k84 : fw_S → Int32 → Int32 → Int32 → Int32 → Int32 → Int32 → Int32 → Option (Int32 × fw_S)) (t : fw_S) (x1 : Int32) (x2 : Int32) (x3 : Int32) (x4 : Int32) (x5 : Int32) (x6 : Int32) (x7 : Int32) : Option (Int32 × fw_S) := k84 t x1 x2 x3 x4 x5 x6 (x7 + 1)
def b_M_X11_way__0_125 (k65 : fw_S → Int32 → Int32 → Int32 → Int32 → Int32 → Option (Int32 × fw_S)) (k84 : fw_S → Int32 → Int32 → Int32 → Int32 → Int32 → Int32 → Int32 → Option (Int32 × fw_S)) (t : fw_S) (x1 : Int32) (x2 : Int32) (x3 : Int32) (x4 : Int32) (x5 : Int32) (x6 : Int32) (x7 : Int32) (x8 : Int32) : Option (Int32 × fw_S) := fb_g (¬ (x8 < 0 ∨ 32 ≤ x8.toNatClampNeg)) (fb_l (up_F t 42 (upd (st_F t 42) x8.toNatClampNeg x6)) fun t_1 => (fb_g (¬ (x4 < 0 ∨ 32 ≤ x4.toNatClampNeg)) (fb_l (up_F t_1 41 (upd (st_F t_1 41) x4.toNatClampNeg x8)) fun t_2 => (b_M_X11_way__0_146 k65 k84 t_2 x1 x2 x3 (x4 + 1) x5 x6 x7))))
def b_M_X11_way__0_122 (k65 : fw_S → Int32 → Int32 → Int32 → Int32 → Int32 → Option (Int32 × fw_S)) (k84 : fw_S → Int32 → Int32 → Int32 → Int32 → Int32 → Int32 → Int32 → Option (Int32 × fw_S)) (t : fw_S) (x1 : Int32) (x2 : Int32) (x3 : Int32) (x4 : Int32) (x5 : Int32) (x6 : Int32) (x7 : Int32) : Option (Int32 × fw_S) := b_M_X11_way__0_146 k65 k84 t x1 x2 x3 x4 x5 x6 x7
def b_M_X11_way__0_96 (k65 : fw_S → Int32 → Int32 → Int32 → Int32 → Int32 → Option (Int32 × fw_S)) (k84 : fw_S → Int32 → Int32 → Int32 → Int32 → Int32 → Int32 → Int32 → Option (Int32 × fw_S)) (t : fw_S) (x1 : Int32) (x2 : Int32) (x3 : Int32) (x4 : Int32) (x5 : Int32) (x6 : Int32) (x7 : Int32) : Option (Int32 × fw_S) := fb_g (¬ (((((32 : Int32)) * x6) + x7) < 0 ∨ 1024 ≤ ((((32 : Int32)) * x6) + x7).toNatClampNeg)) (fb_g (¬ ((st_F t 6 ((((32 : Int32)) * x6) + x7).toNatClampNeg) < 0 ∨ 32 ≤ (st_F t 6 ((((32 : Int32)) * x6) + x7).toNatClampNeg).toNatClampNeg)) (if (st_F t 42 (st_F t 6 ((((32 : Int32)) * x6) + x7).toNatClampNeg).toNatClampNeg) = ((-1 : Int32)) then b_M_X11_way__0_125 k65 k84 t x1 x2 x3 x4 x5 x6 x7 (st_F t 6 ((((32 : Int32)) * x6) + x7).toNatClampNeg) else b_M_X11_way__0_122 k65 k84 t x1 x2 x3 x4 x5 x6 x7))
def b_M_X11_way__0_84 (k65 : fw_S → Int32 → Int32 → Int32 → Int32 → Int32 → Option (Int32 × fw_S)) : Nat → (fw_S → Int32 → Int32 → Int32 → Int32 → Int32 → Int32 → Int32 → Option (Int32 × fw_S))
  | 0 => fun _ _ _ _ _ _ _ _ => none
  | n + 1 => fun t x1 x2 x3 x4 x5 x6 x7 => fb_g (¬ (x6 < 0 ∨ 32 ≤ x6.toNatClampNeg)) (if (st_F t 3 x6.toNatClampNeg) ≤ x7 then b_M_X11_way__0_152 k65 t x1 x2 x3 x4 x5 else b_M_X11_way__0_96 k65 (b_M_X11_way__0_84 k65 n) t x1 x2 x3 x4 x5 x6 x7)
def b_M_X11_way__0_72 (k65 : fw_S → Int32 → Int32 → Int32 → Int32 → Int32 → Option (Int32 × fw_S)) (t : fw_S) (x1 : Int32) (x2 : Int32) (x3 : Int32) (x4 : Int32) (x5 : Int32) : Option (Int32 × fw_S) := fb_g (¬ (x5 < 0 ∨ 32 ≤ x5.toNatClampNeg)) (b_M_X11_way__0_84 k65 3000 t x1 x2 x3 x4 x5 (st_F t 41 x5.toNatClampNeg) ((0 : Int32)))
def b_M_X11_way__0_65  : Nat → (fw_S → Int32 → Int32 → Int32 → Int32 → Int32 → Option (Int32 × fw_S))
  | 0 => fun _ _ _ _ _ _ => none
  | n + 1 => fun t x1 x2 x3 x4 x5 => if x4 ≤ x5 then b_M_X11_way__0_158 t x1 x2 x3 else b_M_X11_way__0_72 (b_M_X11_way__0_65 n) t x1 x2 x3 x4 x5
def b_M_X11_way__0_45  (t : fw_S) (x1 : Int32) (x2 : Int32) (x3 : Int32) : Option (Int32 × fw_S) := fb_g (¬ (((0 : Int32)) < 0 ∨ 32 ≤ ((0 : Int32)).toNatClampNeg)) (fb_l (up_F t 41 (upd (st_F t 41) ((0 : Int32)).toNatClampNeg x2)) fun t_1 => (fb_g (¬ (x2 < 0 ∨ 32 ≤ x2.toNatClampNeg)) (fb_l (up_F t_1 42 (upd (st_F t_1 42) x2.toNatClampNeg x2)) fun t_2 => (b_M_X11_way__0_65 3000 t_2 x1 x2 x3 ((1 : Int32)) ((0 : Int32))))))
def b_M_X11_way__0_31 (k24 : fw_S → Int32 → Int32 → Int32 → Int32 → Option (Int32 × fw_S)) (t : fw_S) (x1 : Int32) (x2 : Int32) (x3 : Int32) (x4 : Int32) : Option (Int32 × fw_S) := fb_g (¬ (x4 < 0 ∨ 32 ≤ x4.toNatClampNeg)) (fb_l (up_F t 42 (upd (st_F t 42) x4.toNatClampNeg ((-1 : Int32)))) fun t_1 => (k24 t_1 x1 x2 x3 (x4 + 1)))
def b_M_X11_way__0_24  : Nat → (fw_S → Int32 → Int32 → Int32 → Int32 → Option (Int32 × fw_S))
  | 0 => fun _ _ _ _ _ => none
  | n + 1 => fun t x1 x2 x3 x4 => if ((32 : Int32)) ≤ x4 then b_M_X11_way__0_45 t x1 x2 x3 else b_M_X11_way__0_31 (b_M_X11_way__0_24 n) t x1 x2 x3 x4
def b_M_X11_way__0_21  (t : fw_S) (x1 : Int32) (x2 : Int32) (x3 : Int32) : Option (Int32 × fw_S) := b_M_X11_way__0_24 3000 t x1 x2 x3 ((0 : Int32))
def b_M_X11_way__0_14  (t : fw_S) (x1 : Int32) (x2 : Int32) (x3 : Int32) : Option (Int32 × fw_S) := if ((-1 : Int32)) ≤ x3 then b_M_X11_way__0_21 t x1 x2 x3 else b_M_X11_way__0_19 t
def b_M_X11_way__0_7  (t : fw_S) (x1 : Int32) (x2 : Int32) (x3 : Int32) : Option (Int32 × fw_S) := fb_b (f_M_X11_isCell t x2) fun v_2 t_1 => (if v_2 = 0 then b_M_X11_way__0_19 t_1 else b_M_X11_way__0_14 t_1 x1 x2 x3)
def b_M_X11_way__0_0  (t : fw_S) (x1 : Int32) (x2 : Int32) (x3 : Int32) : Option (Int32 × fw_S) := fb_b (f_M_X11_isCell t x1) fun v_2 t_1 => (if v_2 = 0 then b_M_X11_way__0_19 t_1 else b_M_X11_way__0_7 t_1 x1 x2 x3)
def f_M_X11_way__0 (t : fw_S) (x1 : Int32) (x2 : Int32) (x3 : Int32) : Option (Int32 × fw_S) := b_M_X11_way__0_0 t x1 x2 x3
set_option maxRecDepth 20000 in
theorem w_M_X11_way__0_19 {p : Program} {l : Launch} {e : Env} {s : State} {m : MethodId} {args : Array Value} {below : List Frame} {meth : Method} {c : Code} {A : Nat → Prop} {Q : State → Prop} {D : va_G} {ca : Nat → ClassId} {a : Nat → Nat} {u : fw_S} {r : Int32}  (C : CX (WM ca a) D (tyv ca) p s m args c A prog_13_method_63_code 9 RX11) (hr : True → RX (WM ca a) D p l e rm_M_X11_way__0 s m args below meth c A prog_13_method_63_code Q .ireturn [.int r] u) {t : fw_S}  {H : Heap} {locs : List Loc} {ls : Array Slot} (hf : b_M_X11_way__0_19  t  = some (r, u)) (hP : va_P D classes (WM ca a t) H) (hS : va_S A s.heap H locs) (hl : lv_has ls 9 []) : W p l e rm_M_X11_way__0 s m args below meth c H locs 0 0 Q (F0 m 19 ls []) := by
  obtain ⟨hx, hb, hml, hown, hts, hN, hK, hD, hA⟩ := id C
  have hf : (some ((-1 : Int32), t)) = some (r, u) := hf
  refine lv_iconst (v := (-1)) hx hb dX11_way_19 (by decide) ?_
  obtain ⟨e_20, e2_20⟩ := fb_e hf
  subst e_20; subst e2_20
  exact hr trivial _ _ _ _ hP hS dX11_way_20
set_option maxRecDepth 20000 in
theorem w_M_X11_way__0_231 {p : Program} {l : Launch} {e : Env} {s : State} {m : MethodId} {args : Array Value} {below : List Frame} {meth : Method} {c : Code} {A : Nat → Prop} {Q : State → Prop} {D : va_G} {ca : Nat → ClassId} {a : Nat → Nat} {u : fw_S} {r : Int32}  (C : CX (WM ca a) D (tyv ca) p s m args c A prog_13_method_63_code 9 RX11) (hr : True → RX (WM ca a) D p l e rm_M_X11_way__0 s m args below meth c A prog_13_method_63_code Q .ireturn [.int r] u) {t : fw_S} {z0 : Int32} {H : Heap} {locs : List Loc} {ls : Array Slot} (hf : b_M_X11_way__0_231  t z0 = some (r, u)) (hP : va_P D classes (WM ca a t) H) (hS : va_S A s.heap H locs) (hl : lv_has ls 9 []) : W p l e rm_M_X11_way__0 s m args below meth c H locs 0 0 Q (F0 m 231 ls [.int z0]) := by
  obtain ⟨hx, hb, hml, hown, hts, hN, hK, hD, hA⟩ := id C
  have hf : (some (z0, t)) = some (r, u) := hf
  obtain ⟨e_231, e2_231⟩ := fb_e hf
  subst e_231; subst e2_231
  exact hr trivial _ _ _ _ hP hS dX11_way_231
set_option maxRecDepth 20000 in
theorem w_M_X11_way__0_229 {p : Program} {l : Launch} {e : Env} {s : State} {m : MethodId} {args : Array Value} {below : List Frame} {meth : Method} {c : Code} {A : Nat → Prop} {Q : State → Prop} {D : va_G} {ca : Nat → ClassId} {a : Nat → Nat} {u : fw_S} {r : Int32}  (C : CX (WM ca a) D (tyv ca) p s m args c A prog_13_method_63_code 9 RX11) (hr : True → RX (WM ca a) D p l e rm_M_X11_way__0 s m args below meth c A prog_13_method_63_code Q .ireturn [.int r] u) {t : fw_S} {x7 : Int32} {H : Heap} {locs : List Loc} {ls : Array Slot} (hf : b_M_X11_way__0_229  t x7 = some (r, u)) (hP : va_P D classes (WM ca a t) H) (hS : va_S A s.heap H locs) (hl : lv_has ls 9 [(7, .int x7)]) : W p l e rm_M_X11_way__0 s m args below meth c H locs 0 0 Q (F0 m 229 ls []) := by
  obtain ⟨hx, hb, hml, hown, hts, hN, hK, hD, hA⟩ := id C
  have hf : (b_M_X11_way__0_231 t x7) = some (r, u) := hf
  refine lv_iload hx hb dX11_way_229 (lv_at hl 0 rfl) ?_
  exact w_M_X11_way__0_231 C hr hf hP hS (lv_sub hl [] rfl)
set_option maxRecDepth 20000 in
theorem w_M_X11_way__0_224 {p : Program} {l : Launch} {e : Env} {s : State} {m : MethodId} {args : Array Value} {below : List Frame} {meth : Method} {c : Code} {A : Nat → Prop} {Q : State → Prop} {D : va_G} {ca : Nat → ClassId} {a : Nat → Nat} {u : fw_S} {r : Int32}  (C : CX (WM ca a) D (tyv ca) p s m args c A prog_13_method_63_code 9 RX11) (hr : True → RX (WM ca a) D p l e rm_M_X11_way__0 s m args below meth c A prog_13_method_63_code Q .ireturn [.int r] u) {t : fw_S} {x5 : Int32} {H : Heap} {locs : List Loc} {ls : Array Slot} (hf : b_M_X11_way__0_224  t x5 = some (r, u)) (hP : va_P D classes (WM ca a t) H) (hS : va_S A s.heap H locs) (hl : lv_has ls 9 [(5, .int x5)]) : W p l e rm_M_X11_way__0 s m args below meth c H locs 0 0 Q (F0 m 224 ls []) := by
  obtain ⟨hx, hb, hml, hown, hts, hN, hK, hD, hA⟩ := id C
  have hf : (b_M_X11_way__0_231 t x5) = some (r, u) := hf
  refine lv_iload hx hb dX11_way_224 (lv_at hl 0 rfl) ?_
  refine lv_goto (tgt := 231) hx hb dX11_way_226 (by decide) ?_
  exact w_M_X11_way__0_231 C hr hf hP hS (lv_sub hl [] rfl)
set_option maxRecDepth 20000 in
theorem w_M_X11_way__0_219 {p : Program} {l : Launch} {e : Env} {s : State} {m : MethodId} {args : Array Value} {below : List Frame} {meth : Method} {c : Code} {A : Nat → Prop} {Q : State → Prop} {D : va_G} {ca : Nat → ClassId} {a : Nat → Nat} {u : fw_S} {r : Int32}  (C : CX (WM ca a) D (tyv ca) p s m args c A prog_13_method_63_code 9 RX11) (hr : True → RX (WM ca a) D p l e rm_M_X11_way__0 s m args below meth c A prog_13_method_63_code Q .ireturn [.int r] u) {t : fw_S} {x3 : Int32} {x5 : Int32} {x7 : Int32} {H : Heap} {locs : List Loc} {ls : Array Slot} (hf : b_M_X11_way__0_219  t x3 x5 x7 = some (r, u)) (hP : va_P D classes (WM ca a t) H) (hS : va_S A s.heap H locs) (hl : lv_has ls 9 [(3, .int x3), (5, .int x5), (7, .int x7)]) : W p l e rm_M_X11_way__0 s m args below meth c H locs 0 0 Q (F0 m 219 ls []) := by
  obtain ⟨hx, hb, hml, hown, hts, hN, hK, hD, hA⟩ := id C
  have hf : (if x3 = ((-1 : Int32)) then b_M_X11_way__0_224 t x5 else b_M_X11_way__0_229 t x7) = some (r, u) := hf
  refine lv_iload_n hx hb dX11_way_219 rfl (lv_at hl 0 rfl) ?_
  refine lv_iconst (v := (-1)) hx hb dX11_way_220 (by decide) ?_
  refine lv_icmp_ne (tgt := 229) hx hb dX11_way_221 (by decide) (fun h_221 => ?_) (fun h_221 => ?_)
  · have hf := fb_f h_221 hf
    exact w_M_X11_way__0_229 C hr hf hP hS (lv_sub hl [2] rfl)
  · have hf := fb_t h_221 hf
    exact w_M_X11_way__0_224 C hr hf hP hS (lv_sub hl [1] rfl)
set_option maxRecDepth 20000 in
theorem w_M_X11_way__0_212 {p : Program} {l : Launch} {e : Env} {s : State} {m : MethodId} {args : Array Value} {below : List Frame} {meth : Method} {c : Code} {A : Nat → Prop} {Q : State → Prop} {D : va_G} {ca : Nat → ClassId} {a : Nat → Nat} {u : fw_S} {r : Int32} {k188 : fw_S → Int32 → Int32 → Int32 → Int32 → Int32 → Option (Int32 × fw_S)} (C : CX (WM ca a) D (tyv ca) p s m args c A prog_13_method_63_code 9 RX11) (hr : True → RX (WM ca a) D p l e rm_M_X11_way__0 s m args below meth c A prog_13_method_63_code Q .ireturn [.int r] u) (hk188 : ∀ (t : fw_S) (x2 : Int32) (x3 : Int32) (x5 : Int32) (x6 : Int32) (x7 : Int32) (H : Heap) (locs : List Loc) (ls : Array Slot), k188 t x2 x3 x5 x6 x7 = some (r, u) → va_P D classes (WM ca a t) H → va_S A s.heap H locs → lv_has ls 9 [(0, .ref (a 0)), (2, .int x2), (3, .int x3), (5, .int x5), (6, .int x6), (7, .int x7)] → W p l e rm_M_X11_way__0 s m args below meth c H locs 0 0 Q (F0 m 188 ls [])) {t : fw_S} {x2 : Int32} {x3 : Int32} {x5 : Int32} {x6 : Int32} {H : Heap} {locs : List Loc} {ls : Array Slot} (hf : b_M_X11_way__0_212 k188 t x2 x3 x5 x6 = some (r, u)) (hP : va_P D classes (WM ca a t) H) (hS : va_S A s.heap H locs) (hl : lv_has ls 9 [(0, .ref (a 0)), (2, .int x2), (3, .int x3), (5, .int x5), (6, .int x6)]) : W p l e rm_M_X11_way__0 s m args below meth c H locs 0 0 Q (F0 m 212 ls []) := by
  obtain ⟨hx, hb, hml, hown, hts, hN, hK, hD, hA⟩ := id C
  have hf : (k188 t x2 x3 x5 x6 x6) = some (r, u) := hf
  refine lv_iload hx hb dX11_way_212 (lv_at hl 4 rfl) ?_
  refine lv_istore (lv' := [(7, .int x6), (0, .ref (a 0)), (2, .int x2), (3, .int x3), (5, .int x5), (6, .int x6)]) hx hb dX11_way_214 hl (by decide) rfl (fun ls hl => ?_)
  refine lv_goto (tgt := 188) hx hb dX11_way_216 (by decide) ?_
  exact hk188 t x2 x3 x5 x6 x6 _ _ _ hf hP hS (lv_sub hl [1, 2, 3, 4, 5, 0] rfl)
set_option maxRecDepth 20000 in
theorem w_M_X11_way__0_194 {p : Program} {l : Launch} {e : Env} {s : State} {m : MethodId} {args : Array Value} {below : List Frame} {meth : Method} {c : Code} {A : Nat → Prop} {Q : State → Prop} {D : va_G} {ca : Nat → ClassId} {a : Nat → Nat} {u : fw_S} {r : Int32} {k188 : fw_S → Int32 → Int32 → Int32 → Int32 → Int32 → Option (Int32 × fw_S)} (C : CX (WM ca a) D (tyv ca) p s m args c A prog_13_method_63_code 9 RX11) (hr : True → RX (WM ca a) D p l e rm_M_X11_way__0 s m args below meth c A prog_13_method_63_code Q .ireturn [.int r] u) (hk188 : ∀ (t : fw_S) (x2 : Int32) (x3 : Int32) (x5 : Int32) (x6 : Int32) (x7 : Int32) (H : Heap) (locs : List Loc) (ls : Array Slot), k188 t x2 x3 x5 x6 x7 = some (r, u) → va_P D classes (WM ca a t) H → va_S A s.heap H locs → lv_has ls 9 [(0, .ref (a 0)), (2, .int x2), (3, .int x3), (5, .int x5), (6, .int x6), (7, .int x7)] → W p l e rm_M_X11_way__0 s m args below meth c H locs 0 0 Q (F0 m 188 ls [])) {t : fw_S} {x2 : Int32} {x3 : Int32} {x5 : Int32} {x6 : Int32} {x7 : Int32} {H : Heap} {locs : List Loc} {ls : Array Slot} (hf : b_M_X11_way__0_194 k188 t x2 x3 x5 x6 x7 = some (r, u)) (hP : va_P D classes (WM ca a t) H) (hS : va_S A s.heap H locs) (hl : lv_has ls 9 [(0, .ref (a 0)), (2, .int x2), (3, .int x3), (5, .int x5), (6, .int x6), (7, .int x7)]) : W p l e rm_M_X11_way__0 s m args below meth c H locs 0 0 Q (F0 m 194 ls []) := by
  obtain ⟨hx, hb, hml, hown, hts, hN, hK, hD, hA⟩ := id C
  have hf : (fb_g (¬ (x6 < 0 ∨ 32 ≤ x6.toNatClampNeg)) (if (x5 + 1) = x3 then b_M_X11_way__0_212 k188 t x2 x3 (x5 + 1) (st_F t 42 x6.toNatClampNeg) else k188 t x2 x3 (x5 + 1) (st_F t 42 x6.toNatClampNeg) x7)) = some (r, u) := hf
  refine lv_aload_n hx hb dX11_way_194 rfl (lv_at hl 0 rfl) ?_
  refine va_get (D := D) (ci := 11) (v := .ref (a 52)) (C := RX11) (T := TX11) (N := 76) hx hb hts inX11 hown hK hP 0 (heM_0 ca a t) rfl 72 (by decide) (hts _ kw_1264) (fun _ h9 => h9) rfl dX11_way_195 ?_
  refine lv_iload hx hb dX11_way_198 (lv_at hl 4 rfl) ?_
  obtain ⟨h_200, hf⟩ := fb_if hf
  refine va_iald hx hb hK hP 52 0 (haM_52 ca a t) rfl h_200 dX11_way_200 ?_
  refine lv_istore (lv' := [(6, .int (st_F t 42 x6.toNatClampNeg)), (0, .ref (a 0)), (2, .int x2), (3, .int x3), (5, .int x5), (7, .int x7)]) hx hb dX11_way_201 hl (by decide) rfl (fun ls hl => ?_)
  refine lv_iinc (v := x5 + 1) (lv' := [(5, .int (x5 + 1)), (6, .int (st_F t 42 x6.toNatClampNeg)), (0, .ref (a 0)), (2, .int x2), (3, .int x3), (7, .int x7)]) hx hb dX11_way_203 hl (k := 4) rfl rfl (by decide) rfl (fun ls hl => ?_)
  refine lv_iload hx hb dX11_way_206 (lv_at hl 0 rfl) ?_
  refine lv_iload_n hx hb dX11_way_208 rfl (lv_at hl 4 rfl) ?_
  refine lv_icmp_ne (tgt := 188) hx hb dX11_way_209 (by decide) (fun h_209 => ?_) (fun h_209 => ?_)
  · have hf := fb_f h_209 hf
    exact hk188 t x2 x3 (x5 + 1) (st_F t 42 x6.toNatClampNeg) x7 _ _ _ hf hP hS (lv_sub hl [2, 3, 4, 0, 1, 5] rfl)
  · have hf := fb_t h_209 hf
    exact w_M_X11_way__0_212 C hr hk188 hf hP hS (lv_sub hl [2, 3, 4, 0, 1] rfl)
set_option maxRecDepth 20000 in
theorem w_M_X11_way__0_188 {p : Program} {l : Launch} {e : Env} {s : State} {m : MethodId} {args : Array Value} {below : List Frame} {meth : Method} {c : Code} {A : Nat → Prop} {Q : State → Prop} {D : va_G} {ca : Nat → ClassId} {a : Nat → Nat} {u : fw_S} {r : Int32}  (C : CX (WM ca a) D (tyv ca) p s m args c A prog_13_method_63_code 9 RX11) (hr : True → RX (WM ca a) D p l e rm_M_X11_way__0 s m args below meth c A prog_13_method_63_code Q .ireturn [.int r] u) : ∀ (n : Nat) (t : fw_S) (x2 : Int32) (x3 : Int32) (x5 : Int32) (x6 : Int32) (x7 : Int32) (H : Heap) (locs : List Loc) (ls : Array Slot), b_M_X11_way__0_188  n t x2 x3 x5 x6 x7 = some (r, u) → va_P D classes (WM ca a t) H → va_S A s.heap H locs → lv_has ls 9 [(0, .ref (a 0)), (2, .int x2), (3, .int x3), (5, .int x5), (6, .int x6), (7, .int x7)] → W p l e rm_M_X11_way__0 s m args below meth c H locs 0 0 Q (F0 m 188 ls []) := by
  obtain ⟨hx, hb, hml, hown, hts, hN, hK, hD, hA⟩ := id C
  intro n
  induction n with
  | zero => intro t x2 x3 x5 x6 x7 H locs ls hf; cases hf
  | succ n hk188 =>
    intro t x2 x3 x5 x6 x7 H locs ls hf hP hS hl
    have hf : (if x6 = x2 then b_M_X11_way__0_219 t x3 x5 x7 else b_M_X11_way__0_194 (b_M_X11_way__0_188 n) t x2 x3 x5 x6 x7) = some (r, u) := hf
    refine lv_iload hx hb dX11_way_188 (lv_at hl 4 rfl) ?_
    refine lv_iload_n hx hb dX11_way_190 rfl (lv_at hl 1 rfl) ?_
    refine lv_icmp_eq (tgt := 219) hx hb dX11_way_191 (by decide) (fun h_191 => ?_) (fun h_191 => ?_)
    · have hf := fb_t h_191 hf
      exact w_M_X11_way__0_219 C hr hf hP hS (lv_sub hl [2, 3, 5] rfl)
    · have hf := fb_f h_191 hf
      exact w_M_X11_way__0_194 C hr hk188 hf hP hS (lv_sub hl [0, 1, 2, 3, 4, 5] rfl)
set_option maxRecDepth 20000 in
theorem w_M_X11_way__0_186 {p : Program} {l : Launch} {e : Env} {s : State} {m : MethodId} {args : Array Value} {below : List Frame} {meth : Method} {c : Code} {A : Nat → Prop} {Q : State → Prop} {D : va_G} {ca : Nat → ClassId} {a : Nat → Nat} {u : fw_S} {r : Int32}  (C : CX (WM ca a) D (tyv ca) p s m args c A prog_13_method_63_code 9 RX11) (hr : True → RX (WM ca a) D p l e rm_M_X11_way__0 s m args below meth c A prog_13_method_63_code Q .ireturn [.int r] u) {t : fw_S} {x2 : Int32} {x3 : Int32} {x5 : Int32} {x6 : Int32} {z0 : Int32} {H : Heap} {locs : List Loc} {ls : Array Slot} (hf : b_M_X11_way__0_186  t x2 x3 x5 x6 z0 = some (r, u)) (hP : va_P D classes (WM ca a t) H) (hS : va_S A s.heap H locs) (hl : lv_has ls 9 [(0, .ref (a 0)), (2, .int x2), (3, .int x3), (5, .int x5), (6, .int x6)]) : W p l e rm_M_X11_way__0 s m args below meth c H locs 0 0 Q (F0 m 186 ls [.int z0]) := by
  obtain ⟨hx, hb, hml, hown, hts, hN, hK, hD, hA⟩ := id C
  have hf : (b_M_X11_way__0_188 3000 t x2 x3 x5 x6 z0) = some (r, u) := hf
  refine lv_istore (lv' := [(7, .int z0), (0, .ref (a 0)), (2, .int x2), (3, .int x3), (5, .int x5), (6, .int x6)]) hx hb dX11_way_186 hl (by decide) rfl (fun ls hl => ?_)
  exact w_M_X11_way__0_188 C hr 3000 t x2 x3 x5 x6 z0 _ _ _ hf hP hS (lv_sub hl [1, 2, 3, 4, 5, 0] rfl)
set_option maxRecDepth 20000 in
theorem w_M_X11_way__0_185 {p : Program} {l : Launch} {e : Env} {s : State} {m : MethodId} {args : Array Value} {below : List Frame} {meth : Method} {c : Code} {A : Nat → Prop} {Q : State → Prop} {D : va_G} {ca : Nat → ClassId} {a : Nat → Nat} {u : fw_S} {r : Int32}  (C : CX (WM ca a) D (tyv ca) p s m args c A prog_13_method_63_code 9 RX11) (hr : True → RX (WM ca a) D p l e rm_M_X11_way__0 s m args below meth c A prog_13_method_63_code Q .ireturn [.int r] u) {t : fw_S} {x2 : Int32} {x3 : Int32} {x5 : Int32} {x6 : Int32} {H : Heap} {locs : List Loc} {ls : Array Slot} (hf : b_M_X11_way__0_185  t x2 x3 x5 x6 = some (r, u)) (hP : va_P D classes (WM ca a t) H) (hS : va_S A s.heap H locs) (hl : lv_has ls 9 [(0, .ref (a 0)), (2, .int x2), (3, .int x3), (5, .int x5), (6, .int x6)]) : W p l e rm_M_X11_way__0 s m args below meth c H locs 0 0 Q (F0 m 185 ls []) := by
  obtain ⟨hx, hb, hml, hown, hts, hN, hK, hD, hA⟩ := id C
  have hf : (b_M_X11_way__0_186 t x2 x3 x5 x6 ((-1 : Int32))) = some (r, u) := hf
  refine lv_iconst (v := (-1)) hx hb dX11_way_185 (by decide) ?_
  exact w_M_X11_way__0_186 C hr hf hP hS (lv_sub hl [0, 1, 2, 3, 4] rfl)
set_option maxRecDepth 20000 in
theorem w_M_X11_way__0_181 {p : Program} {l : Launch} {e : Env} {s : State} {m : MethodId} {args : Array Value} {below : List Frame} {meth : Method} {c : Code} {A : Nat → Prop} {Q : State → Prop} {D : va_G} {ca : Nat → ClassId} {a : Nat → Nat} {u : fw_S} {r : Int32}  (C : CX (WM ca a) D (tyv ca) p s m args c A prog_13_method_63_code 9 RX11) (hr : True → RX (WM ca a) D p l e rm_M_X11_way__0 s m args below meth c A prog_13_method_63_code Q .ireturn [.int r] u) {t : fw_S} {x1 : Int32} {x2 : Int32} {x3 : Int32} {x5 : Int32} {x6 : Int32} {H : Heap} {locs : List Loc} {ls : Array Slot} (hf : b_M_X11_way__0_181  t x1 x2 x3 x5 x6 = some (r, u)) (hP : va_P D classes (WM ca a t) H) (hS : va_S A s.heap H locs) (hl : lv_has ls 9 [(0, .ref (a 0)), (1, .int x1), (2, .int x2), (3, .int x3), (5, .int x5), (6, .int x6)]) : W p l e rm_M_X11_way__0 s m args below meth c H locs 0 0 Q (F0 m 181 ls []) := by
  obtain ⟨hx, hb, hml, hown, hts, hN, hK, hD, hA⟩ := id C
  have hf : (b_M_X11_way__0_186 t x2 x3 x5 x6 x1) = some (r, u) := hf
  refine lv_iload_n hx hb dX11_way_181 rfl (lv_at hl 1 rfl) ?_
  refine lv_goto (tgt := 186) hx hb dX11_way_182 (by decide) ?_
  exact w_M_X11_way__0_186 C hr hf hP hS (lv_sub hl [0, 2, 3, 4, 5] rfl)
set_option maxRecDepth 20000 in
theorem w_M_X11_way__0_171 {p : Program} {l : Launch} {e : Env} {s : State} {m : MethodId} {args : Array Value} {below : List Frame} {meth : Method} {c : Code} {A : Nat → Prop} {Q : State → Prop} {D : va_G} {ca : Nat → ClassId} {a : Nat → Nat} {u : fw_S} {r : Int32}  (C : CX (WM ca a) D (tyv ca) p s m args c A prog_13_method_63_code 9 RX11) (hr : True → RX (WM ca a) D p l e rm_M_X11_way__0 s m args below meth c A prog_13_method_63_code Q .ireturn [.int r] u) {t : fw_S} {x1 : Int32} {x2 : Int32} {x3 : Int32} {H : Heap} {locs : List Loc} {ls : Array Slot} (hf : b_M_X11_way__0_171  t x1 x2 x3 = some (r, u)) (hP : va_P D classes (WM ca a t) H) (hS : va_S A s.heap H locs) (hl : lv_has ls 9 [(0, .ref (a 0)), (1, .int x1), (2, .int x2), (3, .int x3)]) : W p l e rm_M_X11_way__0 s m args below meth c H locs 0 0 Q (F0 m 171 ls []) := by
  obtain ⟨hx, hb, hml, hown, hts, hN, hK, hD, hA⟩ := id C
  have hf : (if x3 = 0 then b_M_X11_way__0_181 t x1 x2 x3 ((0 : Int32)) x1 else b_M_X11_way__0_185 t x2 x3 ((0 : Int32)) x1) = some (r, u) := hf
  refine lv_iconst (v := 0) hx hb dX11_way_171 (by decide) ?_
  refine lv_istore (lv' := [(5, .int ((0 : Int32))), (0, .ref (a 0)), (1, .int x1), (2, .int x2), (3, .int x3)]) hx hb dX11_way_172 hl (by decide) rfl (fun ls hl => ?_)
  refine lv_iload_n hx hb dX11_way_174 rfl (lv_at hl 2 rfl) ?_
  refine lv_istore (lv' := [(6, .int x1), (5, .int ((0 : Int32))), (0, .ref (a 0)), (1, .int x1), (2, .int x2), (3, .int x3)]) hx hb dX11_way_175 hl (by decide) rfl (fun ls hl => ?_)
  refine lv_iload_n hx hb dX11_way_177 rfl (lv_at hl 5 rfl) ?_
  refine lv_if_ne (tgt := 185) hx hb dX11_way_178 (by decide) (fun h_178 => ?_) (fun h_178 => ?_)
  · have hf := fb_f h_178 hf
    exact w_M_X11_way__0_185 C hr hf hP hS (lv_sub hl [2, 4, 5, 1, 0] rfl)
  · have hf := fb_t h_178 hf
    exact w_M_X11_way__0_181 C hr hf hP hS (lv_sub hl [2, 3, 4, 5, 1, 0] rfl)
set_option maxRecDepth 20000 in
theorem w_M_X11_way__0_168 {p : Program} {l : Launch} {e : Env} {s : State} {m : MethodId} {args : Array Value} {below : List Frame} {meth : Method} {c : Code} {A : Nat → Prop} {Q : State → Prop} {D : va_G} {ca : Nat → ClassId} {a : Nat → Nat} {u : fw_S} {r : Int32}  (C : CX (WM ca a) D (tyv ca) p s m args c A prog_13_method_63_code 9 RX11) (hr : True → RX (WM ca a) D p l e rm_M_X11_way__0 s m args below meth c A prog_13_method_63_code Q .ireturn [.int r] u) {t : fw_S}  {H : Heap} {locs : List Loc} {ls : Array Slot} (hf : b_M_X11_way__0_168  t  = some (r, u)) (hP : va_P D classes (WM ca a t) H) (hS : va_S A s.heap H locs) (hl : lv_has ls 9 []) : W p l e rm_M_X11_way__0 s m args below meth c H locs 0 0 Q (F0 m 168 ls []) := by
  obtain ⟨hx, hb, hml, hown, hts, hN, hK, hD, hA⟩ := id C
  have hf : (some ((-5 : Int32), t)) = some (r, u) := hf
  refine lv_bipush (v := (-5)) hx hb dX11_way_168 (by decide) ?_
  obtain ⟨e_170, e2_170⟩ := fb_e hf
  subst e_170; subst e2_170
  exact hr trivial _ _ _ _ hP hS dX11_way_170
set_option maxRecDepth 20000 in
theorem w_M_X11_way__0_158 {p : Program} {l : Launch} {e : Env} {s : State} {m : MethodId} {args : Array Value} {below : List Frame} {meth : Method} {c : Code} {A : Nat → Prop} {Q : State → Prop} {D : va_G} {ca : Nat → ClassId} {a : Nat → Nat} {u : fw_S} {r : Int32}  (C : CX (WM ca a) D (tyv ca) p s m args c A prog_13_method_63_code 9 RX11) (hr : True → RX (WM ca a) D p l e rm_M_X11_way__0 s m args below meth c A prog_13_method_63_code Q .ireturn [.int r] u) {t : fw_S} {x1 : Int32} {x2 : Int32} {x3 : Int32} {H : Heap} {locs : List Loc} {ls : Array Slot} (hf : b_M_X11_way__0_158  t x1 x2 x3 = some (r, u)) (hP : va_P D classes (WM ca a t) H) (hS : va_S A s.heap H locs) (hl : lv_has ls 9 [(0, .ref (a 0)), (1, .int x1), (2, .int x2), (3, .int x3)]) : W p l e rm_M_X11_way__0 s m args below meth c H locs 0 0 Q (F0 m 158 ls []) := by
  obtain ⟨hx, hb, hml, hown, hts, hN, hK, hD, hA⟩ := id C
  have hf : (fb_g (¬ (x1 < 0 ∨ 32 ≤ x1.toNatClampNeg)) (if (st_F t 42 x1.toNatClampNeg) = ((-1 : Int32)) then b_M_X11_way__0_168 t else b_M_X11_way__0_171 t x1 x2 x3)) = some (r, u) := hf
  refine lv_aload_n hx hb dX11_way_158 rfl (lv_at hl 0 rfl) ?_
  refine va_get (D := D) (ci := 11) (v := .ref (a 52)) (C := RX11) (T := TX11) (N := 76) hx hb hts inX11 hown hK hP 0 (heM_0 ca a t) rfl 72 (by decide) (hts _ kw_1264) (fun _ h9 => h9) rfl dX11_way_159 ?_
  refine lv_iload_n hx hb dX11_way_162 rfl (lv_at hl 1 rfl) ?_
  obtain ⟨h_163, hf⟩ := fb_if hf
  refine va_iald hx hb hK hP 52 0 (haM_52 ca a t) rfl h_163 dX11_way_163 ?_
  refine lv_iconst (v := (-1)) hx hb dX11_way_164 (by decide) ?_
  refine lv_icmp_ne (tgt := 171) hx hb dX11_way_165 (by decide) (fun h_165 => ?_) (fun h_165 => ?_)
  · have hf := fb_f h_165 hf
    exact w_M_X11_way__0_171 C hr hf hP hS (lv_sub hl [0, 1, 2, 3] rfl)
  · have hf := fb_t h_165 hf
    exact w_M_X11_way__0_168 C hr hf hP hS (lv_sub hl [] rfl)
set_option maxRecDepth 20000 in
theorem w_M_X11_way__0_152 {p : Program} {l : Launch} {e : Env} {s : State} {m : MethodId} {args : Array Value} {below : List Frame} {meth : Method} {c : Code} {A : Nat → Prop} {Q : State → Prop} {D : va_G} {ca : Nat → ClassId} {a : Nat → Nat} {u : fw_S} {r : Int32} {k65 : fw_S → Int32 → Int32 → Int32 → Int32 → Int32 → Option (Int32 × fw_S)} (C : CX (WM ca a) D (tyv ca) p s m args c A prog_13_method_63_code 9 RX11) (hr : True → RX (WM ca a) D p l e rm_M_X11_way__0 s m args below meth c A prog_13_method_63_code Q .ireturn [.int r] u) (hk65 : ∀ (t : fw_S) (x1 : Int32) (x2 : Int32) (x3 : Int32) (x4 : Int32) (x5 : Int32) (H : Heap) (locs : List Loc) (ls : Array Slot), k65 t x1 x2 x3 x4 x5 = some (r, u) → va_P D classes (WM ca a t) H → va_S A s.heap H locs → lv_has ls 9 [(0, .ref (a 0)), (1, .int x1), (2, .int x2), (3, .int x3), (4, .int x4), (5, .int x5)] → W p l e rm_M_X11_way__0 s m args below meth c H locs 0 0 Q (F0 m 65 ls [])) {t : fw_S} {x1 : Int32} {x2 : Int32} {x3 : Int32} {x4 : Int32} {x5 : Int32} {H : Heap} {locs : List Loc} {ls : Array Slot} (hf : b_M_X11_way__0_152 k65 t x1 x2 x3 x4 x5 = some (r, u)) (hP : va_P D classes (WM ca a t) H) (hS : va_S A s.heap H locs) (hl : lv_has ls 9 [(0, .ref (a 0)), (1, .int x1), (2, .int x2), (3, .int x3), (4, .int x4), (5, .int x5)]) : W p l e rm_M_X11_way__0 s m args below meth c H locs 0 0 Q (F0 m 152 ls []) := by
  obtain ⟨hx, hb, hml, hown, hts, hN, hK, hD, hA⟩ := id C
  have hf : (k65 t x1 x2 x3 x4 (x5 + 1)) = some (r, u) := hf
  refine lv_iinc (v := x5 + 1) (lv' := [(5, .int (x5 + 1)), (0, .ref (a 0)), (1, .int x1), (2, .int x2), (3, .int x3), (4, .int x4)]) hx hb dX11_way_152 hl (k := 5) rfl rfl (by decide) rfl (fun ls hl => ?_)
  refine lv_goto (tgt := 65) hx hb dX11_way_155 (by decide) ?_
  exact hk65 t x1 x2 x3 x4 (x5 + 1) _ _ _ hf hP hS (lv_sub hl [1, 2, 3, 4, 5, 0] rfl)
set_option maxRecDepth 20000 in
theorem w_M_X11_way__0_146 {p : Program} {l : Launch} {e : Env} {s : State} {m : MethodId} {args : Array Value} {below : List Frame} {meth : Method} {c : Code} {A : Nat → Prop} {Q : State → Prop} {D : va_G} {ca : Nat → ClassId} {a : Nat → Nat} {u : fw_S} {r : Int32} {k65 : fw_S → Int32 → Int32 → Int32 → Int32 → Int32 → Option (Int32 × fw_S)} {k84 : fw_S → Int32 → Int32 → Int32 → Int32 → Int32 → Int32 → Int32 → Option (Int32 × fw_S)} (C : CX (WM ca a) D (tyv ca) p s m args c A prog_13_method_63_code 9 RX11) (hr : True → RX (WM ca a) D p l e rm_M_X11_way__0 s m args below meth c A prog_13_method_63_code Q .ireturn [.int r] u) (hk65 : ∀ (t : fw_S) (x1 : Int32) (x2 : Int32) (x3 : Int32) (x4 : Int32) (x5 : Int32) (H : Heap) (locs : List Loc) (ls : Array Slot), k65 t x1 x2 x3 x4 x5 = some (r, u) → va_P D classes (WM ca a t) H → va_S A s.heap H locs → lv_has ls 9 [(0, .ref (a 0)), (1, .int x1), (2, .int x2), (3, .int x3), (4, .int x4), (5, .int x5)] → W p l e rm_M_X11_way__0 s m args below meth c H locs 0 0 Q (F0 m 65 ls [])) (hk84 : ∀ (t : fw_S) (x1 : Int32) (x2 : Int32) (x3 : Int32) (x4 : Int32) (x5 : Int32) (x6 : Int32) (x7 : Int32) (H : Heap) (locs : List Loc) (ls : Array Slot), k84 t x1 x2 x3 x4 x5 x6 x7 = some (r, u) → va_P D classes (WM ca a t) H → va_S A s.heap H locs → lv_has ls 9 [(0, .ref (a 0)), (1, .int x1), (2, .int x2), (3, .int x3), (4, .int x4), (5, .int x5), (6, .int x6), (7, .int x7)] → W p l e rm_M_X11_way__0 s m args below meth c H locs 0 0 Q (F0 m 84 ls [])) {t : fw_S} {x1 : Int32} {x2 : Int32} {x3 : Int32} {x4 : Int32} {x5 : Int32} {x6 : Int32} {x7 : Int32} {H : Heap} {locs : List Loc} {ls : Array Slot} (hf : b_M_X11_way__0_146 k65 k84 t x1 x2 x3 x4 x5 x6 x7 = some (r, u)) (hP : va_P D classes (WM ca a t) H) (hS : va_S A s.heap H locs) (hl : lv_has ls 9 [(0, .ref (a 0)), (1, .int x1), (2, .int x2), (3, .int x3), (4, .int x4), (5, .int x5), (6, .int x6), (7, .int x7)]) : W p l e rm_M_X11_way__0 s m args below meth c H locs 0 0 Q (F0 m 146 ls []) := by
  obtain ⟨hx, hb, hml, hown, hts, hN, hK, hD, hA⟩ := id C
  have hf : (k84 t x1 x2 x3 x4 x5 x6 (x7 + 1)) = some (r, u) := hf
  refine lv_iinc (v := x7 + 1) (lv' := [(7, .int (x7 + 1)), (0, .ref (a 0)), (1, .int x1), (2, .int x2), (3, .int x3), (4, .int x4), (5, .int x5), (6, .int x6)]) hx hb dX11_way_146 hl (k := 7) rfl rfl (by decide) rfl (fun ls hl => ?_)
  refine lv_goto (tgt := 84) hx hb dX11_way_149 (by decide) ?_
  exact hk84 t x1 x2 x3 x4 x5 x6 (x7 + 1) _ _ _ hf hP hS (lv_sub hl [1, 2, 3, 4, 5, 6, 7, 0] rfl)
set_option maxRecDepth 20000 in
theorem w_M_X11_way__0_125 {p : Program} {l : Launch} {e : Env} {s : State} {m : MethodId} {args : Array Value} {below : List Frame} {meth : Method} {c : Code} {A : Nat → Prop} {Q : State → Prop} {D : va_G} {ca : Nat → ClassId} {a : Nat → Nat} {u : fw_S} {r : Int32} {k65 : fw_S → Int32 → Int32 → Int32 → Int32 → Int32 → Option (Int32 × fw_S)} {k84 : fw_S → Int32 → Int32 → Int32 → Int32 → Int32 → Int32 → Int32 → Option (Int32 × fw_S)} (C : CX (WM ca a) D (tyv ca) p s m args c A prog_13_method_63_code 9 RX11) (hr : True → RX (WM ca a) D p l e rm_M_X11_way__0 s m args below meth c A prog_13_method_63_code Q .ireturn [.int r] u) (hk65 : ∀ (t : fw_S) (x1 : Int32) (x2 : Int32) (x3 : Int32) (x4 : Int32) (x5 : Int32) (H : Heap) (locs : List Loc) (ls : Array Slot), k65 t x1 x2 x3 x4 x5 = some (r, u) → va_P D classes (WM ca a t) H → va_S A s.heap H locs → lv_has ls 9 [(0, .ref (a 0)), (1, .int x1), (2, .int x2), (3, .int x3), (4, .int x4), (5, .int x5)] → W p l e rm_M_X11_way__0 s m args below meth c H locs 0 0 Q (F0 m 65 ls [])) (hk84 : ∀ (t : fw_S) (x1 : Int32) (x2 : Int32) (x3 : Int32) (x4 : Int32) (x5 : Int32) (x6 : Int32) (x7 : Int32) (H : Heap) (locs : List Loc) (ls : Array Slot), k84 t x1 x2 x3 x4 x5 x6 x7 = some (r, u) → va_P D classes (WM ca a t) H → va_S A s.heap H locs → lv_has ls 9 [(0, .ref (a 0)), (1, .int x1), (2, .int x2), (3, .int x3), (4, .int x4), (5, .int x5), (6, .int x6), (7, .int x7)] → W p l e rm_M_X11_way__0 s m args below meth c H locs 0 0 Q (F0 m 84 ls [])) {t : fw_S} {x1 : Int32} {x2 : Int32} {x3 : Int32} {x4 : Int32} {x5 : Int32} {x6 : Int32} {x7 : Int32} {x8 : Int32} {H : Heap} {locs : List Loc} {ls : Array Slot} (hf : b_M_X11_way__0_125 k65 k84 t x1 x2 x3 x4 x5 x6 x7 x8 = some (r, u)) (hP : va_P D classes (WM ca a t) H) (hS : va_S A s.heap H locs) (hl : lv_has ls 9 [(0, .ref (a 0)), (1, .int x1), (2, .int x2), (3, .int x3), (4, .int x4), (5, .int x5), (6, .int x6), (7, .int x7), (8, .int x8)]) : W p l e rm_M_X11_way__0 s m args below meth c H locs 0 0 Q (F0 m 125 ls []) := by
  obtain ⟨hx, hb, hml, hown, hts, hN, hK, hD, hA⟩ := id C
  have hf : (fb_g (¬ (x8 < 0 ∨ 32 ≤ x8.toNatClampNeg)) (fb_l (up_F t 42 (upd (st_F t 42) x8.toNatClampNeg x6)) fun t_1 => (fb_g (¬ (x4 < 0 ∨ 32 ≤ x4.toNatClampNeg)) (fb_l (up_F t_1 41 (upd (st_F t_1 41) x4.toNatClampNeg x8)) fun t_2 => (b_M_X11_way__0_146 k65 k84 t_2 x1 x2 x3 (x4 + 1) x5 x6 x7))))) = some (r, u) := hf
  refine lv_aload_n hx hb dX11_way_125 rfl (lv_at hl 0 rfl) ?_
  refine va_get (D := D) (ci := 11) (v := .ref (a 52)) (C := RX11) (T := TX11) (N := 76) hx hb hts inX11 hown hK hP 0 (heM_0 ca a t) rfl 72 (by decide) (hts _ kw_1264) (fun _ h9 => h9) rfl dX11_way_126 ?_
  refine lv_iload hx hb dX11_way_129 (lv_at hl 8 rfl) ?_
  refine lv_iload hx hb dX11_way_131 (lv_at hl 6 rfl) ?_
  obtain ⟨h_133, hf⟩ := fb_if hf
  refine va_iast hx hb hK hP (hD t) hS 52 0 (haM_52 ca a t) rfl h_133 dX11_way_133 (fun H locs hP _ hS => ?_)
  rw [saM_52] at hP
  obtain ⟨t_1, e_133, hf⟩ := fb_ls hf
  rw [← e_133] at hP
  refine lv_aload_n hx hb dX11_way_134 rfl (lv_at hl 0 rfl) ?_
  refine va_get (D := D) (ci := 11) (v := .ref (a 51)) (C := RX11) (T := TX11) (N := 76) hx hb hts inX11 hown hK hP 0 (heM_0 ca a t_1) rfl 71 (by decide) (hts _ kw_1263) (fun _ h9 => h9) rfl dX11_way_135 ?_
  refine lv_iload hx hb dX11_way_138 (lv_at hl 4 rfl) ?_
  refine lv_iload hx hb dX11_way_140 (lv_at hl 8 rfl) ?_
  obtain ⟨h_142, hf⟩ := fb_if hf
  refine va_iast hx hb hK hP (hD t_1) hS 51 0 (haM_51 ca a t_1) rfl h_142 dX11_way_142 (fun H locs hP _ hS => ?_)
  rw [saM_51] at hP
  obtain ⟨t_2, e_142, hf⟩ := fb_ls hf
  rw [← e_142] at hP
  refine lv_iinc (v := x4 + 1) (lv' := [(4, .int (x4 + 1)), (0, .ref (a 0)), (1, .int x1), (2, .int x2), (3, .int x3), (5, .int x5), (6, .int x6), (7, .int x7), (8, .int x8)]) hx hb dX11_way_143 hl (k := 4) rfl rfl (by decide) rfl (fun ls hl => ?_)
  exact w_M_X11_way__0_146 C hr hk65 hk84 hf hP hS (lv_sub hl [1, 2, 3, 4, 0, 5, 6, 7] rfl)
set_option maxRecDepth 20000 in
theorem w_M_X11_way__0_122 {p : Program} {l : Launch} {e : Env} {s : State} {m : MethodId} {args : Array Value} {below : List Frame} {meth : Method} {c : Code} {A : Nat → Prop} {Q : State → Prop} {D : va_G} {ca : Nat → ClassId} {a : Nat → Nat} {u : fw_S} {r : Int32} {k65 : fw_S → Int32 → Int32 → Int32 → Int32 → Int32 → Option (Int32 × fw_S)} {k84 : fw_S → Int32 → Int32 → Int32 → Int32 → Int32 → Int32 → Int32 → Option (Int32 × fw_S)} (C : CX (WM ca a) D (tyv ca) p s m args c A prog_13_method_63_code 9 RX11) (hr : True → RX (WM ca a) D p l e rm_M_X11_way__0 s m args below meth c A prog_13_method_63_code Q .ireturn [.int r] u) (hk65 : ∀ (t : fw_S) (x1 : Int32) (x2 : Int32) (x3 : Int32) (x4 : Int32) (x5 : Int32) (H : Heap) (locs : List Loc) (ls : Array Slot), k65 t x1 x2 x3 x4 x5 = some (r, u) → va_P D classes (WM ca a t) H → va_S A s.heap H locs → lv_has ls 9 [(0, .ref (a 0)), (1, .int x1), (2, .int x2), (3, .int x3), (4, .int x4), (5, .int x5)] → W p l e rm_M_X11_way__0 s m args below meth c H locs 0 0 Q (F0 m 65 ls [])) (hk84 : ∀ (t : fw_S) (x1 : Int32) (x2 : Int32) (x3 : Int32) (x4 : Int32) (x5 : Int32) (x6 : Int32) (x7 : Int32) (H : Heap) (locs : List Loc) (ls : Array Slot), k84 t x1 x2 x3 x4 x5 x6 x7 = some (r, u) → va_P D classes (WM ca a t) H → va_S A s.heap H locs → lv_has ls 9 [(0, .ref (a 0)), (1, .int x1), (2, .int x2), (3, .int x3), (4, .int x4), (5, .int x5), (6, .int x6), (7, .int x7)] → W p l e rm_M_X11_way__0 s m args below meth c H locs 0 0 Q (F0 m 84 ls [])) {t : fw_S} {x1 : Int32} {x2 : Int32} {x3 : Int32} {x4 : Int32} {x5 : Int32} {x6 : Int32} {x7 : Int32} {H : Heap} {locs : List Loc} {ls : Array Slot} (hf : b_M_X11_way__0_122 k65 k84 t x1 x2 x3 x4 x5 x6 x7 = some (r, u)) (hP : va_P D classes (WM ca a t) H) (hS : va_S A s.heap H locs) (hl : lv_has ls 9 [(0, .ref (a 0)), (1, .int x1), (2, .int x2), (3, .int x3), (4, .int x4), (5, .int x5), (6, .int x6), (7, .int x7)]) : W p l e rm_M_X11_way__0 s m args below meth c H locs 0 0 Q (F0 m 122 ls []) := by
  obtain ⟨hx, hb, hml, hown, hts, hN, hK, hD, hA⟩ := id C
  have hf : (b_M_X11_way__0_146 k65 k84 t x1 x2 x3 x4 x5 x6 x7) = some (r, u) := hf
  refine lv_goto (tgt := 146) hx hb dX11_way_122 (by decide) ?_
  exact w_M_X11_way__0_146 C hr hk65 hk84 hf hP hS (lv_sub hl [0, 1, 2, 3, 4, 5, 6, 7] rfl)
set_option maxRecDepth 20000 in
theorem w_M_X11_way__0_96 {p : Program} {l : Launch} {e : Env} {s : State} {m : MethodId} {args : Array Value} {below : List Frame} {meth : Method} {c : Code} {A : Nat → Prop} {Q : State → Prop} {D : va_G} {ca : Nat → ClassId} {a : Nat → Nat} {u : fw_S} {r : Int32} {k65 : fw_S → Int32 → Int32 → Int32 → Int32 → Int32 → Option (Int32 × fw_S)} {k84 : fw_S → Int32 → Int32 → Int32 → Int32 → Int32 → Int32 → Int32 → Option (Int32 × fw_S)} (C : CX (WM ca a) D (tyv ca) p s m args c A prog_13_method_63_code 9 RX11) (hr : True → RX (WM ca a) D p l e rm_M_X11_way__0 s m args below meth c A prog_13_method_63_code Q .ireturn [.int r] u) (hk65 : ∀ (t : fw_S) (x1 : Int32) (x2 : Int32) (x3 : Int32) (x4 : Int32) (x5 : Int32) (H : Heap) (locs : List Loc) (ls : Array Slot), k65 t x1 x2 x3 x4 x5 = some (r, u) → va_P D classes (WM ca a t) H → va_S A s.heap H locs → lv_has ls 9 [(0, .ref (a 0)), (1, .int x1), (2, .int x2), (3, .int x3), (4, .int x4), (5, .int x5)] → W p l e rm_M_X11_way__0 s m args below meth c H locs 0 0 Q (F0 m 65 ls [])) (hk84 : ∀ (t : fw_S) (x1 : Int32) (x2 : Int32) (x3 : Int32) (x4 : Int32) (x5 : Int32) (x6 : Int32) (x7 : Int32) (H : Heap) (locs : List Loc) (ls : Array Slot), k84 t x1 x2 x3 x4 x5 x6 x7 = some (r, u) → va_P D classes (WM ca a t) H → va_S A s.heap H locs → lv_has ls 9 [(0, .ref (a 0)), (1, .int x1), (2, .int x2), (3, .int x3), (4, .int x4), (5, .int x5), (6, .int x6), (7, .int x7)] → W p l e rm_M_X11_way__0 s m args below meth c H locs 0 0 Q (F0 m 84 ls [])) {t : fw_S} {x1 : Int32} {x2 : Int32} {x3 : Int32} {x4 : Int32} {x5 : Int32} {x6 : Int32} {x7 : Int32} {H : Heap} {locs : List Loc} {ls : Array Slot} (hf : b_M_X11_way__0_96 k65 k84 t x1 x2 x3 x4 x5 x6 x7 = some (r, u)) (hP : va_P D classes (WM ca a t) H) (hS : va_S A s.heap H locs) (hl : lv_has ls 9 [(0, .ref (a 0)), (1, .int x1), (2, .int x2), (3, .int x3), (4, .int x4), (5, .int x5), (6, .int x6), (7, .int x7)]) : W p l e rm_M_X11_way__0 s m args below meth c H locs 0 0 Q (F0 m 96 ls []) := by
  obtain ⟨hx, hb, hml, hown, hts, hN, hK, hD, hA⟩ := id C
  have hf : (fb_g (¬ (((((32 : Int32)) * x6) + x7) < 0 ∨ 1024 ≤ ((((32 : Int32)) * x6) + x7).toNatClampNeg)) (fb_g (¬ ((st_F t 6 ((((32 : Int32)) * x6) + x7).toNatClampNeg) < 0 ∨ 32 ≤ (st_F t 6 ((((32 : Int32)) * x6) + x7).toNatClampNeg).toNatClampNeg)) (if (st_F t 42 (st_F t 6 ((((32 : Int32)) * x6) + x7).toNatClampNeg).toNatClampNeg) = ((-1 : Int32)) then b_M_X11_way__0_125 k65 k84 t x1 x2 x3 x4 x5 x6 x7 (st_F t 6 ((((32 : Int32)) * x6) + x7).toNatClampNeg) else b_M_X11_way__0_122 k65 k84 t x1 x2 x3 x4 x5 x6 x7))) = some (r, u) := hf
  refine lv_aload_n hx hb dX11_way_96 rfl (lv_at hl 0 rfl) ?_
  refine va_get (D := D) (ci := 11) (v := .ref (a 8)) (C := RX11) (T := TX11) (N := 76) hx hb hts inX11 hown hK hP 0 (heM_0 ca a t) rfl 7 (by decide) (hts _ kw_1199) (fun _ h9 => h9) rfl dX11_way_97 ?_
  refine lv_bipush (v := 32) hx hb dX11_way_100 (by decide) ?_
  refine lv_iload hx hb dX11_way_102 (lv_at hl 6 rfl) ?_
  refine lv_imul hx hb dX11_way_104 ?_
  refine lv_iload hx hb dX11_way_105 (lv_at hl 7 rfl) ?_
  refine lv_iadd hx hb dX11_way_107 ?_
  obtain ⟨h_108, hf⟩ := fb_if hf
  refine va_iald hx hb hK hP 8 0 (haM_8 ca a t) rfl h_108 dX11_way_108 ?_
  refine lv_istore (lv' := [(8, .int (st_F t 6 ((((32 : Int32)) * x6) + x7).toNatClampNeg)), (0, .ref (a 0)), (1, .int x1), (2, .int x2), (3, .int x3), (4, .int x4), (5, .int x5), (6, .int x6), (7, .int x7)]) hx hb dX11_way_109 hl (by decide) rfl (fun ls hl => ?_)
  refine lv_aload_n hx hb dX11_way_111 rfl (lv_at hl 1 rfl) ?_
  refine va_get (D := D) (ci := 11) (v := .ref (a 52)) (C := RX11) (T := TX11) (N := 76) hx hb hts inX11 hown hK hP 0 (heM_0 ca a t) rfl 72 (by decide) (hts _ kw_1264) (fun _ h9 => h9) rfl dX11_way_112 ?_
  refine lv_iload hx hb dX11_way_115 (lv_at hl 0 rfl) ?_
  obtain ⟨h_117, hf⟩ := fb_if hf
  refine va_iald hx hb hK hP 52 0 (haM_52 ca a t) rfl h_117 dX11_way_117 ?_
  refine lv_iconst (v := (-1)) hx hb dX11_way_118 (by decide) ?_
  refine lv_icmp_eq (tgt := 125) hx hb dX11_way_119 (by decide) (fun h_119 => ?_) (fun h_119 => ?_)
  · have hf := fb_t h_119 hf
    exact w_M_X11_way__0_125 C hr hk65 hk84 hf hP hS (lv_sub hl [1, 2, 3, 4, 5, 6, 7, 8, 0] rfl)
  · have hf := fb_f h_119 hf
    exact w_M_X11_way__0_122 C hr hk65 hk84 hf hP hS (lv_sub hl [1, 2, 3, 4, 5, 6, 7, 8] rfl)
set_option maxRecDepth 20000 in
theorem w_M_X11_way__0_84 {p : Program} {l : Launch} {e : Env} {s : State} {m : MethodId} {args : Array Value} {below : List Frame} {meth : Method} {c : Code} {A : Nat → Prop} {Q : State → Prop} {D : va_G} {ca : Nat → ClassId} {a : Nat → Nat} {u : fw_S} {r : Int32} {k65 : fw_S → Int32 → Int32 → Int32 → Int32 → Int32 → Option (Int32 × fw_S)} (C : CX (WM ca a) D (tyv ca) p s m args c A prog_13_method_63_code 9 RX11) (hr : True → RX (WM ca a) D p l e rm_M_X11_way__0 s m args below meth c A prog_13_method_63_code Q .ireturn [.int r] u) (hk65 : ∀ (t : fw_S) (x1 : Int32) (x2 : Int32) (x3 : Int32) (x4 : Int32) (x5 : Int32) (H : Heap) (locs : List Loc) (ls : Array Slot), k65 t x1 x2 x3 x4 x5 = some (r, u) → va_P D classes (WM ca a t) H → va_S A s.heap H locs → lv_has ls 9 [(0, .ref (a 0)), (1, .int x1), (2, .int x2), (3, .int x3), (4, .int x4), (5, .int x5)] → W p l e rm_M_X11_way__0 s m args below meth c H locs 0 0 Q (F0 m 65 ls [])) : ∀ (n : Nat) (t : fw_S) (x1 : Int32) (x2 : Int32) (x3 : Int32) (x4 : Int32) (x5 : Int32) (x6 : Int32) (x7 : Int32) (H : Heap) (locs : List Loc) (ls : Array Slot), b_M_X11_way__0_84 k65 n t x1 x2 x3 x4 x5 x6 x7 = some (r, u) → va_P D classes (WM ca a t) H → va_S A s.heap H locs → lv_has ls 9 [(0, .ref (a 0)), (1, .int x1), (2, .int x2), (3, .int x3), (4, .int x4), (5, .int x5), (6, .int x6), (7, .int x7)] → W p l e rm_M_X11_way__0 s m args below meth c H locs 0 0 Q (F0 m 84 ls []) := by
  obtain ⟨hx, hb, hml, hown, hts, hN, hK, hD, hA⟩ := id C
  intro n
  induction n with
  | zero => intro t x1 x2 x3 x4 x5 x6 x7 H locs ls hf; cases hf
  | succ n hk84 =>
    intro t x1 x2 x3 x4 x5 x6 x7 H locs ls hf hP hS hl
    have hf : (fb_g (¬ (x6 < 0 ∨ 32 ≤ x6.toNatClampNeg)) (if (st_F t 3 x6.toNatClampNeg) ≤ x7 then b_M_X11_way__0_152 k65 t x1 x2 x3 x4 x5 else b_M_X11_way__0_96 k65 (b_M_X11_way__0_84 k65 n) t x1 x2 x3 x4 x5 x6 x7)) = some (r, u) := hf
    refine lv_iload hx hb dX11_way_84 (lv_at hl 7 rfl) ?_
    refine lv_aload_n hx hb dX11_way_86 rfl (lv_at hl 0 rfl) ?_
    refine va_get (D := D) (ci := 11) (v := .ref (a 4)) (C := RX11) (T := TX11) (N := 76) hx hb hts inX11 hown hK hP 0 (heM_0 ca a t) rfl 3 (by decide) (hts _ kw_1195) (fun _ h9 => h9) rfl dX11_way_87 ?_
    refine lv_iload hx hb dX11_way_90 (lv_at hl 6 rfl) ?_
    obtain ⟨h_92, hf⟩ := fb_if hf
    refine va_iald hx hb hK hP 4 0 (haM_4 ca a t) rfl h_92 dX11_way_92 ?_
    refine lv_icmp_ge (tgt := 152) hx hb dX11_way_93 (by decide) (fun h_93 => ?_) (fun h_93 => ?_)
    · have hf := fb_t h_93 hf
      exact w_M_X11_way__0_152 C hr hk65 hf hP hS (lv_sub hl [0, 1, 2, 3, 4, 5] rfl)
    · have hf := fb_f h_93 hf
      exact w_M_X11_way__0_96 C hr hk65 hk84 hf hP hS (lv_sub hl [0, 1, 2, 3, 4, 5, 6, 7] rfl)
set_option maxRecDepth 20000 in
theorem w_M_X11_way__0_72 {p : Program} {l : Launch} {e : Env} {s : State} {m : MethodId} {args : Array Value} {below : List Frame} {meth : Method} {c : Code} {A : Nat → Prop} {Q : State → Prop} {D : va_G} {ca : Nat → ClassId} {a : Nat → Nat} {u : fw_S} {r : Int32} {k65 : fw_S → Int32 → Int32 → Int32 → Int32 → Int32 → Option (Int32 × fw_S)} (C : CX (WM ca a) D (tyv ca) p s m args c A prog_13_method_63_code 9 RX11) (hr : True → RX (WM ca a) D p l e rm_M_X11_way__0 s m args below meth c A prog_13_method_63_code Q .ireturn [.int r] u) (hk65 : ∀ (t : fw_S) (x1 : Int32) (x2 : Int32) (x3 : Int32) (x4 : Int32) (x5 : Int32) (H : Heap) (locs : List Loc) (ls : Array Slot), k65 t x1 x2 x3 x4 x5 = some (r, u) → va_P D classes (WM ca a t) H → va_S A s.heap H locs → lv_has ls 9 [(0, .ref (a 0)), (1, .int x1), (2, .int x2), (3, .int x3), (4, .int x4), (5, .int x5)] → W p l e rm_M_X11_way__0 s m args below meth c H locs 0 0 Q (F0 m 65 ls [])) {t : fw_S} {x1 : Int32} {x2 : Int32} {x3 : Int32} {x4 : Int32} {x5 : Int32} {H : Heap} {locs : List Loc} {ls : Array Slot} (hf : b_M_X11_way__0_72 k65 t x1 x2 x3 x4 x5 = some (r, u)) (hP : va_P D classes (WM ca a t) H) (hS : va_S A s.heap H locs) (hl : lv_has ls 9 [(0, .ref (a 0)), (1, .int x1), (2, .int x2), (3, .int x3), (4, .int x4), (5, .int x5)]) : W p l e rm_M_X11_way__0 s m args below meth c H locs 0 0 Q (F0 m 72 ls []) := by
  obtain ⟨hx, hb, hml, hown, hts, hN, hK, hD, hA⟩ := id C
  have hf : (fb_g (¬ (x5 < 0 ∨ 32 ≤ x5.toNatClampNeg)) (b_M_X11_way__0_84 k65 3000 t x1 x2 x3 x4 x5 (st_F t 41 x5.toNatClampNeg) ((0 : Int32)))) = some (r, u) := hf
  refine lv_aload_n hx hb dX11_way_72 rfl (lv_at hl 0 rfl) ?_
  refine va_get (D := D) (ci := 11) (v := .ref (a 51)) (C := RX11) (T := TX11) (N := 76) hx hb hts inX11 hown hK hP 0 (heM_0 ca a t) rfl 71 (by decide) (hts _ kw_1263) (fun _ h9 => h9) rfl dX11_way_73 ?_
  refine lv_iload hx hb dX11_way_76 (lv_at hl 5 rfl) ?_
  obtain ⟨h_78, hf⟩ := fb_if hf
  refine va_iald hx hb hK hP 51 0 (haM_51 ca a t) rfl h_78 dX11_way_78 ?_
  refine lv_istore (lv' := [(6, .int (st_F t 41 x5.toNatClampNeg)), (0, .ref (a 0)), (1, .int x1), (2, .int x2), (3, .int x3), (4, .int x4), (5, .int x5)]) hx hb dX11_way_79 hl (by decide) rfl (fun ls hl => ?_)
  refine lv_iconst (v := 0) hx hb dX11_way_81 (by decide) ?_
  refine lv_istore (lv' := [(7, .int ((0 : Int32))), (6, .int (st_F t 41 x5.toNatClampNeg)), (0, .ref (a 0)), (1, .int x1), (2, .int x2), (3, .int x3), (4, .int x4), (5, .int x5)]) hx hb dX11_way_82 hl (by decide) rfl (fun ls hl => ?_)
  exact w_M_X11_way__0_84 C hr hk65 3000 t x1 x2 x3 x4 x5 (st_F t 41 x5.toNatClampNeg) ((0 : Int32)) _ _ _ hf hP hS (lv_sub hl [2, 3, 4, 5, 6, 7, 1, 0] rfl)
set_option maxRecDepth 20000 in
theorem w_M_X11_way__0_65 {p : Program} {l : Launch} {e : Env} {s : State} {m : MethodId} {args : Array Value} {below : List Frame} {meth : Method} {c : Code} {A : Nat → Prop} {Q : State → Prop} {D : va_G} {ca : Nat → ClassId} {a : Nat → Nat} {u : fw_S} {r : Int32}  (C : CX (WM ca a) D (tyv ca) p s m args c A prog_13_method_63_code 9 RX11) (hr : True → RX (WM ca a) D p l e rm_M_X11_way__0 s m args below meth c A prog_13_method_63_code Q .ireturn [.int r] u) : ∀ (n : Nat) (t : fw_S) (x1 : Int32) (x2 : Int32) (x3 : Int32) (x4 : Int32) (x5 : Int32) (H : Heap) (locs : List Loc) (ls : Array Slot), b_M_X11_way__0_65  n t x1 x2 x3 x4 x5 = some (r, u) → va_P D classes (WM ca a t) H → va_S A s.heap H locs → lv_has ls 9 [(0, .ref (a 0)), (1, .int x1), (2, .int x2), (3, .int x3), (4, .int x4), (5, .int x5)] → W p l e rm_M_X11_way__0 s m args below meth c H locs 0 0 Q (F0 m 65 ls []) := by
  obtain ⟨hx, hb, hml, hown, hts, hN, hK, hD, hA⟩ := id C
  intro n
  induction n with
  | zero => intro t x1 x2 x3 x4 x5 H locs ls hf; cases hf
  | succ n hk65 =>
    intro t x1 x2 x3 x4 x5 H locs ls hf hP hS hl
    have hf : (if x4 ≤ x5 then b_M_X11_way__0_158 t x1 x2 x3 else b_M_X11_way__0_72 (b_M_X11_way__0_65 n) t x1 x2 x3 x4 x5) = some (r, u) := hf
    refine lv_iload hx hb dX11_way_65 (lv_at hl 5 rfl) ?_
    refine lv_iload hx hb dX11_way_67 (lv_at hl 4 rfl) ?_
    refine lv_icmp_ge (tgt := 158) hx hb dX11_way_69 (by decide) (fun h_69 => ?_) (fun h_69 => ?_)
    · have hf := fb_t h_69 hf
      exact w_M_X11_way__0_158 C hr hf hP hS (lv_sub hl [0, 1, 2, 3] rfl)
    · have hf := fb_f h_69 hf
      exact w_M_X11_way__0_72 C hr hk65 hf hP hS (lv_sub hl [0, 1, 2, 3, 4, 5] rfl)
set_option maxRecDepth 20000 in
theorem w_M_X11_way__0_45 {p : Program} {l : Launch} {e : Env} {s : State} {m : MethodId} {args : Array Value} {below : List Frame} {meth : Method} {c : Code} {A : Nat → Prop} {Q : State → Prop} {D : va_G} {ca : Nat → ClassId} {a : Nat → Nat} {u : fw_S} {r : Int32}  (C : CX (WM ca a) D (tyv ca) p s m args c A prog_13_method_63_code 9 RX11) (hr : True → RX (WM ca a) D p l e rm_M_X11_way__0 s m args below meth c A prog_13_method_63_code Q .ireturn [.int r] u) {t : fw_S} {x1 : Int32} {x2 : Int32} {x3 : Int32} {H : Heap} {locs : List Loc} {ls : Array Slot} (hf : b_M_X11_way__0_45  t x1 x2 x3 = some (r, u)) (hP : va_P D classes (WM ca a t) H) (hS : va_S A s.heap H locs) (hl : lv_has ls 9 [(0, .ref (a 0)), (1, .int x1), (2, .int x2), (3, .int x3)]) : W p l e rm_M_X11_way__0 s m args below meth c H locs 0 0 Q (F0 m 45 ls []) := by
  obtain ⟨hx, hb, hml, hown, hts, hN, hK, hD, hA⟩ := id C
  have hf : (fb_g (¬ (((0 : Int32)) < 0 ∨ 32 ≤ ((0 : Int32)).toNatClampNeg)) (fb_l (up_F t 41 (upd (st_F t 41) ((0 : Int32)).toNatClampNeg x2)) fun t_1 => (fb_g (¬ (x2 < 0 ∨ 32 ≤ x2.toNatClampNeg)) (fb_l (up_F t_1 42 (upd (st_F t_1 42) x2.toNatClampNeg x2)) fun t_2 => (b_M_X11_way__0_65 3000 t_2 x1 x2 x3 ((1 : Int32)) ((0 : Int32))))))) = some (r, u) := hf
  refine lv_iconst (v := 1) hx hb dX11_way_45 (by decide) ?_
  refine lv_istore (lv' := [(4, .int ((1 : Int32))), (0, .ref (a 0)), (1, .int x1), (2, .int x2), (3, .int x3)]) hx hb dX11_way_46 hl (by decide) rfl (fun ls hl => ?_)
  refine lv_aload_n hx hb dX11_way_48 rfl (lv_at hl 1 rfl) ?_
  refine va_get (D := D) (ci := 11) (v := .ref (a 51)) (C := RX11) (T := TX11) (N := 76) hx hb hts inX11 hown hK hP 0 (heM_0 ca a t) rfl 71 (by decide) (hts _ kw_1263) (fun _ h9 => h9) rfl dX11_way_49 ?_
  refine lv_iconst (v := 0) hx hb dX11_way_52 (by decide) ?_
  refine lv_iload_n hx hb dX11_way_53 rfl (lv_at hl 3 rfl) ?_
  obtain ⟨h_54, hf⟩ := fb_if hf
  refine va_iast hx hb hK hP (hD t) hS 51 0 (haM_51 ca a t) rfl h_54 dX11_way_54 (fun H locs hP _ hS => ?_)
  rw [saM_51] at hP
  obtain ⟨t_1, e_54, hf⟩ := fb_ls hf
  rw [← e_54] at hP
  refine lv_aload_n hx hb dX11_way_55 rfl (lv_at hl 1 rfl) ?_
  refine va_get (D := D) (ci := 11) (v := .ref (a 52)) (C := RX11) (T := TX11) (N := 76) hx hb hts inX11 hown hK hP 0 (heM_0 ca a t_1) rfl 72 (by decide) (hts _ kw_1264) (fun _ h9 => h9) rfl dX11_way_56 ?_
  refine lv_iload_n hx hb dX11_way_59 rfl (lv_at hl 3 rfl) ?_
  refine lv_iload_n hx hb dX11_way_60 rfl (lv_at hl 3 rfl) ?_
  obtain ⟨h_61, hf⟩ := fb_if hf
  refine va_iast hx hb hK hP (hD t_1) hS 52 0 (haM_52 ca a t_1) rfl h_61 dX11_way_61 (fun H locs hP _ hS => ?_)
  rw [saM_52] at hP
  obtain ⟨t_2, e_61, hf⟩ := fb_ls hf
  rw [← e_61] at hP
  refine lv_iconst (v := 0) hx hb dX11_way_62 (by decide) ?_
  refine lv_istore (lv' := [(5, .int ((0 : Int32))), (4, .int ((1 : Int32))), (0, .ref (a 0)), (1, .int x1), (2, .int x2), (3, .int x3)]) hx hb dX11_way_63 hl (by decide) rfl (fun ls hl => ?_)
  exact w_M_X11_way__0_65 C hr 3000 t_2 x1 x2 x3 ((1 : Int32)) ((0 : Int32)) _ _ _ hf hP hS (lv_sub hl [2, 3, 4, 5, 1, 0] rfl)
set_option maxRecDepth 20000 in
theorem w_M_X11_way__0_31 {p : Program} {l : Launch} {e : Env} {s : State} {m : MethodId} {args : Array Value} {below : List Frame} {meth : Method} {c : Code} {A : Nat → Prop} {Q : State → Prop} {D : va_G} {ca : Nat → ClassId} {a : Nat → Nat} {u : fw_S} {r : Int32} {k24 : fw_S → Int32 → Int32 → Int32 → Int32 → Option (Int32 × fw_S)} (C : CX (WM ca a) D (tyv ca) p s m args c A prog_13_method_63_code 9 RX11) (hr : True → RX (WM ca a) D p l e rm_M_X11_way__0 s m args below meth c A prog_13_method_63_code Q .ireturn [.int r] u) (hk24 : ∀ (t : fw_S) (x1 : Int32) (x2 : Int32) (x3 : Int32) (x4 : Int32) (H : Heap) (locs : List Loc) (ls : Array Slot), k24 t x1 x2 x3 x4 = some (r, u) → va_P D classes (WM ca a t) H → va_S A s.heap H locs → lv_has ls 9 [(0, .ref (a 0)), (1, .int x1), (2, .int x2), (3, .int x3), (4, .int x4)] → W p l e rm_M_X11_way__0 s m args below meth c H locs 0 0 Q (F0 m 24 ls [])) {t : fw_S} {x1 : Int32} {x2 : Int32} {x3 : Int32} {x4 : Int32} {H : Heap} {locs : List Loc} {ls : Array Slot} (hf : b_M_X11_way__0_31 k24 t x1 x2 x3 x4 = some (r, u)) (hP : va_P D classes (WM ca a t) H) (hS : va_S A s.heap H locs) (hl : lv_has ls 9 [(0, .ref (a 0)), (1, .int x1), (2, .int x2), (3, .int x3), (4, .int x4)]) : W p l e rm_M_X11_way__0 s m args below meth c H locs 0 0 Q (F0 m 31 ls []) := by
  obtain ⟨hx, hb, hml, hown, hts, hN, hK, hD, hA⟩ := id C
  have hf : (fb_g (¬ (x4 < 0 ∨ 32 ≤ x4.toNatClampNeg)) (fb_l (up_F t 42 (upd (st_F t 42) x4.toNatClampNeg ((-1 : Int32)))) fun t_1 => (k24 t_1 x1 x2 x3 (x4 + 1)))) = some (r, u) := hf
  refine lv_aload_n hx hb dX11_way_31 rfl (lv_at hl 0 rfl) ?_
  refine va_get (D := D) (ci := 11) (v := .ref (a 52)) (C := RX11) (T := TX11) (N := 76) hx hb hts inX11 hown hK hP 0 (heM_0 ca a t) rfl 72 (by decide) (hts _ kw_1264) (fun _ h9 => h9) rfl dX11_way_32 ?_
  refine lv_iload hx hb dX11_way_35 (lv_at hl 4 rfl) ?_
  refine lv_iconst (v := (-1)) hx hb dX11_way_37 (by decide) ?_
  obtain ⟨h_38, hf⟩ := fb_if hf
  refine va_iast hx hb hK hP (hD t) hS 52 0 (haM_52 ca a t) rfl h_38 dX11_way_38 (fun H locs hP _ hS => ?_)
  rw [saM_52] at hP
  obtain ⟨t_1, e_38, hf⟩ := fb_ls hf
  rw [← e_38] at hP
  refine lv_iinc (v := x4 + 1) (lv' := [(4, .int (x4 + 1)), (0, .ref (a 0)), (1, .int x1), (2, .int x2), (3, .int x3)]) hx hb dX11_way_39 hl (k := 4) rfl rfl (by decide) rfl (fun ls hl => ?_)
  refine lv_goto (tgt := 24) hx hb dX11_way_42 (by decide) ?_
  exact hk24 t_1 x1 x2 x3 (x4 + 1) _ _ _ hf hP hS (lv_sub hl [1, 2, 3, 4, 0] rfl)
set_option maxRecDepth 20000 in
theorem w_M_X11_way__0_24 {p : Program} {l : Launch} {e : Env} {s : State} {m : MethodId} {args : Array Value} {below : List Frame} {meth : Method} {c : Code} {A : Nat → Prop} {Q : State → Prop} {D : va_G} {ca : Nat → ClassId} {a : Nat → Nat} {u : fw_S} {r : Int32}  (C : CX (WM ca a) D (tyv ca) p s m args c A prog_13_method_63_code 9 RX11) (hr : True → RX (WM ca a) D p l e rm_M_X11_way__0 s m args below meth c A prog_13_method_63_code Q .ireturn [.int r] u) : ∀ (n : Nat) (t : fw_S) (x1 : Int32) (x2 : Int32) (x3 : Int32) (x4 : Int32) (H : Heap) (locs : List Loc) (ls : Array Slot), b_M_X11_way__0_24  n t x1 x2 x3 x4 = some (r, u) → va_P D classes (WM ca a t) H → va_S A s.heap H locs → lv_has ls 9 [(0, .ref (a 0)), (1, .int x1), (2, .int x2), (3, .int x3), (4, .int x4)] → W p l e rm_M_X11_way__0 s m args below meth c H locs 0 0 Q (F0 m 24 ls []) := by
  obtain ⟨hx, hb, hml, hown, hts, hN, hK, hD, hA⟩ := id C
  intro n
  induction n with
  | zero => intro t x1 x2 x3 x4 H locs ls hf; cases hf
  | succ n hk24 =>
    intro t x1 x2 x3 x4 H locs ls hf hP hS hl
    have hf : (if ((32 : Int32)) ≤ x4 then b_M_X11_way__0_45 t x1 x2 x3 else b_M_X11_way__0_31 (b_M_X11_way__0_24 n) t x1 x2 x3 x4) = some (r, u) := hf
    refine lv_iload hx hb dX11_way_24 (lv_at hl 4 rfl) ?_
    refine lv_bipush (v := 32) hx hb dX11_way_26 (by decide) ?_
    refine lv_icmp_ge (tgt := 45) hx hb dX11_way_28 (by decide) (fun h_28 => ?_) (fun h_28 => ?_)
    · have hf := fb_t h_28 hf
      exact w_M_X11_way__0_45 C hr hf hP hS (lv_sub hl [0, 1, 2, 3] rfl)
    · have hf := fb_f h_28 hf
      exact w_M_X11_way__0_31 C hr hk24 hf hP hS (lv_sub hl [0, 1, 2, 3, 4] rfl)
set_option maxRecDepth 20000 in
theorem w_M_X11_way__0_21 {p : Program} {l : Launch} {e : Env} {s : State} {m : MethodId} {args : Array Value} {below : List Frame} {meth : Method} {c : Code} {A : Nat → Prop} {Q : State → Prop} {D : va_G} {ca : Nat → ClassId} {a : Nat → Nat} {u : fw_S} {r : Int32}  (C : CX (WM ca a) D (tyv ca) p s m args c A prog_13_method_63_code 9 RX11) (hr : True → RX (WM ca a) D p l e rm_M_X11_way__0 s m args below meth c A prog_13_method_63_code Q .ireturn [.int r] u) {t : fw_S} {x1 : Int32} {x2 : Int32} {x3 : Int32} {H : Heap} {locs : List Loc} {ls : Array Slot} (hf : b_M_X11_way__0_21  t x1 x2 x3 = some (r, u)) (hP : va_P D classes (WM ca a t) H) (hS : va_S A s.heap H locs) (hl : lv_has ls 9 [(0, .ref (a 0)), (1, .int x1), (2, .int x2), (3, .int x3)]) : W p l e rm_M_X11_way__0 s m args below meth c H locs 0 0 Q (F0 m 21 ls []) := by
  obtain ⟨hx, hb, hml, hown, hts, hN, hK, hD, hA⟩ := id C
  have hf : (b_M_X11_way__0_24 3000 t x1 x2 x3 ((0 : Int32))) = some (r, u) := hf
  refine lv_iconst (v := 0) hx hb dX11_way_21 (by decide) ?_
  refine lv_istore (lv' := [(4, .int ((0 : Int32))), (0, .ref (a 0)), (1, .int x1), (2, .int x2), (3, .int x3)]) hx hb dX11_way_22 hl (by decide) rfl (fun ls hl => ?_)
  exact w_M_X11_way__0_24 C hr 3000 t x1 x2 x3 ((0 : Int32)) _ _ _ hf hP hS (lv_sub hl [1, 2, 3, 4, 0] rfl)
set_option maxRecDepth 20000 in
theorem w_M_X11_way__0_14 {p : Program} {l : Launch} {e : Env} {s : State} {m : MethodId} {args : Array Value} {below : List Frame} {meth : Method} {c : Code} {A : Nat → Prop} {Q : State → Prop} {D : va_G} {ca : Nat → ClassId} {a : Nat → Nat} {u : fw_S} {r : Int32}  (C : CX (WM ca a) D (tyv ca) p s m args c A prog_13_method_63_code 9 RX11) (hr : True → RX (WM ca a) D p l e rm_M_X11_way__0 s m args below meth c A prog_13_method_63_code Q .ireturn [.int r] u) {t : fw_S} {x1 : Int32} {x2 : Int32} {x3 : Int32} {H : Heap} {locs : List Loc} {ls : Array Slot} (hf : b_M_X11_way__0_14  t x1 x2 x3 = some (r, u)) (hP : va_P D classes (WM ca a t) H) (hS : va_S A s.heap H locs) (hl : lv_has ls 9 [(0, .ref (a 0)), (1, .int x1), (2, .int x2), (3, .int x3)]) : W p l e rm_M_X11_way__0 s m args below meth c H locs 0 0 Q (F0 m 14 ls []) := by
  obtain ⟨hx, hb, hml, hown, hts, hN, hK, hD, hA⟩ := id C
  have hf : (if ((-1 : Int32)) ≤ x3 then b_M_X11_way__0_21 t x1 x2 x3 else b_M_X11_way__0_19 t) = some (r, u) := hf
  refine lv_iload_n hx hb dX11_way_14 rfl (lv_at hl 3 rfl) ?_
  refine lv_iconst (v := (-1)) hx hb dX11_way_15 (by decide) ?_
  refine lv_icmp_ge (tgt := 21) hx hb dX11_way_16 (by decide) (fun h_16 => ?_) (fun h_16 => ?_)
  · have hf := fb_t h_16 hf
    exact w_M_X11_way__0_21 C hr hf hP hS (lv_sub hl [0, 1, 2, 3] rfl)
  · have hf := fb_f h_16 hf
    exact w_M_X11_way__0_19 C hr hf hP hS (lv_sub hl [] rfl)
set_option maxRecDepth 20000 in
theorem w_M_X11_way__0_7 {p : Program} {l : Launch} {e : Env} {s : State} {m : MethodId} {args : Array Value} {below : List Frame} {meth : Method} {c : Code} {A : Nat → Prop} {Q : State → Prop} {D : va_G} {ca : Nat → ClassId} {a : Nat → Nat} {u : fw_S} {r : Int32}  (C : CX (WM ca a) D (tyv ca) p s m args c A prog_13_method_63_code 9 RX11) (hr : True → RX (WM ca a) D p l e rm_M_X11_way__0 s m args below meth c A prog_13_method_63_code Q .ireturn [.int r] u) {t : fw_S} {x1 : Int32} {x2 : Int32} {x3 : Int32} {H : Heap} {locs : List Loc} {ls : Array Slot} (hf : b_M_X11_way__0_7  t x1 x2 x3 = some (r, u)) (hP : va_P D classes (WM ca a t) H) (hS : va_S A s.heap H locs) (hl : lv_has ls 9 [(0, .ref (a 0)), (1, .int x1), (2, .int x2), (3, .int x3)]) : W p l e rm_M_X11_way__0 s m args below meth c H locs 0 0 Q (F0 m 7 ls []) := by
  obtain ⟨hx, hb, hml, hown, hts, hN, hK, hD, hA⟩ := id C
  have hf : (fb_b (f_M_X11_isCell t x2) fun v_2 t_1 => (if v_2 = 0 then b_M_X11_way__0_19 t_1 else b_M_X11_way__0_14 t_1 x1 x2 x3)) = some (r, u) := hf
  refine lv_iload_n hx hb dX11_way_7 rfl (lv_at hl 2 rfl) ?_
  obtain ⟨v_2, t_1, g_8, hf⟩ := fb_bs hf
  refine fw_S1 (As := [.int x2]) (rest := []) (n := 1) C (c_M_X11_isCell (l := l) (D := D) (ca := ca) (a := a) g_8) kw_1437 kw_1438 kw_102 kw_1439 hP hS hl rfl rfl (by decide) (by decide +kernel) ⟨Nat.le_of_ble_eq_true rfl, Nat.le_of_ble_eq_true rfl⟩ rfl rfl (Nat.le_of_ble_eq_true rfl) dX11_way_8 (fun H locs hP hS => ?_)
  refine W.eq (g2 := F0 m 11 ls [.int v_2]) rfl ?_
  refine lv_if_eq (tgt := 19) hx hb dX11_way_11 (by decide) (fun h_11 => ?_) (fun h_11 => ?_)
  · have hf := fb_t h_11 hf
    exact w_M_X11_way__0_19 C hr hf hP hS (lv_sub hl [] rfl)
  · have hf := fb_f h_11 hf
    exact w_M_X11_way__0_14 C hr hf hP hS (lv_sub hl [0, 1, 2, 3] rfl)
set_option maxRecDepth 20000 in
theorem w_M_X11_way__0_0 {p : Program} {l : Launch} {e : Env} {s : State} {m : MethodId} {args : Array Value} {below : List Frame} {meth : Method} {c : Code} {A : Nat → Prop} {Q : State → Prop} {D : va_G} {ca : Nat → ClassId} {a : Nat → Nat} {u : fw_S} {r : Int32}  (C : CX (WM ca a) D (tyv ca) p s m args c A prog_13_method_63_code 9 RX11) (hr : True → RX (WM ca a) D p l e rm_M_X11_way__0 s m args below meth c A prog_13_method_63_code Q .ireturn [.int r] u) {t : fw_S} {x1 : Int32} {x2 : Int32} {x3 : Int32} {H : Heap} {locs : List Loc} {ls : Array Slot} (hf : b_M_X11_way__0_0  t x1 x2 x3 = some (r, u)) (hP : va_P D classes (WM ca a t) H) (hS : va_S A s.heap H locs) (hl : lv_has ls 9 [(0, .ref (a 0)), (1, .int x1), (2, .int x2), (3, .int x3)]) : W p l e rm_M_X11_way__0 s m args below meth c H locs 0 0 Q (F0 m 0 ls []) := by
  obtain ⟨hx, hb, hml, hown, hts, hN, hK, hD, hA⟩ := id C
  have hf : (fb_b (f_M_X11_isCell t x1) fun v_2 t_1 => (if v_2 = 0 then b_M_X11_way__0_19 t_1 else b_M_X11_way__0_7 t_1 x1 x2 x3)) = some (r, u) := hf
  refine lv_iload_n hx hb dX11_way_0 rfl (lv_at hl 1 rfl) ?_
  obtain ⟨v_2, t_1, g_1, hf⟩ := fb_bs hf
  refine fw_S1 (As := [.int x1]) (rest := []) (n := 1) C (c_M_X11_isCell (l := l) (D := D) (ca := ca) (a := a) g_1) kw_1437 kw_1438 kw_102 kw_1439 hP hS hl rfl rfl (by decide) (by decide +kernel) ⟨Nat.le_of_ble_eq_true rfl, Nat.le_of_ble_eq_true rfl⟩ rfl rfl (Nat.le_of_ble_eq_true rfl) dX11_way_1 (fun H locs hP hS => ?_)
  refine W.eq (g2 := F0 m 4 ls [.int v_2]) rfl ?_
  refine lv_if_eq (tgt := 19) hx hb dX11_way_4 (by decide) (fun h_4 => ?_) (fun h_4 => ?_)
  · have hf := fb_t h_4 hf
    exact w_M_X11_way__0_19 C hr hf hP hS (lv_sub hl [] rfl)
  · have hf := fb_f h_4 hf
    exact w_M_X11_way__0_7 C hr hf hP hS (lv_sub hl [0, 1, 2, 3] rfl)
set_option maxRecDepth 20000 in
theorem c_M_X11_way__0 {l : Launch} {D : va_G} {ca : Nat → ClassId} {a : Nat → Nat} {t : fw_S} {x1 : Int32} {x2 : Int32} {x3 : Int32} {u : fw_S} {r : Int32} (hf : f_M_X11_way__0 t x1 x2 x3 = some (r, u)) : MC (WM ca a) D (tyv ca) l yX11_way (.code yX11_way prog_13_method_63_code 9 (some .int) :: lw_gd) rm_M_X11_way__0 [.ref (a 0), .int x1, .int x2, .int x3] (some (.int r)) t u := by
  refine fw_met (okM ca a) (by decide +kernel) rfl rfl (Nat.le_of_ble_eq_true rfl) ?_
  intro p e s m args below meth c A Q ls C hr hk hP hS hl hQ
  exact w_M_X11_way__0_0 C (fun _ => fw_ri C hr hk hQ) hf hP hS (lv_sub hl [0, 1, 2, 3] rfl)
/-! ReactiveSheetModel.asIf(IJI)I ['m'] -/
abbrev rm_M_X11_asIf__0 : Room := { frames := 3, cells := 0, slots := 0, locals := 62 }
def b_M_X11_asIf__0_62  (t : fw_S) (z0 : Int32) : Option (Int32 × fw_S) := some (z0, t)
def b_M_X11_asIf__0_60  (t : fw_S)  : Option (Int32 × fw_S) := b_M_X11_asIf__0_62 t ((-7 : Int32))
def b_M_X11_asIf__0_55  (t : fw_S) (x6 : Int32) : Option (Int32 × fw_S) := b_M_X11_asIf__0_62 t x6
def b_M_X11_asIf__0_0  (t : fw_S) (x1 : Int32) (y2 : Int64) (x4 : Int32) : Option (Int32 × fw_S) := fb_v (f_M_X11_tellsNothing__0 t) fun t_1 => (fb_v (f_M_X11_tell__0 t_1 x1 ((1 : Int32)) y2 ((0 : Int32))) fun t_2 => (fb_b (f_M_X11_goes__0 t_2) fun v_4 t_3 => (fb_g (¬ (x4 < 0 ∨ 32 ≤ x4.toNatClampNeg)) (fb_l (up_J t_3 0 (st_G t_3 0 x4.toNatClampNeg)) fun t_5 => (fb_g (¬ (x4 < 0 ∨ 32 ≤ x4.toNatClampNeg)) (fb_l (up_I t_5 21 (st_F t_5 1 x4.toNatClampNeg)) fun t_6 => (fb_v (f_M_X11_undoes__0 t_6) fun t_7 => (if v_4 = 0 then b_M_X11_asIf__0_60 t_7 else b_M_X11_asIf__0_55 t_7 (st_I t_6 3)))))))))
def f_M_X11_asIf__0 (t : fw_S) (x1 : Int32) (y2 : Int64) (x4 : Int32) : Option (Int32 × fw_S) := b_M_X11_asIf__0_0 t x1 y2 x4
set_option maxRecDepth 20000 in
theorem w_M_X11_asIf__0_62 {p : Program} {l : Launch} {e : Env} {s : State} {m : MethodId} {args : Array Value} {below : List Frame} {meth : Method} {c : Code} {A : Nat → Prop} {Q : State → Prop} {D : va_G} {ca : Nat → ClassId} {a : Nat → Nat} {u : fw_S} {r : Int32}  (C : CX (WM ca a) D (tyv ca) p s m args c A prog_13_method_64_code 7 RX11) (hr : True → RX (WM ca a) D p l e rm_M_X11_asIf__0 s m args below meth c A prog_13_method_64_code Q .ireturn [.int r] u) {t : fw_S} {z0 : Int32} {H : Heap} {locs : List Loc} {ls : Array Slot} (hf : b_M_X11_asIf__0_62  t z0 = some (r, u)) (hP : va_P D classes (WM ca a t) H) (hS : va_S A s.heap H locs) (hl : lv_has ls 7 []) : W p l e rm_M_X11_asIf__0 s m args below meth c H locs 0 0 Q (F0 m 62 ls [.int z0]) := by
  obtain ⟨hx, hb, hml, hown, hts, hN, hK, hD, hA⟩ := id C
  have hf : (some (z0, t)) = some (r, u) := hf
  obtain ⟨e_62, e2_62⟩ := fb_e hf
  subst e_62; subst e2_62
  exact hr trivial _ _ _ _ hP hS dX11_asIf_62
set_option maxRecDepth 20000 in
theorem w_M_X11_asIf__0_60 {p : Program} {l : Launch} {e : Env} {s : State} {m : MethodId} {args : Array Value} {below : List Frame} {meth : Method} {c : Code} {A : Nat → Prop} {Q : State → Prop} {D : va_G} {ca : Nat → ClassId} {a : Nat → Nat} {u : fw_S} {r : Int32}  (C : CX (WM ca a) D (tyv ca) p s m args c A prog_13_method_64_code 7 RX11) (hr : True → RX (WM ca a) D p l e rm_M_X11_asIf__0 s m args below meth c A prog_13_method_64_code Q .ireturn [.int r] u) {t : fw_S}  {H : Heap} {locs : List Loc} {ls : Array Slot} (hf : b_M_X11_asIf__0_60  t  = some (r, u)) (hP : va_P D classes (WM ca a t) H) (hS : va_S A s.heap H locs) (hl : lv_has ls 7 []) : W p l e rm_M_X11_asIf__0 s m args below meth c H locs 0 0 Q (F0 m 60 ls []) := by
  obtain ⟨hx, hb, hml, hown, hts, hN, hK, hD, hA⟩ := id C
  have hf : (b_M_X11_asIf__0_62 t ((-7 : Int32))) = some (r, u) := hf
  refine lv_bipush (v := (-7)) hx hb dX11_asIf_60 (by decide) ?_
  exact w_M_X11_asIf__0_62 C hr hf hP hS (lv_sub hl [] rfl)
set_option maxRecDepth 20000 in
theorem w_M_X11_asIf__0_55 {p : Program} {l : Launch} {e : Env} {s : State} {m : MethodId} {args : Array Value} {below : List Frame} {meth : Method} {c : Code} {A : Nat → Prop} {Q : State → Prop} {D : va_G} {ca : Nat → ClassId} {a : Nat → Nat} {u : fw_S} {r : Int32}  (C : CX (WM ca a) D (tyv ca) p s m args c A prog_13_method_64_code 7 RX11) (hr : True → RX (WM ca a) D p l e rm_M_X11_asIf__0 s m args below meth c A prog_13_method_64_code Q .ireturn [.int r] u) {t : fw_S} {x6 : Int32} {H : Heap} {locs : List Loc} {ls : Array Slot} (hf : b_M_X11_asIf__0_55  t x6 = some (r, u)) (hP : va_P D classes (WM ca a t) H) (hS : va_S A s.heap H locs) (hl : lv_has ls 7 [(6, .int x6)]) : W p l e rm_M_X11_asIf__0 s m args below meth c H locs 0 0 Q (F0 m 55 ls []) := by
  obtain ⟨hx, hb, hml, hown, hts, hN, hK, hD, hA⟩ := id C
  have hf : (b_M_X11_asIf__0_62 t x6) = some (r, u) := hf
  refine lv_iload hx hb dX11_asIf_55 (lv_at hl 0 rfl) ?_
  refine lv_goto (tgt := 62) hx hb dX11_asIf_57 (by decide) ?_
  exact w_M_X11_asIf__0_62 C hr hf hP hS (lv_sub hl [] rfl)
set_option maxRecDepth 20000 in
theorem w_M_X11_asIf__0_0 {p : Program} {l : Launch} {e : Env} {s : State} {m : MethodId} {args : Array Value} {below : List Frame} {meth : Method} {c : Code} {A : Nat → Prop} {Q : State → Prop} {D : va_G} {ca : Nat → ClassId} {a : Nat → Nat} {u : fw_S} {r : Int32}  (C : CX (WM ca a) D (tyv ca) p s m args c A prog_13_method_64_code 7 RX11) (hr : True → RX (WM ca a) D p l e rm_M_X11_asIf__0 s m args below meth c A prog_13_method_64_code Q .ireturn [.int r] u) {t : fw_S} {x1 : Int32} {y2 : Int64} {x4 : Int32} {H : Heap} {locs : List Loc} {ls : Array Slot} (hf : b_M_X11_asIf__0_0  t x1 y2 x4 = some (r, u)) (hP : va_P D classes (WM ca a t) H) (hS : va_S A s.heap H locs) (hl : lv_has ls 7 [(0, .ref (a 0)), (1, .int x1), (2, .long y2), (4, .int x4)]) : W p l e rm_M_X11_asIf__0 s m args below meth c H locs 0 0 Q (F0 m 0 ls []) := by
  obtain ⟨hx, hb, hml, hown, hts, hN, hK, hD, hA⟩ := id C
  have hf : (fb_v (f_M_X11_tellsNothing__0 t) fun t_1 => (fb_v (f_M_X11_tell__0 t_1 x1 ((1 : Int32)) y2 ((0 : Int32))) fun t_2 => (fb_b (f_M_X11_goes__0 t_2) fun v_4 t_3 => (fb_g (¬ (x4 < 0 ∨ 32 ≤ x4.toNatClampNeg)) (fb_l (up_J t_3 0 (st_G t_3 0 x4.toNatClampNeg)) fun t_5 => (fb_g (¬ (x4 < 0 ∨ 32 ≤ x4.toNatClampNeg)) (fb_l (up_I t_5 21 (st_F t_5 1 x4.toNatClampNeg)) fun t_6 => (fb_v (f_M_X11_undoes__0 t_6) fun t_7 => (if v_4 = 0 then b_M_X11_asIf__0_60 t_7 else b_M_X11_asIf__0_55 t_7 (st_I t_6 3)))))))))) = some (r, u) := hf
  refine lv_aload_n hx hb dX11_asIf_0 rfl (lv_at hl 0 rfl) ?_
  obtain ⟨t_1, g_1, hf⟩ := fb_vs hf
  refine fw_V1 (As := []) (rest := []) (n := 0) (q0 := 0) C (c_M_X11_tellsNothing__0 (l := l) (D := D) (ca := ca) (a := a) g_1) kw_1444 kw_1446 kw_102 kw_1447 kw_45 hP hS hl (heM_0 ca a t) rfl rfl rfl (by decide) (by decide +kernel) ⟨Nat.le_of_ble_eq_true rfl, Nat.le_of_ble_eq_true rfl⟩ rfl rfl (Nat.le_of_ble_eq_true rfl) dX11_asIf_1 (fun H locs hP hS => ?_)
  refine W.eq (g2 := F0 m 4 ls []) rfl ?_
  refine lv_aload_n hx hb dX11_asIf_4 rfl (lv_at hl 0 rfl) ?_
  refine lv_iload_n hx hb dX11_asIf_5 rfl (lv_at hl 1 rfl) ?_
  refine lv_iconst (v := 1) hx hb dX11_asIf_6 (by decide) ?_
  refine lv_lload_n hx hb dX11_asIf_7 rfl (lv_at hl 2 rfl) ?_
  refine lv_iconst (v := 0) hx hb dX11_asIf_8 (by decide) ?_
  obtain ⟨t_2, g_9, hf⟩ := fb_vs hf
  refine fw_V1 (As := [.int x1, .int ((1 : Int32)), .long y2, .int ((0 : Int32))]) (rest := []) (n := 4) (q0 := 0) C (c_M_X11_tell__0 (l := l) (D := D) (ca := ca) (a := a) g_9) kw_1448 kw_1450 kw_102 kw_1451 kw_46 hP hS hl (heM_0 ca a t_1) rfl rfl rfl (by decide) (by decide +kernel) ⟨Nat.le_of_ble_eq_true rfl, Nat.le_of_ble_eq_true rfl⟩ rfl rfl (Nat.le_of_ble_eq_true rfl) dX11_asIf_9 (fun H locs hP hS => ?_)
  refine W.eq (g2 := F0 m 12 ls []) rfl ?_
  refine lv_aload_n hx hb dX11_asIf_12 rfl (lv_at hl 0 rfl) ?_
  obtain ⟨v_4, t_3, g_13, hf⟩ := fb_bs hf
  refine fw_V1 (As := []) (rest := []) (n := 0) (q0 := 0) C (c_M_X11_goes__0 (l := l) (D := D) (ca := ca) (a := a) g_13) kw_1456 kw_1458 kw_102 kw_1459 kw_48 hP hS hl (heM_0 ca a t_2) rfl rfl rfl (by decide) (by decide +kernel) ⟨Nat.le_of_ble_eq_true rfl, Nat.le_of_ble_eq_true rfl⟩ rfl rfl (Nat.le_of_ble_eq_true rfl) dX11_asIf_13 (fun H locs hP hS => ?_)
  refine W.eq (g2 := F0 m 16 ls [.int v_4]) rfl ?_
  refine lv_istore (lv' := [(5, .int v_4), (0, .ref (a 0)), (1, .int x1), (2, .long y2), (4, .int x4)]) hx hb dX11_asIf_16 hl (by decide) rfl (fun ls hl => ?_)
  refine lv_aload_n hx hb dX11_asIf_18 rfl (lv_at hl 1 rfl) ?_
  refine lv_aload_n hx hb dX11_asIf_19 rfl (lv_at hl 1 rfl) ?_
  refine va_get (D := D) (ci := 11) (v := .ref (a 7)) (C := RX11) (T := TX11) (N := 76) hx hb hts inX11 hown hK hP 0 (heM_0 ca a t_3) rfl 6 (by decide) (hts _ kw_1198) (fun _ h9 => h9) rfl dX11_asIf_20 ?_
  refine lv_iload hx hb dX11_asIf_23 (lv_at hl 4 rfl) ?_
  obtain ⟨h_25, hf⟩ := fb_if hf
  refine va_lald hx hb hK hP 7 1 (haM_7 ca a t_3) rfl h_25 dX11_asIf_25 ?_
  refine va_put (D := D) (ci := 11) (v := .long (st_G t_3 0 x4.toNatClampNeg)) (ty := .long) (C := RX11) (T := TX11) (N := 76) hx hb hts inX11 tyX11 tyX11_ok nmX11 hown hK hP (hD t_3) hS 0 (heM_0 ca a t_3) rfl 73 (by decide) (hts _ kw_1265) (fun _ h9 => h9) rfl (by decide +kernel) rfl rfl (Nat.le_of_ble_eq_true rfl) dX11_asIf_26 (fun H locs hP _ hS => ?_)
  rw [suM_0_73] at hP
  obtain ⟨t_5, e_26, hf⟩ := fb_ls hf
  rw [← e_26] at hP
  refine lv_aload_n hx hb dX11_asIf_29 rfl (lv_at hl 1 rfl) ?_
  refine lv_aload_n hx hb dX11_asIf_30 rfl (lv_at hl 1 rfl) ?_
  refine va_get (D := D) (ci := 11) (v := .ref (a 2)) (C := RX11) (T := TX11) (N := 76) hx hb hts inX11 hown hK hP 0 (heM_0 ca a t_5) rfl 1 (by decide) (hts _ kw_1193) (fun _ h9 => h9) rfl dX11_asIf_31 ?_
  refine lv_iload hx hb dX11_asIf_34 (lv_at hl 4 rfl) ?_
  obtain ⟨h_36, hf⟩ := fb_if hf
  refine va_iald hx hb hK hP 2 0 (haM_2 ca a t_5) rfl h_36 dX11_asIf_36 ?_
  refine va_put (D := D) (ci := 11) (v := .int (st_F t_5 1 x4.toNatClampNeg)) (ty := .int) (C := RX11) (T := TX11) (N := 76) hx hb hts inX11 tyX11 tyX11_ok nmX11 hown hK hP (hD t_5) hS 0 (heM_0 ca a t_5) rfl 74 (by decide) (hts _ kw_1266) (fun _ h9 => h9) rfl (by decide +kernel) rfl rfl (Nat.le_of_ble_eq_true rfl) dX11_asIf_37 (fun H locs hP _ hS => ?_)
  rw [suM_0_74] at hP
  obtain ⟨t_6, e_37, hf⟩ := fb_ls hf
  rw [← e_37] at hP
  refine lv_aload_n hx hb dX11_asIf_40 rfl (lv_at hl 1 rfl) ?_
  refine va_get (D := D) (ci := 11) (v := .int (st_I t_6 3)) (C := RX11) (T := TX11) (N := 76) hx hb hts inX11 hown hK hP 0 (heM_0 ca a t_6) rfl 36 (by decide) (hts _ kw_1228) (fun _ h9 => h9) rfl dX11_asIf_41 ?_
  refine lv_istore (lv' := [(6, .int (st_I t_6 3)), (5, .int v_4), (0, .ref (a 0)), (1, .int x1), (2, .long y2), (4, .int x4)]) hx hb dX11_asIf_44 hl (by decide) rfl (fun ls hl => ?_)
  refine lv_aload_n hx hb dX11_asIf_46 rfl (lv_at hl 2 rfl) ?_
  obtain ⟨t_7, g_47, hf⟩ := fb_vs hf
  refine fw_V1 (As := []) (rest := []) (n := 0) (q0 := 0) C (c_M_X11_undoes__0 (l := l) (D := D) (ca := ca) (a := a) g_47) kw_1515 kw_1517 kw_102 kw_1518 kw_60 hP hS hl (heM_0 ca a t_6) rfl rfl rfl (by decide) (by decide +kernel) ⟨Nat.le_of_ble_eq_true rfl, Nat.le_of_ble_eq_true rfl⟩ rfl rfl (Nat.le_of_ble_eq_true rfl) dX11_asIf_47 (fun H locs hP hS => ?_)
  refine W.eq (g2 := F0 m 50 ls []) rfl ?_
  refine lv_iload hx hb dX11_asIf_50 (lv_at hl 1 rfl) ?_
  refine lv_if_eq (tgt := 60) hx hb dX11_asIf_52 (by decide) (fun h_52 => ?_) (fun h_52 => ?_)
  · have hf := fb_t h_52 hf
    exact w_M_X11_asIf__0_60 C hr hf hP hS (lv_sub hl [] rfl)
  · have hf := fb_f h_52 hf
    exact w_M_X11_asIf__0_55 C hr hf hP hS (lv_sub hl [0] rfl)
set_option maxRecDepth 20000 in
theorem c_M_X11_asIf__0 {l : Launch} {D : va_G} {ca : Nat → ClassId} {a : Nat → Nat} {t : fw_S} {x1 : Int32} {y2 : Int64} {x4 : Int32} {u : fw_S} {r : Int32} (hf : f_M_X11_asIf__0 t x1 y2 x4 = some (r, u)) : MC (WM ca a) D (tyv ca) l yX11_asIf (.code yX11_asIf prog_13_method_64_code 7 (some .int) :: lw_gd) rm_M_X11_asIf__0 [.ref (a 0), .int x1, .long y2, .int x4] (some (.int r)) t u := by
  refine fw_met (okM ca a) (by decide +kernel) rfl rfl (Nat.le_of_ble_eq_true rfl) ?_
  intro p e s m args below meth c A Q ls C hr hk hP hS hl hQ
  exact w_M_X11_asIf__0_0 C (fun _ => fw_ri C hr hk hQ) hf hP hS (lv_sub hl [0, 1, 2, 3] rfl)
/-! ReactiveSheetModel.whatIf(IJI)J ['m'] -/
abbrev rm_M_X11_whatIf__0 : Room := { frames := 4, cells := 0, slots := 0, locals := 88 }
def b_M_X11_whatIf__0_15  (t : fw_S)  : Option (Int64 × fw_S) := some ((-9223372036854775808 : Int64), t)
def b_M_X11_whatIf__0_47  (t : fw_S) (w0 : Int64) : Option (Int64 × fw_S) := some (w0, t)
def b_M_X11_whatIf__0_37  (t : fw_S)  : Option (Int64 × fw_S) := b_M_X11_whatIf__0_47 t ((-9223372036854775808 : Int64))
def b_M_X11_whatIf__0_43  (t : fw_S)  : Option (Int64 × fw_S) := b_M_X11_whatIf__0_47 t (st_J t 0)
def b_M_X11_whatIf__0_30  (t : fw_S)  : Option (Int64 × fw_S) := if (st_I t 21) = 0 then b_M_X11_whatIf__0_43 t else b_M_X11_whatIf__0_37 t
def b_M_X11_whatIf__0_19  (t : fw_S) (x1 : Int32) (y2 : Int64) (x4 : Int32) : Option (Int64 × fw_S) := fb_b (f_M_X11_asIf__0 t x1 y2 x4) fun v_2 t_1 => (if v_2 < 0 then b_M_X11_whatIf__0_37 t_1 else b_M_X11_whatIf__0_30 t_1)
def b_M_X11_whatIf__0_7  (t : fw_S) (x1 : Int32) (y2 : Int64) (x4 : Int32) : Option (Int64 × fw_S) := fb_b (f_M_X11_isCell t x4) fun v_2 t_1 => (if v_2 = 0 then b_M_X11_whatIf__0_15 t_1 else b_M_X11_whatIf__0_19 t_1 x1 y2 x4)
def b_M_X11_whatIf__0_0  (t : fw_S) (x1 : Int32) (y2 : Int64) (x4 : Int32) : Option (Int64 × fw_S) := fb_b (f_M_X11_isCell t x1) fun v_2 t_1 => (if v_2 = 0 then b_M_X11_whatIf__0_15 t_1 else b_M_X11_whatIf__0_7 t_1 x1 y2 x4)
def f_M_X11_whatIf__0 (t : fw_S) (x1 : Int32) (y2 : Int64) (x4 : Int32) : Option (Int64 × fw_S) := b_M_X11_whatIf__0_0 t x1 y2 x4
set_option maxRecDepth 20000 in
theorem w_M_X11_whatIf__0_15 {p : Program} {l : Launch} {e : Env} {s : State} {m : MethodId} {args : Array Value} {below : List Frame} {meth : Method} {c : Code} {A : Nat → Prop} {Q : State → Prop} {D : va_G} {ca : Nat → ClassId} {a : Nat → Nat} {u : fw_S} {r : Int64}  (C : CX (WM ca a) D (tyv ca) p s m args c A prog_13_method_65_code 5 RX11) (hr : True → RX (WM ca a) D p l e rm_M_X11_whatIf__0 s m args below meth c A prog_13_method_65_code Q .lreturn [.long r] u) {t : fw_S}  {H : Heap} {locs : List Loc} {ls : Array Slot} (hf : b_M_X11_whatIf__0_15  t  = some (r, u)) (hP : va_P D classes (WM ca a t) H) (hS : va_S A s.heap H locs) (hl : lv_has ls 5 []) : W p l e rm_M_X11_whatIf__0 s m args below meth c H locs 0 0 Q (F0 m 15 ls []) := by
  obtain ⟨hx, hb, hml, hown, hts, hN, hK, hD, hA⟩ := id C
  have hf : (some ((-9223372036854775808 : Int64), t)) = some (r, u) := hf
  refine lv_ldc2 (v := (-9223372036854775808)) hx hb hown (hts _ kw_1506) dX11_whatIf_15 ?_
  obtain ⟨e_18, e2_18⟩ := fb_e hf
  subst e_18; subst e2_18
  exact hr trivial _ _ _ _ hP hS dX11_whatIf_18
set_option maxRecDepth 20000 in
theorem w_M_X11_whatIf__0_47 {p : Program} {l : Launch} {e : Env} {s : State} {m : MethodId} {args : Array Value} {below : List Frame} {meth : Method} {c : Code} {A : Nat → Prop} {Q : State → Prop} {D : va_G} {ca : Nat → ClassId} {a : Nat → Nat} {u : fw_S} {r : Int64}  (C : CX (WM ca a) D (tyv ca) p s m args c A prog_13_method_65_code 5 RX11) (hr : True → RX (WM ca a) D p l e rm_M_X11_whatIf__0 s m args below meth c A prog_13_method_65_code Q .lreturn [.long r] u) {t : fw_S} {w0 : Int64} {H : Heap} {locs : List Loc} {ls : Array Slot} (hf : b_M_X11_whatIf__0_47  t w0 = some (r, u)) (hP : va_P D classes (WM ca a t) H) (hS : va_S A s.heap H locs) (hl : lv_has ls 5 []) : W p l e rm_M_X11_whatIf__0 s m args below meth c H locs 0 0 Q (F0 m 47 ls [.long w0]) := by
  obtain ⟨hx, hb, hml, hown, hts, hN, hK, hD, hA⟩ := id C
  have hf : (some (w0, t)) = some (r, u) := hf
  obtain ⟨e_47, e2_47⟩ := fb_e hf
  subst e_47; subst e2_47
  exact hr trivial _ _ _ _ hP hS dX11_whatIf_47
set_option maxRecDepth 20000 in
theorem w_M_X11_whatIf__0_37 {p : Program} {l : Launch} {e : Env} {s : State} {m : MethodId} {args : Array Value} {below : List Frame} {meth : Method} {c : Code} {A : Nat → Prop} {Q : State → Prop} {D : va_G} {ca : Nat → ClassId} {a : Nat → Nat} {u : fw_S} {r : Int64}  (C : CX (WM ca a) D (tyv ca) p s m args c A prog_13_method_65_code 5 RX11) (hr : True → RX (WM ca a) D p l e rm_M_X11_whatIf__0 s m args below meth c A prog_13_method_65_code Q .lreturn [.long r] u) {t : fw_S}  {H : Heap} {locs : List Loc} {ls : Array Slot} (hf : b_M_X11_whatIf__0_37  t  = some (r, u)) (hP : va_P D classes (WM ca a t) H) (hS : va_S A s.heap H locs) (hl : lv_has ls 5 []) : W p l e rm_M_X11_whatIf__0 s m args below meth c H locs 0 0 Q (F0 m 37 ls []) := by
  obtain ⟨hx, hb, hml, hown, hts, hN, hK, hD, hA⟩ := id C
  have hf : (b_M_X11_whatIf__0_47 t ((-9223372036854775808 : Int64))) = some (r, u) := hf
  refine lv_ldc2 (v := (-9223372036854775808)) hx hb hown (hts _ kw_1506) dX11_whatIf_37 ?_
  refine lv_goto (tgt := 47) hx hb dX11_whatIf_40 (by decide) ?_
  exact w_M_X11_whatIf__0_47 C hr hf hP hS (lv_sub hl [] rfl)
set_option maxRecDepth 20000 in
theorem w_M_X11_whatIf__0_43 {p : Program} {l : Launch} {e : Env} {s : State} {m : MethodId} {args : Array Value} {below : List Frame} {meth : Method} {c : Code} {A : Nat → Prop} {Q : State → Prop} {D : va_G} {ca : Nat → ClassId} {a : Nat → Nat} {u : fw_S} {r : Int64}  (C : CX (WM ca a) D (tyv ca) p s m args c A prog_13_method_65_code 5 RX11) (hr : True → RX (WM ca a) D p l e rm_M_X11_whatIf__0 s m args below meth c A prog_13_method_65_code Q .lreturn [.long r] u) {t : fw_S}  {H : Heap} {locs : List Loc} {ls : Array Slot} (hf : b_M_X11_whatIf__0_43  t  = some (r, u)) (hP : va_P D classes (WM ca a t) H) (hS : va_S A s.heap H locs) (hl : lv_has ls 5 [(0, .ref (a 0))]) : W p l e rm_M_X11_whatIf__0 s m args below meth c H locs 0 0 Q (F0 m 43 ls []) := by
  obtain ⟨hx, hb, hml, hown, hts, hN, hK, hD, hA⟩ := id C
  have hf : (b_M_X11_whatIf__0_47 t (st_J t 0)) = some (r, u) := hf
  refine lv_aload_n hx hb dX11_whatIf_43 rfl (lv_at hl 0 rfl) ?_
  refine va_get (D := D) (ci := 11) (v := .long (st_J t 0)) (C := RX11) (T := TX11) (N := 76) hx hb hts inX11 hown hK hP 0 (heM_0 ca a t) rfl 73 (by decide) (hts _ kw_1265) (fun _ h9 => h9) rfl dX11_whatIf_44 ?_
  exact w_M_X11_whatIf__0_47 C hr hf hP hS (lv_sub hl [] rfl)
set_option maxRecDepth 20000 in
theorem w_M_X11_whatIf__0_30 {p : Program} {l : Launch} {e : Env} {s : State} {m : MethodId} {args : Array Value} {below : List Frame} {meth : Method} {c : Code} {A : Nat → Prop} {Q : State → Prop} {D : va_G} {ca : Nat → ClassId} {a : Nat → Nat} {u : fw_S} {r : Int64}  (C : CX (WM ca a) D (tyv ca) p s m args c A prog_13_method_65_code 5 RX11) (hr : True → RX (WM ca a) D p l e rm_M_X11_whatIf__0 s m args below meth c A prog_13_method_65_code Q .lreturn [.long r] u) {t : fw_S}  {H : Heap} {locs : List Loc} {ls : Array Slot} (hf : b_M_X11_whatIf__0_30  t  = some (r, u)) (hP : va_P D classes (WM ca a t) H) (hS : va_S A s.heap H locs) (hl : lv_has ls 5 [(0, .ref (a 0))]) : W p l e rm_M_X11_whatIf__0 s m args below meth c H locs 0 0 Q (F0 m 30 ls []) := by
  obtain ⟨hx, hb, hml, hown, hts, hN, hK, hD, hA⟩ := id C
  have hf : (if (st_I t 21) = 0 then b_M_X11_whatIf__0_43 t else b_M_X11_whatIf__0_37 t) = some (r, u) := hf
  refine lv_aload_n hx hb dX11_whatIf_30 rfl (lv_at hl 0 rfl) ?_
  refine va_get (D := D) (ci := 11) (v := .int (st_I t 21)) (C := RX11) (T := TX11) (N := 76) hx hb hts inX11 hown hK hP 0 (heM_0 ca a t) rfl 74 (by decide) (hts _ kw_1266) (fun _ h9 => h9) rfl dX11_whatIf_31 ?_
  refine lv_if_eq (tgt := 43) hx hb dX11_whatIf_34 (by decide) (fun h_34 => ?_) (fun h_34 => ?_)
  · have hf := fb_t h_34 hf
    exact w_M_X11_whatIf__0_43 C hr hf hP hS (lv_sub hl [0] rfl)
  · have hf := fb_f h_34 hf
    exact w_M_X11_whatIf__0_37 C hr hf hP hS (lv_sub hl [] rfl)
set_option maxRecDepth 20000 in
theorem w_M_X11_whatIf__0_19 {p : Program} {l : Launch} {e : Env} {s : State} {m : MethodId} {args : Array Value} {below : List Frame} {meth : Method} {c : Code} {A : Nat → Prop} {Q : State → Prop} {D : va_G} {ca : Nat → ClassId} {a : Nat → Nat} {u : fw_S} {r : Int64}  (C : CX (WM ca a) D (tyv ca) p s m args c A prog_13_method_65_code 5 RX11) (hr : True → RX (WM ca a) D p l e rm_M_X11_whatIf__0 s m args below meth c A prog_13_method_65_code Q .lreturn [.long r] u) {t : fw_S} {x1 : Int32} {y2 : Int64} {x4 : Int32} {H : Heap} {locs : List Loc} {ls : Array Slot} (hf : b_M_X11_whatIf__0_19  t x1 y2 x4 = some (r, u)) (hP : va_P D classes (WM ca a t) H) (hS : va_S A s.heap H locs) (hl : lv_has ls 5 [(0, .ref (a 0)), (1, .int x1), (2, .long y2), (4, .int x4)]) : W p l e rm_M_X11_whatIf__0 s m args below meth c H locs 0 0 Q (F0 m 19 ls []) := by
  obtain ⟨hx, hb, hml, hown, hts, hN, hK, hD, hA⟩ := id C
  have hf : (fb_b (f_M_X11_asIf__0 t x1 y2 x4) fun v_2 t_1 => (if v_2 < 0 then b_M_X11_whatIf__0_37 t_1 else b_M_X11_whatIf__0_30 t_1)) = some (r, u) := hf
  refine lv_aload_n hx hb dX11_whatIf_19 rfl (lv_at hl 0 rfl) ?_
  refine lv_iload_n hx hb dX11_whatIf_20 rfl (lv_at hl 1 rfl) ?_
  refine lv_lload_n hx hb dX11_whatIf_21 rfl (lv_at hl 2 rfl) ?_
  refine lv_iload hx hb dX11_whatIf_22 (lv_at hl 3 rfl) ?_
  obtain ⟨v_2, t_1, g_24, hf⟩ := fb_bs hf
  refine fw_V1 (As := [.int x1, .long y2, .int x4]) (rest := []) (n := 3) (q0 := 0) C (c_M_X11_asIf__0 (l := l) (D := D) (ca := ca) (a := a) g_24) kw_1673 kw_1675 kw_102 kw_1676 kw_82 hP hS hl (heM_0 ca a t) rfl rfl rfl (by decide) (by decide +kernel) ⟨Nat.le_of_ble_eq_true rfl, Nat.le_of_ble_eq_true rfl⟩ rfl rfl (Nat.le_of_ble_eq_true rfl) dX11_whatIf_24 (fun H locs hP hS => ?_)
  refine W.eq (g2 := F0 m 27 ls [.int v_2]) rfl ?_
  refine lv_if_lt (tgt := 37) hx hb dX11_whatIf_27 (by decide) (fun h_27 => ?_) (fun h_27 => ?_)
  · have hf := fb_t h_27 hf
    exact w_M_X11_whatIf__0_37 C hr hf hP hS (lv_sub hl [] rfl)
  · have hf := fb_f h_27 hf
    exact w_M_X11_whatIf__0_30 C hr hf hP hS (lv_sub hl [0] rfl)
set_option maxRecDepth 20000 in
theorem w_M_X11_whatIf__0_7 {p : Program} {l : Launch} {e : Env} {s : State} {m : MethodId} {args : Array Value} {below : List Frame} {meth : Method} {c : Code} {A : Nat → Prop} {Q : State → Prop} {D : va_G} {ca : Nat → ClassId} {a : Nat → Nat} {u : fw_S} {r : Int64}  (C : CX (WM ca a) D (tyv ca) p s m args c A prog_13_method_65_code 5 RX11) (hr : True → RX (WM ca a) D p l e rm_M_X11_whatIf__0 s m args below meth c A prog_13_method_65_code Q .lreturn [.long r] u) {t : fw_S} {x1 : Int32} {y2 : Int64} {x4 : Int32} {H : Heap} {locs : List Loc} {ls : Array Slot} (hf : b_M_X11_whatIf__0_7  t x1 y2 x4 = some (r, u)) (hP : va_P D classes (WM ca a t) H) (hS : va_S A s.heap H locs) (hl : lv_has ls 5 [(0, .ref (a 0)), (1, .int x1), (2, .long y2), (4, .int x4)]) : W p l e rm_M_X11_whatIf__0 s m args below meth c H locs 0 0 Q (F0 m 7 ls []) := by
  obtain ⟨hx, hb, hml, hown, hts, hN, hK, hD, hA⟩ := id C
  have hf : (fb_b (f_M_X11_isCell t x4) fun v_2 t_1 => (if v_2 = 0 then b_M_X11_whatIf__0_15 t_1 else b_M_X11_whatIf__0_19 t_1 x1 y2 x4)) = some (r, u) := hf
  refine lv_iload hx hb dX11_whatIf_7 (lv_at hl 3 rfl) ?_
  obtain ⟨v_2, t_1, g_9, hf⟩ := fb_bs hf
  refine fw_S1 (As := [.int x4]) (rest := []) (n := 1) C (c_M_X11_isCell (l := l) (D := D) (ca := ca) (a := a) g_9) kw_1437 kw_1438 kw_102 kw_1439 hP hS hl rfl rfl (by decide) (by decide +kernel) ⟨Nat.le_of_ble_eq_true rfl, Nat.le_of_ble_eq_true rfl⟩ rfl rfl (Nat.le_of_ble_eq_true rfl) dX11_whatIf_9 (fun H locs hP hS => ?_)
  refine W.eq (g2 := F0 m 12 ls [.int v_2]) rfl ?_
  refine lv_if_ne (tgt := 19) hx hb dX11_whatIf_12 (by decide) (fun h_12 => ?_) (fun h_12 => ?_)
  · have hf := fb_f h_12 hf
    exact w_M_X11_whatIf__0_19 C hr hf hP hS (lv_sub hl [0, 1, 2, 3] rfl)
  · have hf := fb_t h_12 hf
    exact w_M_X11_whatIf__0_15 C hr hf hP hS (lv_sub hl [] rfl)
set_option maxRecDepth 20000 in
theorem w_M_X11_whatIf__0_0 {p : Program} {l : Launch} {e : Env} {s : State} {m : MethodId} {args : Array Value} {below : List Frame} {meth : Method} {c : Code} {A : Nat → Prop} {Q : State → Prop} {D : va_G} {ca : Nat → ClassId} {a : Nat → Nat} {u : fw_S} {r : Int64}  (C : CX (WM ca a) D (tyv ca) p s m args c A prog_13_method_65_code 5 RX11) (hr : True → RX (WM ca a) D p l e rm_M_X11_whatIf__0 s m args below meth c A prog_13_method_65_code Q .lreturn [.long r] u) {t : fw_S} {x1 : Int32} {y2 : Int64} {x4 : Int32} {H : Heap} {locs : List Loc} {ls : Array Slot} (hf : b_M_X11_whatIf__0_0  t x1 y2 x4 = some (r, u)) (hP : va_P D classes (WM ca a t) H) (hS : va_S A s.heap H locs) (hl : lv_has ls 5 [(0, .ref (a 0)), (1, .int x1), (2, .long y2), (4, .int x4)]) : W p l e rm_M_X11_whatIf__0 s m args below meth c H locs 0 0 Q (F0 m 0 ls []) := by
  obtain ⟨hx, hb, hml, hown, hts, hN, hK, hD, hA⟩ := id C
  have hf : (fb_b (f_M_X11_isCell t x1) fun v_2 t_1 => (if v_2 = 0 then b_M_X11_whatIf__0_15 t_1 else b_M_X11_whatIf__0_7 t_1 x1 y2 x4)) = some (r, u) := hf
  refine lv_iload_n hx hb dX11_whatIf_0 rfl (lv_at hl 1 rfl) ?_
  obtain ⟨v_2, t_1, g_1, hf⟩ := fb_bs hf
  refine fw_S1 (As := [.int x1]) (rest := []) (n := 1) C (c_M_X11_isCell (l := l) (D := D) (ca := ca) (a := a) g_1) kw_1437 kw_1438 kw_102 kw_1439 hP hS hl rfl rfl (by decide) (by decide +kernel) ⟨Nat.le_of_ble_eq_true rfl, Nat.le_of_ble_eq_true rfl⟩ rfl rfl (Nat.le_of_ble_eq_true rfl) dX11_whatIf_1 (fun H locs hP hS => ?_)
  refine W.eq (g2 := F0 m 4 ls [.int v_2]) rfl ?_
  refine lv_if_eq (tgt := 15) hx hb dX11_whatIf_4 (by decide) (fun h_4 => ?_) (fun h_4 => ?_)
  · have hf := fb_t h_4 hf
    exact w_M_X11_whatIf__0_15 C hr hf hP hS (lv_sub hl [] rfl)
  · have hf := fb_f h_4 hf
    exact w_M_X11_whatIf__0_7 C hr hf hP hS (lv_sub hl [0, 1, 2, 3] rfl)
set_option maxRecDepth 20000 in
theorem c_M_X11_whatIf__0 {l : Launch} {D : va_G} {ca : Nat → ClassId} {a : Nat → Nat} {t : fw_S} {x1 : Int32} {y2 : Int64} {x4 : Int32} {u : fw_S} {r : Int64} (hf : f_M_X11_whatIf__0 t x1 y2 x4 = some (r, u)) : MC (WM ca a) D (tyv ca) l yX11_whatIf (.code yX11_whatIf prog_13_method_65_code 5 (some .long) :: lw_gd) rm_M_X11_whatIf__0 [.ref (a 0), .int x1, .long y2, .int x4] (some (.long r)) t u := by
  refine fw_met (okM ca a) (by decide +kernel) rfl rfl (Nat.le_of_ble_eq_true rfl) ?_
  intro p e s m args below meth c A Q ls C hr hk hP hS hl hQ
  exact w_M_X11_whatIf__0_0 C (fun _ => fw_rl C hr hk hQ) hf hP hS (lv_sub hl [0, 1, 2, 3] rfl)
/-! ReactiveSheetModel.would(IJ)I ['m'] -/
abbrev rm_M_X11_would__0 : Room := { frames := 4, cells := 0, slots := 0, locals := 88 }
def b_M_X11_would__0_18  (t : fw_S) (z0 : Int32) : Option (Int32 × fw_S) := some (z0, t)
def b_M_X11_would__0_11  (t : fw_S) (x1 : Int32) (y2 : Int64) : Option (Int32 × fw_S) := fb_b (f_M_X11_asIf__0 t x1 y2 x1) fun v_2 t_1 => (b_M_X11_would__0_18 t_1 v_2)
def b_M_X11_would__0_7  (t : fw_S)  : Option (Int32 × fw_S) := b_M_X11_would__0_18 t ((-1 : Int32))
def b_M_X11_would__0_0  (t : fw_S) (x1 : Int32) (y2 : Int64) : Option (Int32 × fw_S) := fb_b (f_M_X11_isCell t x1) fun v_2 t_1 => (if v_2 = 0 then b_M_X11_would__0_7 t_1 else b_M_X11_would__0_11 t_1 x1 y2)
def f_M_X11_would__0 (t : fw_S) (x1 : Int32) (y2 : Int64) : Option (Int32 × fw_S) := b_M_X11_would__0_0 t x1 y2
set_option maxRecDepth 20000 in
theorem w_M_X11_would__0_18 {p : Program} {l : Launch} {e : Env} {s : State} {m : MethodId} {args : Array Value} {below : List Frame} {meth : Method} {c : Code} {A : Nat → Prop} {Q : State → Prop} {D : va_G} {ca : Nat → ClassId} {a : Nat → Nat} {u : fw_S} {r : Int32}  (C : CX (WM ca a) D (tyv ca) p s m args c A prog_13_method_66_code 4 RX11) (hr : True → RX (WM ca a) D p l e rm_M_X11_would__0 s m args below meth c A prog_13_method_66_code Q .ireturn [.int r] u) {t : fw_S} {z0 : Int32} {H : Heap} {locs : List Loc} {ls : Array Slot} (hf : b_M_X11_would__0_18  t z0 = some (r, u)) (hP : va_P D classes (WM ca a t) H) (hS : va_S A s.heap H locs) (hl : lv_has ls 4 []) : W p l e rm_M_X11_would__0 s m args below meth c H locs 0 0 Q (F0 m 18 ls [.int z0]) := by
  obtain ⟨hx, hb, hml, hown, hts, hN, hK, hD, hA⟩ := id C
  have hf : (some (z0, t)) = some (r, u) := hf
  obtain ⟨e_18, e2_18⟩ := fb_e hf
  subst e_18; subst e2_18
  exact hr trivial _ _ _ _ hP hS dX11_would_18
set_option maxRecDepth 20000 in
theorem w_M_X11_would__0_11 {p : Program} {l : Launch} {e : Env} {s : State} {m : MethodId} {args : Array Value} {below : List Frame} {meth : Method} {c : Code} {A : Nat → Prop} {Q : State → Prop} {D : va_G} {ca : Nat → ClassId} {a : Nat → Nat} {u : fw_S} {r : Int32}  (C : CX (WM ca a) D (tyv ca) p s m args c A prog_13_method_66_code 4 RX11) (hr : True → RX (WM ca a) D p l e rm_M_X11_would__0 s m args below meth c A prog_13_method_66_code Q .ireturn [.int r] u) {t : fw_S} {x1 : Int32} {y2 : Int64} {H : Heap} {locs : List Loc} {ls : Array Slot} (hf : b_M_X11_would__0_11  t x1 y2 = some (r, u)) (hP : va_P D classes (WM ca a t) H) (hS : va_S A s.heap H locs) (hl : lv_has ls 4 [(0, .ref (a 0)), (1, .int x1), (2, .long y2)]) : W p l e rm_M_X11_would__0 s m args below meth c H locs 0 0 Q (F0 m 11 ls []) := by
  obtain ⟨hx, hb, hml, hown, hts, hN, hK, hD, hA⟩ := id C
  have hf : (fb_b (f_M_X11_asIf__0 t x1 y2 x1) fun v_2 t_1 => (b_M_X11_would__0_18 t_1 v_2)) = some (r, u) := hf
  refine lv_aload_n hx hb dX11_would_11 rfl (lv_at hl 0 rfl) ?_
  refine lv_iload_n hx hb dX11_would_12 rfl (lv_at hl 1 rfl) ?_
  refine lv_lload_n hx hb dX11_would_13 rfl (lv_at hl 2 rfl) ?_
  refine lv_iload_n hx hb dX11_would_14 rfl (lv_at hl 1 rfl) ?_
  obtain ⟨v_2, t_1, g_15, hf⟩ := fb_bs hf
  refine fw_V1 (As := [.int x1, .long y2, .int x1]) (rest := []) (n := 3) (q0 := 0) C (c_M_X11_asIf__0 (l := l) (D := D) (ca := ca) (a := a) g_15) kw_1673 kw_1675 kw_102 kw_1676 kw_82 hP hS hl (heM_0 ca a t) rfl rfl rfl (by decide) (by decide +kernel) ⟨Nat.le_of_ble_eq_true rfl, Nat.le_of_ble_eq_true rfl⟩ rfl rfl (Nat.le_of_ble_eq_true rfl) dX11_would_15 (fun H locs hP hS => ?_)
  refine W.eq (g2 := F0 m 18 ls [.int v_2]) rfl ?_
  exact w_M_X11_would__0_18 C hr hf hP hS (lv_sub hl [] rfl)
set_option maxRecDepth 20000 in
theorem w_M_X11_would__0_7 {p : Program} {l : Launch} {e : Env} {s : State} {m : MethodId} {args : Array Value} {below : List Frame} {meth : Method} {c : Code} {A : Nat → Prop} {Q : State → Prop} {D : va_G} {ca : Nat → ClassId} {a : Nat → Nat} {u : fw_S} {r : Int32}  (C : CX (WM ca a) D (tyv ca) p s m args c A prog_13_method_66_code 4 RX11) (hr : True → RX (WM ca a) D p l e rm_M_X11_would__0 s m args below meth c A prog_13_method_66_code Q .ireturn [.int r] u) {t : fw_S}  {H : Heap} {locs : List Loc} {ls : Array Slot} (hf : b_M_X11_would__0_7  t  = some (r, u)) (hP : va_P D classes (WM ca a t) H) (hS : va_S A s.heap H locs) (hl : lv_has ls 4 []) : W p l e rm_M_X11_would__0 s m args below meth c H locs 0 0 Q (F0 m 7 ls []) := by
  obtain ⟨hx, hb, hml, hown, hts, hN, hK, hD, hA⟩ := id C
  have hf : (b_M_X11_would__0_18 t ((-1 : Int32))) = some (r, u) := hf
  refine lv_iconst (v := (-1)) hx hb dX11_would_7 (by decide) ?_
  refine lv_goto (tgt := 18) hx hb dX11_would_8 (by decide) ?_
  exact w_M_X11_would__0_18 C hr hf hP hS (lv_sub hl [] rfl)
set_option maxRecDepth 20000 in
theorem w_M_X11_would__0_0 {p : Program} {l : Launch} {e : Env} {s : State} {m : MethodId} {args : Array Value} {below : List Frame} {meth : Method} {c : Code} {A : Nat → Prop} {Q : State → Prop} {D : va_G} {ca : Nat → ClassId} {a : Nat → Nat} {u : fw_S} {r : Int32}  (C : CX (WM ca a) D (tyv ca) p s m args c A prog_13_method_66_code 4 RX11) (hr : True → RX (WM ca a) D p l e rm_M_X11_would__0 s m args below meth c A prog_13_method_66_code Q .ireturn [.int r] u) {t : fw_S} {x1 : Int32} {y2 : Int64} {H : Heap} {locs : List Loc} {ls : Array Slot} (hf : b_M_X11_would__0_0  t x1 y2 = some (r, u)) (hP : va_P D classes (WM ca a t) H) (hS : va_S A s.heap H locs) (hl : lv_has ls 4 [(0, .ref (a 0)), (1, .int x1), (2, .long y2)]) : W p l e rm_M_X11_would__0 s m args below meth c H locs 0 0 Q (F0 m 0 ls []) := by
  obtain ⟨hx, hb, hml, hown, hts, hN, hK, hD, hA⟩ := id C
  have hf : (fb_b (f_M_X11_isCell t x1) fun v_2 t_1 => (if v_2 = 0 then b_M_X11_would__0_7 t_1 else b_M_X11_would__0_11 t_1 x1 y2)) = some (r, u) := hf
  refine lv_iload_n hx hb dX11_would_0 rfl (lv_at hl 1 rfl) ?_
  obtain ⟨v_2, t_1, g_1, hf⟩ := fb_bs hf
  refine fw_S1 (As := [.int x1]) (rest := []) (n := 1) C (c_M_X11_isCell (l := l) (D := D) (ca := ca) (a := a) g_1) kw_1437 kw_1438 kw_102 kw_1439 hP hS hl rfl rfl (by decide) (by decide +kernel) ⟨Nat.le_of_ble_eq_true rfl, Nat.le_of_ble_eq_true rfl⟩ rfl rfl (Nat.le_of_ble_eq_true rfl) dX11_would_1 (fun H locs hP hS => ?_)
  refine W.eq (g2 := F0 m 4 ls [.int v_2]) rfl ?_
  refine lv_if_ne (tgt := 11) hx hb dX11_would_4 (by decide) (fun h_4 => ?_) (fun h_4 => ?_)
  · have hf := fb_f h_4 hf
    exact w_M_X11_would__0_11 C hr hf hP hS (lv_sub hl [0, 1, 2] rfl)
  · have hf := fb_t h_4 hf
    exact w_M_X11_would__0_7 C hr hf hP hS (lv_sub hl [] rfl)
set_option maxRecDepth 20000 in
theorem c_M_X11_would__0 {l : Launch} {D : va_G} {ca : Nat → ClassId} {a : Nat → Nat} {t : fw_S} {x1 : Int32} {y2 : Int64} {u : fw_S} {r : Int32} (hf : f_M_X11_would__0 t x1 y2 = some (r, u)) : MC (WM ca a) D (tyv ca) l yX11_would (.code yX11_would prog_13_method_66_code 4 (some .int) :: lw_gd) rm_M_X11_would__0 [.ref (a 0), .int x1, .long y2] (some (.int r)) t u := by
  refine fw_met (okM ca a) (by decide +kernel) rfl rfl (Nat.le_of_ble_eq_true rfl) ?_
  intro p e s m args below meth c A Q ls C hr hk hP hS hl hQ
  exact w_M_X11_would__0_0 C (fun _ => fw_ri C hr hk hQ) hf hP hS (lv_sub hl [0, 1, 2] rfl)
/-! ReactiveSheetModel.seek(IJIIJ)J ['m'] -/
abbrev rm_M_X11_seek__0 : Room := { frames := 4, cells := 0, slots := 0, locals := 88 }
def b_M_X11_seek__0_26  (t : fw_S)  : Option (Int64 × fw_S) := some ((-9223372036854775808 : Int64), t)
def b_M_X11_seek__0_100  (t : fw_S)  : Option (Int64 × fw_S) := some ((-9223372036854775808 : Int64), t)
def b_M_X11_seek__0_94 (k33 : fw_S → Int32 → Int64 → Int32 → Int32 → Int64 → Int32 → Option (Int64 × fw_S)) (t : fw_S) (x1 : Int32) (y2 : Int64) (x4 : Int32) (x5 : Int32) (y6 : Int64) (x8 : Int32) : Option (Int64 × fw_S) := k33 t x1 y2 x4 x5 y6 (x8 + 1)
def b_M_X11_seek__0_88  (t : fw_S) (y2 : Int64) (x8 : Int32) : Option (Int64 × fw_S) := some (y2 + x8.toInt64, t)
def b_M_X11_seek__0_78 (k33 : fw_S → Int32 → Int64 → Int32 → Int32 → Int64 → Int32 → Option (Int64 × fw_S)) (t : fw_S) (x1 : Int32) (y2 : Int64) (x4 : Int32) (x5 : Int32) (y6 : Int64) (x8 : Int32) : Option (Int64 × fw_S) := if (lg_cmp (st_J t 0) y6) < 0 then b_M_X11_seek__0_94 k33 t x1 y2 x4 x5 y6 x8 else b_M_X11_seek__0_88 t y2 x8
def b_M_X11_seek__0_71 (k33 : fw_S → Int32 → Int64 → Int32 → Int32 → Int64 → Int32 → Option (Int64 × fw_S)) (t : fw_S) (x1 : Int32) (y2 : Int64) (x4 : Int32) (x5 : Int32) (y6 : Int64) (x8 : Int32) : Option (Int64 × fw_S) := if (st_I t 21) = 0 then b_M_X11_seek__0_78 k33 t x1 y2 x4 x5 y6 x8 else b_M_X11_seek__0_94 k33 t x1 y2 x4 x5 y6 x8
def b_M_X11_seek__0_56 (k33 : fw_S → Int32 → Int64 → Int32 → Int32 → Int64 → Int32 → Option (Int64 × fw_S)) (t : fw_S) (x1 : Int32) (y2 : Int64) (x4 : Int32) (x5 : Int32) (y6 : Int64) (x8 : Int32) : Option (Int64 × fw_S) := fb_b (f_M_X11_asIf__0 t x1 (y2 + x8.toInt64) x5) fun v_2 t_1 => (if v_2 < 0 then b_M_X11_seek__0_94 k33 t_1 x1 y2 x4 x5 y6 x8 else b_M_X11_seek__0_71 k33 t_1 x1 y2 x4 x5 y6 x8)
def b_M_X11_seek__0_52  (t : fw_S)  : Option (Int64 × fw_S) := some ((-9223372036854775808 : Int64), t)
def b_M_X11_seek__0_40 (k33 : fw_S → Int32 → Int64 → Int32 → Int32 → Int64 → Int32 → Option (Int64 × fw_S)) (t : fw_S) (x1 : Int32) (y2 : Int64) (x4 : Int32) (x5 : Int32) (y6 : Int64) (x8 : Int32) : Option (Int64 × fw_S) := if (lg_cmp y2 (((9223372036854775807 : Int64)) - x8.toInt64)) ≤ 0 then b_M_X11_seek__0_56 k33 t x1 y2 x4 x5 y6 x8 else b_M_X11_seek__0_52 t
def b_M_X11_seek__0_33  : Nat → (fw_S → Int32 → Int64 → Int32 → Int32 → Int64 → Int32 → Option (Int64 × fw_S))
  | 0 => fun _ _ _ _ _ _ _ => none
  | n + 1 => fun t x1 y2 x4 x5 y6 x8 => if x4 ≤ x8 then b_M_X11_seek__0_100 t else b_M_X11_seek__0_40 (b_M_X11_seek__0_33 n) t x1 y2 x4 x5 y6 x8
def b_M_X11_seek__0_30  (t : fw_S) (x1 : Int32) (y2 : Int64) (x4 : Int32) (x5 : Int32) (y6 : Int64) : Option (Int64 × fw_S) := b_M_X11_seek__0_33 3000 t x1 y2 x4 x5 y6 ((0 : Int32))
def b_M_X11_seek__0_15  (t : fw_S) (x1 : Int32) (y2 : Int64) (x4 : Int32) (x5 : Int32) (y6 : Int64) : Option (Int64 × fw_S) := fb_b (f_M_X11_isIn t x4 ((0 : Int32)) ((12 : Int32))) fun v_2 t_1 => (if v_2 = 0 then b_M_X11_seek__0_26 t_1 else b_M_X11_seek__0_30 t_1 x1 y2 x4 x5 y6)
def b_M_X11_seek__0_7  (t : fw_S) (x1 : Int32) (y2 : Int64) (x4 : Int32) (x5 : Int32) (y6 : Int64) : Option (Int64 × fw_S) := fb_b (f_M_X11_isCell t x5) fun v_2 t_1 => (if v_2 = 0 then b_M_X11_seek__0_26 t_1 else b_M_X11_seek__0_15 t_1 x1 y2 x4 x5 y6)
def b_M_X11_seek__0_0  (t : fw_S) (x1 : Int32) (y2 : Int64) (x4 : Int32) (x5 : Int32) (y6 : Int64) : Option (Int64 × fw_S) := fb_b (f_M_X11_isCell t x1) fun v_2 t_1 => (if v_2 = 0 then b_M_X11_seek__0_26 t_1 else b_M_X11_seek__0_7 t_1 x1 y2 x4 x5 y6)
def f_M_X11_seek__0 (t : fw_S) (x1 : Int32) (y2 : Int64) (x4 : Int32) (x5 : Int32) (y6 : Int64) : Option (Int64 × fw_S) := b_M_X11_seek__0_0 t x1 y2 x4 x5 y6
set_option maxRecDepth 20000 in
theorem w_M_X11_seek__0_26 {p : Program} {l : Launch} {e : Env} {s : State} {m : MethodId} {args : Array Value} {below : List Frame} {meth : Method} {c : Code} {A : Nat → Prop} {Q : State → Prop} {D : va_G} {ca : Nat → ClassId} {a : Nat → Nat} {u : fw_S} {r : Int64}  (C : CX (WM ca a) D (tyv ca) p s m args c A prog_13_method_67_code 9 RX11) (hr : True → RX (WM ca a) D p l e rm_M_X11_seek__0 s m args below meth c A prog_13_method_67_code Q .lreturn [.long r] u) {t : fw_S}  {H : Heap} {locs : List Loc} {ls : Array Slot} (hf : b_M_X11_seek__0_26  t  = some (r, u)) (hP : va_P D classes (WM ca a t) H) (hS : va_S A s.heap H locs) (hl : lv_has ls 9 []) : W p l e rm_M_X11_seek__0 s m args below meth c H locs 0 0 Q (F0 m 26 ls []) := by
  obtain ⟨hx, hb, hml, hown, hts, hN, hK, hD, hA⟩ := id C
  have hf : (some ((-9223372036854775808 : Int64), t)) = some (r, u) := hf
  refine lv_ldc2 (v := (-9223372036854775808)) hx hb hown (hts _ kw_1506) dX11_seek_26 ?_
  obtain ⟨e_29, e2_29⟩ := fb_e hf
  subst e_29; subst e2_29
  exact hr trivial _ _ _ _ hP hS dX11_seek_29
set_option maxRecDepth 20000 in
theorem w_M_X11_seek__0_100 {p : Program} {l : Launch} {e : Env} {s : State} {m : MethodId} {args : Array Value} {below : List Frame} {meth : Method} {c : Code} {A : Nat → Prop} {Q : State → Prop} {D : va_G} {ca : Nat → ClassId} {a : Nat → Nat} {u : fw_S} {r : Int64}  (C : CX (WM ca a) D (tyv ca) p s m args c A prog_13_method_67_code 9 RX11) (hr : True → RX (WM ca a) D p l e rm_M_X11_seek__0 s m args below meth c A prog_13_method_67_code Q .lreturn [.long r] u) {t : fw_S}  {H : Heap} {locs : List Loc} {ls : Array Slot} (hf : b_M_X11_seek__0_100  t  = some (r, u)) (hP : va_P D classes (WM ca a t) H) (hS : va_S A s.heap H locs) (hl : lv_has ls 9 []) : W p l e rm_M_X11_seek__0 s m args below meth c H locs 0 0 Q (F0 m 100 ls []) := by
  obtain ⟨hx, hb, hml, hown, hts, hN, hK, hD, hA⟩ := id C
  have hf : (some ((-9223372036854775808 : Int64), t)) = some (r, u) := hf
  refine lv_ldc2 (v := (-9223372036854775808)) hx hb hown (hts _ kw_1506) dX11_seek_100 ?_
  obtain ⟨e_103, e2_103⟩ := fb_e hf
  subst e_103; subst e2_103
  exact hr trivial _ _ _ _ hP hS dX11_seek_103
set_option maxRecDepth 20000 in
theorem w_M_X11_seek__0_94 {p : Program} {l : Launch} {e : Env} {s : State} {m : MethodId} {args : Array Value} {below : List Frame} {meth : Method} {c : Code} {A : Nat → Prop} {Q : State → Prop} {D : va_G} {ca : Nat → ClassId} {a : Nat → Nat} {u : fw_S} {r : Int64} {k33 : fw_S → Int32 → Int64 → Int32 → Int32 → Int64 → Int32 → Option (Int64 × fw_S)} (C : CX (WM ca a) D (tyv ca) p s m args c A prog_13_method_67_code 9 RX11) (hr : True → RX (WM ca a) D p l e rm_M_X11_seek__0 s m args below meth c A prog_13_method_67_code Q .lreturn [.long r] u) (hk33 : ∀ (t : fw_S) (x1 : Int32) (y2 : Int64) (x4 : Int32) (x5 : Int32) (y6 : Int64) (x8 : Int32) (H : Heap) (locs : List Loc) (ls : Array Slot), k33 t x1 y2 x4 x5 y6 x8 = some (r, u) → va_P D classes (WM ca a t) H → va_S A s.heap H locs → lv_has ls 9 [(0, .ref (a 0)), (1, .int x1), (2, .long y2), (4, .int x4), (5, .int x5), (6, .long y6), (8, .int x8)] → W p l e rm_M_X11_seek__0 s m args below meth c H locs 0 0 Q (F0 m 33 ls [])) {t : fw_S} {x1 : Int32} {y2 : Int64} {x4 : Int32} {x5 : Int32} {y6 : Int64} {x8 : Int32} {H : Heap} {locs : List Loc} {ls : Array Slot} (hf : b_M_X11_seek__0_94 k33 t x1 y2 x4 x5 y6 x8 = some (r, u)) (hP : va_P D classes (WM ca a t) H) (hS : va_S A s.heap H locs) (hl : lv_has ls 9 [(0, .ref (a 0)), (1, .int x1), (2, .long y2), (4, .int x4), (5, .int x5), (6, .long y6), (8, .int x8)]) : W p l e rm_M_X11_seek__0 s m args below meth c H locs 0 0 Q (F0 m 94 ls []) := by
  obtain ⟨hx, hb, hml, hown, hts, hN, hK, hD, hA⟩ := id C
  have hf : (k33 t x1 y2 x4 x5 y6 (x8 + 1)) = some (r, u) := hf
  refine lv_iinc (v := x8 + 1) (lv' := [(8, .int (x8 + 1)), (0, .ref (a 0)), (1, .int x1), (2, .long y2), (4, .int x4), (5, .int x5), (6, .long y6)]) hx hb dX11_seek_94 hl (k := 6) rfl rfl (by decide) rfl (fun ls hl => ?_)
  refine lv_goto (tgt := 33) hx hb dX11_seek_97 (by decide) ?_
  exact hk33 t x1 y2 x4 x5 y6 (x8 + 1) _ _ _ hf hP hS (lv_sub hl [1, 2, 3, 4, 5, 6, 0] rfl)
set_option maxRecDepth 20000 in
theorem w_M_X11_seek__0_88 {p : Program} {l : Launch} {e : Env} {s : State} {m : MethodId} {args : Array Value} {below : List Frame} {meth : Method} {c : Code} {A : Nat → Prop} {Q : State → Prop} {D : va_G} {ca : Nat → ClassId} {a : Nat → Nat} {u : fw_S} {r : Int64}  (C : CX (WM ca a) D (tyv ca) p s m args c A prog_13_method_67_code 9 RX11) (hr : True → RX (WM ca a) D p l e rm_M_X11_seek__0 s m args below meth c A prog_13_method_67_code Q .lreturn [.long r] u) {t : fw_S} {y2 : Int64} {x8 : Int32} {H : Heap} {locs : List Loc} {ls : Array Slot} (hf : b_M_X11_seek__0_88  t y2 x8 = some (r, u)) (hP : va_P D classes (WM ca a t) H) (hS : va_S A s.heap H locs) (hl : lv_has ls 9 [(2, .long y2), (8, .int x8)]) : W p l e rm_M_X11_seek__0 s m args below meth c H locs 0 0 Q (F0 m 88 ls []) := by
  obtain ⟨hx, hb, hml, hown, hts, hN, hK, hD, hA⟩ := id C
  have hf : (some (y2 + x8.toInt64, t)) = some (r, u) := hf
  refine lv_lload_n hx hb dX11_seek_88 rfl (lv_at hl 0 rfl) ?_
  refine lv_iload hx hb dX11_seek_89 (lv_at hl 1 rfl) ?_
  refine lv_i2l hx hb dX11_seek_91 rfl ?_
  refine lv_ladd hx hb dX11_seek_92 ?_
  obtain ⟨e_93, e2_93⟩ := fb_e hf
  subst e_93; subst e2_93
  exact hr trivial _ _ _ _ hP hS dX11_seek_93
set_option maxRecDepth 20000 in
theorem w_M_X11_seek__0_78 {p : Program} {l : Launch} {e : Env} {s : State} {m : MethodId} {args : Array Value} {below : List Frame} {meth : Method} {c : Code} {A : Nat → Prop} {Q : State → Prop} {D : va_G} {ca : Nat → ClassId} {a : Nat → Nat} {u : fw_S} {r : Int64} {k33 : fw_S → Int32 → Int64 → Int32 → Int32 → Int64 → Int32 → Option (Int64 × fw_S)} (C : CX (WM ca a) D (tyv ca) p s m args c A prog_13_method_67_code 9 RX11) (hr : True → RX (WM ca a) D p l e rm_M_X11_seek__0 s m args below meth c A prog_13_method_67_code Q .lreturn [.long r] u) (hk33 : ∀ (t : fw_S) (x1 : Int32) (y2 : Int64) (x4 : Int32) (x5 : Int32) (y6 : Int64) (x8 : Int32) (H : Heap) (locs : List Loc) (ls : Array Slot), k33 t x1 y2 x4 x5 y6 x8 = some (r, u) → va_P D classes (WM ca a t) H → va_S A s.heap H locs → lv_has ls 9 [(0, .ref (a 0)), (1, .int x1), (2, .long y2), (4, .int x4), (5, .int x5), (6, .long y6), (8, .int x8)] → W p l e rm_M_X11_seek__0 s m args below meth c H locs 0 0 Q (F0 m 33 ls [])) {t : fw_S} {x1 : Int32} {y2 : Int64} {x4 : Int32} {x5 : Int32} {y6 : Int64} {x8 : Int32} {H : Heap} {locs : List Loc} {ls : Array Slot} (hf : b_M_X11_seek__0_78 k33 t x1 y2 x4 x5 y6 x8 = some (r, u)) (hP : va_P D classes (WM ca a t) H) (hS : va_S A s.heap H locs) (hl : lv_has ls 9 [(0, .ref (a 0)), (1, .int x1), (2, .long y2), (4, .int x4), (5, .int x5), (6, .long y6), (8, .int x8)]) : W p l e rm_M_X11_seek__0 s m args below meth c H locs 0 0 Q (F0 m 78 ls []) := by
  obtain ⟨hx, hb, hml, hown, hts, hN, hK, hD, hA⟩ := id C
  have hf : (if (lg_cmp (st_J t 0) y6) < 0 then b_M_X11_seek__0_94 k33 t x1 y2 x4 x5 y6 x8 else b_M_X11_seek__0_88 t y2 x8) = some (r, u) := hf
  refine lv_aload_n hx hb dX11_seek_78 rfl (lv_at hl 0 rfl) ?_
  refine va_get (D := D) (ci := 11) (v := .long (st_J t 0)) (C := RX11) (T := TX11) (N := 76) hx hb hts inX11 hown hK hP 0 (heM_0 ca a t) rfl 73 (by decide) (hts _ kw_1265) (fun _ h9 => h9) rfl dX11_seek_79 ?_
  refine lv_lload hx hb dX11_seek_82 (lv_at hl 5 rfl) ?_
  refine W.lcmp hx hb dX11_seek_84 ?_
  refine lv_if_lt (tgt := 94) hx hb dX11_seek_85 (by decide) (fun h_85 => ?_) (fun h_85 => ?_)
  · have hf := fb_t h_85 hf
    exact w_M_X11_seek__0_94 C hr hk33 hf hP hS (lv_sub hl [0, 1, 2, 3, 4, 5, 6] rfl)
  · have hf := fb_f h_85 hf
    exact w_M_X11_seek__0_88 C hr hf hP hS (lv_sub hl [2, 6] rfl)
set_option maxRecDepth 20000 in
theorem w_M_X11_seek__0_71 {p : Program} {l : Launch} {e : Env} {s : State} {m : MethodId} {args : Array Value} {below : List Frame} {meth : Method} {c : Code} {A : Nat → Prop} {Q : State → Prop} {D : va_G} {ca : Nat → ClassId} {a : Nat → Nat} {u : fw_S} {r : Int64} {k33 : fw_S → Int32 → Int64 → Int32 → Int32 → Int64 → Int32 → Option (Int64 × fw_S)} (C : CX (WM ca a) D (tyv ca) p s m args c A prog_13_method_67_code 9 RX11) (hr : True → RX (WM ca a) D p l e rm_M_X11_seek__0 s m args below meth c A prog_13_method_67_code Q .lreturn [.long r] u) (hk33 : ∀ (t : fw_S) (x1 : Int32) (y2 : Int64) (x4 : Int32) (x5 : Int32) (y6 : Int64) (x8 : Int32) (H : Heap) (locs : List Loc) (ls : Array Slot), k33 t x1 y2 x4 x5 y6 x8 = some (r, u) → va_P D classes (WM ca a t) H → va_S A s.heap H locs → lv_has ls 9 [(0, .ref (a 0)), (1, .int x1), (2, .long y2), (4, .int x4), (5, .int x5), (6, .long y6), (8, .int x8)] → W p l e rm_M_X11_seek__0 s m args below meth c H locs 0 0 Q (F0 m 33 ls [])) {t : fw_S} {x1 : Int32} {y2 : Int64} {x4 : Int32} {x5 : Int32} {y6 : Int64} {x8 : Int32} {H : Heap} {locs : List Loc} {ls : Array Slot} (hf : b_M_X11_seek__0_71 k33 t x1 y2 x4 x5 y6 x8 = some (r, u)) (hP : va_P D classes (WM ca a t) H) (hS : va_S A s.heap H locs) (hl : lv_has ls 9 [(0, .ref (a 0)), (1, .int x1), (2, .long y2), (4, .int x4), (5, .int x5), (6, .long y6), (8, .int x8)]) : W p l e rm_M_X11_seek__0 s m args below meth c H locs 0 0 Q (F0 m 71 ls []) := by
  obtain ⟨hx, hb, hml, hown, hts, hN, hK, hD, hA⟩ := id C
  have hf : (if (st_I t 21) = 0 then b_M_X11_seek__0_78 k33 t x1 y2 x4 x5 y6 x8 else b_M_X11_seek__0_94 k33 t x1 y2 x4 x5 y6 x8) = some (r, u) := hf
  refine lv_aload_n hx hb dX11_seek_71 rfl (lv_at hl 0 rfl) ?_
  refine va_get (D := D) (ci := 11) (v := .int (st_I t 21)) (C := RX11) (T := TX11) (N := 76) hx hb hts inX11 hown hK hP 0 (heM_0 ca a t) rfl 74 (by decide) (hts _ kw_1266) (fun _ h9 => h9) rfl dX11_seek_72 ?_
  refine lv_if_ne (tgt := 94) hx hb dX11_seek_75 (by decide) (fun h_75 => ?_) (fun h_75 => ?_)
  · have hf := fb_f h_75 hf
    exact w_M_X11_seek__0_94 C hr hk33 hf hP hS (lv_sub hl [0, 1, 2, 3, 4, 5, 6] rfl)
  · have hf := fb_t h_75 hf
    exact w_M_X11_seek__0_78 C hr hk33 hf hP hS (lv_sub hl [0, 1, 2, 3, 4, 5, 6] rfl)
set_option maxRecDepth 20000 in
theorem w_M_X11_seek__0_56 {p : Program} {l : Launch} {e : Env} {s : State} {m : MethodId} {args : Array Value} {below : List Frame} {meth : Method} {c : Code} {A : Nat → Prop} {Q : State → Prop} {D : va_G} {ca : Nat → ClassId} {a : Nat → Nat} {u : fw_S} {r : Int64} {k33 : fw_S → Int32 → Int64 → Int32 → Int32 → Int64 → Int32 → Option (Int64 × fw_S)} (C : CX (WM ca a) D (tyv ca) p s m args c A prog_13_method_67_code 9 RX11) (hr : True → RX (WM ca a) D p l e rm_M_X11_seek__0 s m args below meth c A prog_13_method_67_code Q .lreturn [.long r] u) (hk33 : ∀ (t : fw_S) (x1 : Int32) (y2 : Int64) (x4 : Int32) (x5 : Int32) (y6 : Int64) (x8 : Int32) (H : Heap) (locs : List Loc) (ls : Array Slot), k33 t x1 y2 x4 x5 y6 x8 = some (r, u) → va_P D classes (WM ca a t) H → va_S A s.heap H locs → lv_has ls 9 [(0, .ref (a 0)), (1, .int x1), (2, .long y2), (4, .int x4), (5, .int x5), (6, .long y6), (8, .int x8)] → W p l e rm_M_X11_seek__0 s m args below meth c H locs 0 0 Q (F0 m 33 ls [])) {t : fw_S} {x1 : Int32} {y2 : Int64} {x4 : Int32} {x5 : Int32} {y6 : Int64} {x8 : Int32} {H : Heap} {locs : List Loc} {ls : Array Slot} (hf : b_M_X11_seek__0_56 k33 t x1 y2 x4 x5 y6 x8 = some (r, u)) (hP : va_P D classes (WM ca a t) H) (hS : va_S A s.heap H locs) (hl : lv_has ls 9 [(0, .ref (a 0)), (1, .int x1), (2, .long y2), (4, .int x4), (5, .int x5), (6, .long y6), (8, .int x8)]) : W p l e rm_M_X11_seek__0 s m args below meth c H locs 0 0 Q (F0 m 56 ls []) := by
  obtain ⟨hx, hb, hml, hown, hts, hN, hK, hD, hA⟩ := id C
  have hf : (fb_b (f_M_X11_asIf__0 t x1 (y2 + x8.toInt64) x5) fun v_2 t_1 => (if v_2 < 0 then b_M_X11_seek__0_94 k33 t_1 x1 y2 x4 x5 y6 x8 else b_M_X11_seek__0_71 k33 t_1 x1 y2 x4 x5 y6 x8)) = some (r, u) := hf
  refine lv_aload_n hx hb dX11_seek_56 rfl (lv_at hl 0 rfl) ?_
  refine lv_iload_n hx hb dX11_seek_57 rfl (lv_at hl 1 rfl) ?_
  refine lv_lload_n hx hb dX11_seek_58 rfl (lv_at hl 2 rfl) ?_
  refine lv_iload hx hb dX11_seek_59 (lv_at hl 6 rfl) ?_
  refine lv_i2l hx hb dX11_seek_61 rfl ?_
  refine lv_ladd hx hb dX11_seek_62 ?_
  refine lv_iload hx hb dX11_seek_63 (lv_at hl 4 rfl) ?_
  obtain ⟨v_2, t_1, g_65, hf⟩ := fb_bs hf
  refine fw_V1 (As := [.int x1, .long (y2 + x8.toInt64), .int x5]) (rest := []) (n := 3) (q0 := 0) C (c_M_X11_asIf__0 (l := l) (D := D) (ca := ca) (a := a) g_65) kw_1673 kw_1675 kw_102 kw_1676 kw_82 hP hS hl (heM_0 ca a t) rfl rfl rfl (by decide) (by decide +kernel) ⟨Nat.le_of_ble_eq_true rfl, Nat.le_of_ble_eq_true rfl⟩ rfl rfl (Nat.le_of_ble_eq_true rfl) dX11_seek_65 (fun H locs hP hS => ?_)
  refine W.eq (g2 := F0 m 68 ls [.int v_2]) rfl ?_
  refine lv_if_lt (tgt := 94) hx hb dX11_seek_68 (by decide) (fun h_68 => ?_) (fun h_68 => ?_)
  · have hf := fb_t h_68 hf
    exact w_M_X11_seek__0_94 C hr hk33 hf hP hS (lv_sub hl [0, 1, 2, 3, 4, 5, 6] rfl)
  · have hf := fb_f h_68 hf
    exact w_M_X11_seek__0_71 C hr hk33 hf hP hS (lv_sub hl [0, 1, 2, 3, 4, 5, 6] rfl)
set_option maxRecDepth 20000 in
theorem w_M_X11_seek__0_52 {p : Program} {l : Launch} {e : Env} {s : State} {m : MethodId} {args : Array Value} {below : List Frame} {meth : Method} {c : Code} {A : Nat → Prop} {Q : State → Prop} {D : va_G} {ca : Nat → ClassId} {a : Nat → Nat} {u : fw_S} {r : Int64}  (C : CX (WM ca a) D (tyv ca) p s m args c A prog_13_method_67_code 9 RX11) (hr : True → RX (WM ca a) D p l e rm_M_X11_seek__0 s m args below meth c A prog_13_method_67_code Q .lreturn [.long r] u) {t : fw_S}  {H : Heap} {locs : List Loc} {ls : Array Slot} (hf : b_M_X11_seek__0_52  t  = some (r, u)) (hP : va_P D classes (WM ca a t) H) (hS : va_S A s.heap H locs) (hl : lv_has ls 9 []) : W p l e rm_M_X11_seek__0 s m args below meth c H locs 0 0 Q (F0 m 52 ls []) := by
  obtain ⟨hx, hb, hml, hown, hts, hN, hK, hD, hA⟩ := id C
  have hf : (some ((-9223372036854775808 : Int64), t)) = some (r, u) := hf
  refine lv_ldc2 (v := (-9223372036854775808)) hx hb hown (hts _ kw_1506) dX11_seek_52 ?_
  obtain ⟨e_55, e2_55⟩ := fb_e hf
  subst e_55; subst e2_55
  exact hr trivial _ _ _ _ hP hS dX11_seek_55
set_option maxRecDepth 20000 in
theorem w_M_X11_seek__0_40 {p : Program} {l : Launch} {e : Env} {s : State} {m : MethodId} {args : Array Value} {below : List Frame} {meth : Method} {c : Code} {A : Nat → Prop} {Q : State → Prop} {D : va_G} {ca : Nat → ClassId} {a : Nat → Nat} {u : fw_S} {r : Int64} {k33 : fw_S → Int32 → Int64 → Int32 → Int32 → Int64 → Int32 → Option (Int64 × fw_S)} (C : CX (WM ca a) D (tyv ca) p s m args c A prog_13_method_67_code 9 RX11) (hr : True → RX (WM ca a) D p l e rm_M_X11_seek__0 s m args below meth c A prog_13_method_67_code Q .lreturn [.long r] u) (hk33 : ∀ (t : fw_S) (x1 : Int32) (y2 : Int64) (x4 : Int32) (x5 : Int32) (y6 : Int64) (x8 : Int32) (H : Heap) (locs : List Loc) (ls : Array Slot), k33 t x1 y2 x4 x5 y6 x8 = some (r, u) → va_P D classes (WM ca a t) H → va_S A s.heap H locs → lv_has ls 9 [(0, .ref (a 0)), (1, .int x1), (2, .long y2), (4, .int x4), (5, .int x5), (6, .long y6), (8, .int x8)] → W p l e rm_M_X11_seek__0 s m args below meth c H locs 0 0 Q (F0 m 33 ls [])) {t : fw_S} {x1 : Int32} {y2 : Int64} {x4 : Int32} {x5 : Int32} {y6 : Int64} {x8 : Int32} {H : Heap} {locs : List Loc} {ls : Array Slot} (hf : b_M_X11_seek__0_40 k33 t x1 y2 x4 x5 y6 x8 = some (r, u)) (hP : va_P D classes (WM ca a t) H) (hS : va_S A s.heap H locs) (hl : lv_has ls 9 [(0, .ref (a 0)), (1, .int x1), (2, .long y2), (4, .int x4), (5, .int x5), (6, .long y6), (8, .int x8)]) : W p l e rm_M_X11_seek__0 s m args below meth c H locs 0 0 Q (F0 m 40 ls []) := by
  obtain ⟨hx, hb, hml, hown, hts, hN, hK, hD, hA⟩ := id C
  have hf : (if (lg_cmp y2 (((9223372036854775807 : Int64)) - x8.toInt64)) ≤ 0 then b_M_X11_seek__0_56 k33 t x1 y2 x4 x5 y6 x8 else b_M_X11_seek__0_52 t) = some (r, u) := hf
  refine lv_lload_n hx hb dX11_seek_40 rfl (lv_at hl 2 rfl) ?_
  refine lv_ldc2 (v := (9223372036854775807)) hx hb hown (hts _ kw_1685) dX11_seek_41 ?_
  refine lv_iload hx hb dX11_seek_44 (lv_at hl 6 rfl) ?_
  refine lv_i2l hx hb dX11_seek_46 rfl ?_
  refine lv_lsub hx hb dX11_seek_47 ?_
  refine W.lcmp hx hb dX11_seek_48 ?_
  refine lv_if_le (tgt := 56) hx hb dX11_seek_49 (by decide) (fun h_49 => ?_) (fun h_49 => ?_)
  · have hf := fb_t h_49 hf
    exact w_M_X11_seek__0_56 C hr hk33 hf hP hS (lv_sub hl [0, 1, 2, 3, 4, 5, 6] rfl)
  · have hf := fb_f h_49 hf
    exact w_M_X11_seek__0_52 C hr hf hP hS (lv_sub hl [] rfl)
set_option maxRecDepth 20000 in
theorem w_M_X11_seek__0_33 {p : Program} {l : Launch} {e : Env} {s : State} {m : MethodId} {args : Array Value} {below : List Frame} {meth : Method} {c : Code} {A : Nat → Prop} {Q : State → Prop} {D : va_G} {ca : Nat → ClassId} {a : Nat → Nat} {u : fw_S} {r : Int64}  (C : CX (WM ca a) D (tyv ca) p s m args c A prog_13_method_67_code 9 RX11) (hr : True → RX (WM ca a) D p l e rm_M_X11_seek__0 s m args below meth c A prog_13_method_67_code Q .lreturn [.long r] u) : ∀ (n : Nat) (t : fw_S) (x1 : Int32) (y2 : Int64) (x4 : Int32) (x5 : Int32) (y6 : Int64) (x8 : Int32) (H : Heap) (locs : List Loc) (ls : Array Slot), b_M_X11_seek__0_33  n t x1 y2 x4 x5 y6 x8 = some (r, u) → va_P D classes (WM ca a t) H → va_S A s.heap H locs → lv_has ls 9 [(0, .ref (a 0)), (1, .int x1), (2, .long y2), (4, .int x4), (5, .int x5), (6, .long y6), (8, .int x8)] → W p l e rm_M_X11_seek__0 s m args below meth c H locs 0 0 Q (F0 m 33 ls []) := by
  obtain ⟨hx, hb, hml, hown, hts, hN, hK, hD, hA⟩ := id C
  intro n
  induction n with
  | zero => intro t x1 y2 x4 x5 y6 x8 H locs ls hf; cases hf
  | succ n hk33 =>
    intro t x1 y2 x4 x5 y6 x8 H locs ls hf hP hS hl
    have hf : (if x4 ≤ x8 then b_M_X11_seek__0_100 t else b_M_X11_seek__0_40 (b_M_X11_seek__0_33 n) t x1 y2 x4 x5 y6 x8) = some (r, u) := hf
    refine lv_iload hx hb dX11_seek_33 (lv_at hl 6 rfl) ?_
    refine lv_iload hx hb dX11_seek_35 (lv_at hl 3 rfl) ?_
    refine lv_icmp_ge (tgt := 100) hx hb dX11_seek_37 (by decide) (fun h_37 => ?_) (fun h_37 => ?_)
    · have hf := fb_t h_37 hf
      exact w_M_X11_seek__0_100 C hr hf hP hS (lv_sub hl [] rfl)
    · have hf := fb_f h_37 hf
      exact w_M_X11_seek__0_40 C hr hk33 hf hP hS (lv_sub hl [0, 1, 2, 3, 4, 5, 6] rfl)
set_option maxRecDepth 20000 in
theorem w_M_X11_seek__0_30 {p : Program} {l : Launch} {e : Env} {s : State} {m : MethodId} {args : Array Value} {below : List Frame} {meth : Method} {c : Code} {A : Nat → Prop} {Q : State → Prop} {D : va_G} {ca : Nat → ClassId} {a : Nat → Nat} {u : fw_S} {r : Int64}  (C : CX (WM ca a) D (tyv ca) p s m args c A prog_13_method_67_code 9 RX11) (hr : True → RX (WM ca a) D p l e rm_M_X11_seek__0 s m args below meth c A prog_13_method_67_code Q .lreturn [.long r] u) {t : fw_S} {x1 : Int32} {y2 : Int64} {x4 : Int32} {x5 : Int32} {y6 : Int64} {H : Heap} {locs : List Loc} {ls : Array Slot} (hf : b_M_X11_seek__0_30  t x1 y2 x4 x5 y6 = some (r, u)) (hP : va_P D classes (WM ca a t) H) (hS : va_S A s.heap H locs) (hl : lv_has ls 9 [(0, .ref (a 0)), (1, .int x1), (2, .long y2), (4, .int x4), (5, .int x5), (6, .long y6)]) : W p l e rm_M_X11_seek__0 s m args below meth c H locs 0 0 Q (F0 m 30 ls []) := by
  obtain ⟨hx, hb, hml, hown, hts, hN, hK, hD, hA⟩ := id C
  have hf : (b_M_X11_seek__0_33 3000 t x1 y2 x4 x5 y6 ((0 : Int32))) = some (r, u) := hf
  refine lv_iconst (v := 0) hx hb dX11_seek_30 (by decide) ?_
  refine lv_istore (lv' := [(8, .int ((0 : Int32))), (0, .ref (a 0)), (1, .int x1), (2, .long y2), (4, .int x4), (5, .int x5), (6, .long y6)]) hx hb dX11_seek_31 hl (by decide) rfl (fun ls hl => ?_)
  exact w_M_X11_seek__0_33 C hr 3000 t x1 y2 x4 x5 y6 ((0 : Int32)) _ _ _ hf hP hS (lv_sub hl [1, 2, 3, 4, 5, 6, 0] rfl)
set_option maxRecDepth 20000 in
theorem w_M_X11_seek__0_15 {p : Program} {l : Launch} {e : Env} {s : State} {m : MethodId} {args : Array Value} {below : List Frame} {meth : Method} {c : Code} {A : Nat → Prop} {Q : State → Prop} {D : va_G} {ca : Nat → ClassId} {a : Nat → Nat} {u : fw_S} {r : Int64}  (C : CX (WM ca a) D (tyv ca) p s m args c A prog_13_method_67_code 9 RX11) (hr : True → RX (WM ca a) D p l e rm_M_X11_seek__0 s m args below meth c A prog_13_method_67_code Q .lreturn [.long r] u) {t : fw_S} {x1 : Int32} {y2 : Int64} {x4 : Int32} {x5 : Int32} {y6 : Int64} {H : Heap} {locs : List Loc} {ls : Array Slot} (hf : b_M_X11_seek__0_15  t x1 y2 x4 x5 y6 = some (r, u)) (hP : va_P D classes (WM ca a t) H) (hS : va_S A s.heap H locs) (hl : lv_has ls 9 [(0, .ref (a 0)), (1, .int x1), (2, .long y2), (4, .int x4), (5, .int x5), (6, .long y6)]) : W p l e rm_M_X11_seek__0 s m args below meth c H locs 0 0 Q (F0 m 15 ls []) := by
  obtain ⟨hx, hb, hml, hown, hts, hN, hK, hD, hA⟩ := id C
  have hf : (fb_b (f_M_X11_isIn t x4 ((0 : Int32)) ((12 : Int32))) fun v_2 t_1 => (if v_2 = 0 then b_M_X11_seek__0_26 t_1 else b_M_X11_seek__0_30 t_1 x1 y2 x4 x5 y6)) = some (r, u) := hf
  refine lv_iload hx hb dX11_seek_15 (lv_at hl 3 rfl) ?_
  refine lv_iconst (v := 0) hx hb dX11_seek_17 (by decide) ?_
  refine lv_bipush (v := 12) hx hb dX11_seek_18 (by decide) ?_
  obtain ⟨v_2, t_1, g_20, hf⟩ := fb_bs hf
  refine fw_S1 (As := [.int x4, .int ((0 : Int32)), .int ((12 : Int32))]) (rest := []) (n := 3) C (c_M_X11_isIn (l := l) (D := D) (ca := ca) (a := a) g_20) kw_1426 kw_1427 kw_102 kw_1428 hP hS hl rfl rfl (by decide) (by decide +kernel) ⟨Nat.le_of_ble_eq_true rfl, Nat.le_of_ble_eq_true rfl⟩ rfl rfl (Nat.le_of_ble_eq_true rfl) dX11_seek_20 (fun H locs hP hS => ?_)
  refine W.eq (g2 := F0 m 23 ls [.int v_2]) rfl ?_
  refine lv_if_ne (tgt := 30) hx hb dX11_seek_23 (by decide) (fun h_23 => ?_) (fun h_23 => ?_)
  · have hf := fb_f h_23 hf
    exact w_M_X11_seek__0_30 C hr hf hP hS (lv_sub hl [0, 1, 2, 3, 4, 5] rfl)
  · have hf := fb_t h_23 hf
    exact w_M_X11_seek__0_26 C hr hf hP hS (lv_sub hl [] rfl)
set_option maxRecDepth 20000 in
theorem w_M_X11_seek__0_7 {p : Program} {l : Launch} {e : Env} {s : State} {m : MethodId} {args : Array Value} {below : List Frame} {meth : Method} {c : Code} {A : Nat → Prop} {Q : State → Prop} {D : va_G} {ca : Nat → ClassId} {a : Nat → Nat} {u : fw_S} {r : Int64}  (C : CX (WM ca a) D (tyv ca) p s m args c A prog_13_method_67_code 9 RX11) (hr : True → RX (WM ca a) D p l e rm_M_X11_seek__0 s m args below meth c A prog_13_method_67_code Q .lreturn [.long r] u) {t : fw_S} {x1 : Int32} {y2 : Int64} {x4 : Int32} {x5 : Int32} {y6 : Int64} {H : Heap} {locs : List Loc} {ls : Array Slot} (hf : b_M_X11_seek__0_7  t x1 y2 x4 x5 y6 = some (r, u)) (hP : va_P D classes (WM ca a t) H) (hS : va_S A s.heap H locs) (hl : lv_has ls 9 [(0, .ref (a 0)), (1, .int x1), (2, .long y2), (4, .int x4), (5, .int x5), (6, .long y6)]) : W p l e rm_M_X11_seek__0 s m args below meth c H locs 0 0 Q (F0 m 7 ls []) := by
  obtain ⟨hx, hb, hml, hown, hts, hN, hK, hD, hA⟩ := id C
  have hf : (fb_b (f_M_X11_isCell t x5) fun v_2 t_1 => (if v_2 = 0 then b_M_X11_seek__0_26 t_1 else b_M_X11_seek__0_15 t_1 x1 y2 x4 x5 y6)) = some (r, u) := hf
  refine lv_iload hx hb dX11_seek_7 (lv_at hl 4 rfl) ?_
  obtain ⟨v_2, t_1, g_9, hf⟩ := fb_bs hf
  refine fw_S1 (As := [.int x5]) (rest := []) (n := 1) C (c_M_X11_isCell (l := l) (D := D) (ca := ca) (a := a) g_9) kw_1437 kw_1438 kw_102 kw_1439 hP hS hl rfl rfl (by decide) (by decide +kernel) ⟨Nat.le_of_ble_eq_true rfl, Nat.le_of_ble_eq_true rfl⟩ rfl rfl (Nat.le_of_ble_eq_true rfl) dX11_seek_9 (fun H locs hP hS => ?_)
  refine W.eq (g2 := F0 m 12 ls [.int v_2]) rfl ?_
  refine lv_if_eq (tgt := 26) hx hb dX11_seek_12 (by decide) (fun h_12 => ?_) (fun h_12 => ?_)
  · have hf := fb_t h_12 hf
    exact w_M_X11_seek__0_26 C hr hf hP hS (lv_sub hl [] rfl)
  · have hf := fb_f h_12 hf
    exact w_M_X11_seek__0_15 C hr hf hP hS (lv_sub hl [0, 1, 2, 3, 4, 5] rfl)
set_option maxRecDepth 20000 in
theorem w_M_X11_seek__0_0 {p : Program} {l : Launch} {e : Env} {s : State} {m : MethodId} {args : Array Value} {below : List Frame} {meth : Method} {c : Code} {A : Nat → Prop} {Q : State → Prop} {D : va_G} {ca : Nat → ClassId} {a : Nat → Nat} {u : fw_S} {r : Int64}  (C : CX (WM ca a) D (tyv ca) p s m args c A prog_13_method_67_code 9 RX11) (hr : True → RX (WM ca a) D p l e rm_M_X11_seek__0 s m args below meth c A prog_13_method_67_code Q .lreturn [.long r] u) {t : fw_S} {x1 : Int32} {y2 : Int64} {x4 : Int32} {x5 : Int32} {y6 : Int64} {H : Heap} {locs : List Loc} {ls : Array Slot} (hf : b_M_X11_seek__0_0  t x1 y2 x4 x5 y6 = some (r, u)) (hP : va_P D classes (WM ca a t) H) (hS : va_S A s.heap H locs) (hl : lv_has ls 9 [(0, .ref (a 0)), (1, .int x1), (2, .long y2), (4, .int x4), (5, .int x5), (6, .long y6)]) : W p l e rm_M_X11_seek__0 s m args below meth c H locs 0 0 Q (F0 m 0 ls []) := by
  obtain ⟨hx, hb, hml, hown, hts, hN, hK, hD, hA⟩ := id C
  have hf : (fb_b (f_M_X11_isCell t x1) fun v_2 t_1 => (if v_2 = 0 then b_M_X11_seek__0_26 t_1 else b_M_X11_seek__0_7 t_1 x1 y2 x4 x5 y6)) = some (r, u) := hf
  refine lv_iload_n hx hb dX11_seek_0 rfl (lv_at hl 1 rfl) ?_
  obtain ⟨v_2, t_1, g_1, hf⟩ := fb_bs hf
  refine fw_S1 (As := [.int x1]) (rest := []) (n := 1) C (c_M_X11_isCell (l := l) (D := D) (ca := ca) (a := a) g_1) kw_1437 kw_1438 kw_102 kw_1439 hP hS hl rfl rfl (by decide) (by decide +kernel) ⟨Nat.le_of_ble_eq_true rfl, Nat.le_of_ble_eq_true rfl⟩ rfl rfl (Nat.le_of_ble_eq_true rfl) dX11_seek_1 (fun H locs hP hS => ?_)
  refine W.eq (g2 := F0 m 4 ls [.int v_2]) rfl ?_
  refine lv_if_eq (tgt := 26) hx hb dX11_seek_4 (by decide) (fun h_4 => ?_) (fun h_4 => ?_)
  · have hf := fb_t h_4 hf
    exact w_M_X11_seek__0_26 C hr hf hP hS (lv_sub hl [] rfl)
  · have hf := fb_f h_4 hf
    exact w_M_X11_seek__0_7 C hr hf hP hS (lv_sub hl [0, 1, 2, 3, 4, 5] rfl)
set_option maxRecDepth 20000 in
theorem c_M_X11_seek__0 {l : Launch} {D : va_G} {ca : Nat → ClassId} {a : Nat → Nat} {t : fw_S} {x1 : Int32} {y2 : Int64} {x4 : Int32} {x5 : Int32} {y6 : Int64} {u : fw_S} {r : Int64} (hf : f_M_X11_seek__0 t x1 y2 x4 x5 y6 = some (r, u)) : MC (WM ca a) D (tyv ca) l yX11_seek (.code yX11_seek prog_13_method_67_code 9 (some .long) :: lw_gd) rm_M_X11_seek__0 [.ref (a 0), .int x1, .long y2, .int x4, .int x5, .long y6] (some (.long r)) t u := by
  refine fw_met (okM ca a) (by decide +kernel) rfl rfl (Nat.le_of_ble_eq_true rfl) ?_
  intro p e s m args below meth c A Q ls C hr hk hP hS hl hQ
  exact w_M_X11_seek__0_0 C (fun _ => fw_rl C hr hk hQ) hf hP hS (lv_sub hl [0, 1, 2, 3, 4, 5] rfl)
/-! ReactiveSheetModel.spell(I)I ['m'] -/
abbrev rm_M_X11_spell__0 : Room := { frames := 2, cells := 0, slots := 0, locals := 42 }
def b_M_X11_spell__0_22  (t : fw_S) (x1 : Int32) : Option (Int32 × fw_S) := fb_l (up_I t 6 ((0 : Int32))) fun t_1 => (fb_b (f_M_X11_ofCell t_1 x1) fun v_3 t_2 => (fb_g (¬ (x1 < 0 ∨ 32 ≤ x1.toNatClampNeg)) (none)))
def b_M_X11_spell__0_19  (t : fw_S)  : Option (Int32 × fw_S) := some ((-3 : Int32), t)
def b_M_X11_spell__0_9  (t : fw_S) (x1 : Int32) : Option (Int32 × fw_S) := fb_g (¬ (x1 < 0 ∨ 32 ≤ x1.toNatClampNeg)) (if (st_F t 0 x1.toNatClampNeg) = ((2 : Int32)) then b_M_X11_spell__0_22 t x1 else b_M_X11_spell__0_19 t)
def b_M_X11_spell__0_7  (t : fw_S)  : Option (Int32 × fw_S) := some ((-1 : Int32), t)
def b_M_X11_spell__0_0  (t : fw_S) (x1 : Int32) : Option (Int32 × fw_S) := fb_b (f_M_X11_isCell t x1) fun v_2 t_1 => (if v_2 = 0 then b_M_X11_spell__0_7 t_1 else b_M_X11_spell__0_9 t_1 x1)
def f_M_X11_spell__0 (t : fw_S) (x1 : Int32) : Option (Int32 × fw_S) := b_M_X11_spell__0_0 t x1
set_option maxRecDepth 20000 in
theorem w_M_X11_spell__0_22 {p : Program} {l : Launch} {e : Env} {s : State} {m : MethodId} {args : Array Value} {below : List Frame} {meth : Method} {c : Code} {A : Nat → Prop} {Q : State → Prop} {D : va_G} {ca : Nat → ClassId} {a : Nat → Nat} {u : fw_S} {r : Int32}  (C : CX (WM ca a) D (tyv ca) p s m args c A prog_13_method_72_code 2 RX11) (hr : True → RX (WM ca a) D p l e rm_M_X11_spell__0 s m args below meth c A prog_13_method_72_code Q .ireturn [.int r] u) {t : fw_S} {x1 : Int32} {H : Heap} {locs : List Loc} {ls : Array Slot} (hf : b_M_X11_spell__0_22  t x1 = some (r, u)) (hP : va_P D classes (WM ca a t) H) (hS : va_S A s.heap H locs) (hl : lv_has ls 2 [(0, .ref (a 0)), (1, .int x1)]) : W p l e rm_M_X11_spell__0 s m args below meth c H locs 0 0 Q (F0 m 22 ls []) := by
  obtain ⟨hx, hb, hml, hown, hts, hN, hK, hD, hA⟩ := id C
  have hf : (fb_l (up_I t 6 ((0 : Int32))) fun t_1 => (fb_b (f_M_X11_ofCell t_1 x1) fun v_3 t_2 => (fb_g (¬ (x1 < 0 ∨ 32 ≤ x1.toNatClampNeg)) (none)))) = some (r, u) := hf
  refine lv_aload_n hx hb dX11_spell_22 rfl (lv_at hl 0 rfl) ?_
  refine lv_iconst (v := 0) hx hb dX11_spell_23 (by decide) ?_
  refine va_put (D := D) (ci := 11) (v := .int ((0 : Int32))) (ty := .int) (C := RX11) (T := TX11) (N := 76) hx hb hts inX11 tyX11 tyX11_ok nmX11 hown hK hP (hD t) hS 0 (heM_0 ca a t) rfl 41 (by decide) (hts _ kw_1233) (fun _ h9 => h9) rfl (by decide +kernel) rfl rfl (Nat.le_of_ble_eq_true rfl) dX11_spell_24 (fun H locs hP _ hS => ?_)
  rw [suM_0_41] at hP
  obtain ⟨t_1, e_24, hf⟩ := fb_ls hf
  rw [← e_24] at hP
  refine lv_aload_n hx hb dX11_spell_27 rfl (lv_at hl 0 rfl) ?_
  refine lv_iload_n hx hb dX11_spell_28 rfl (lv_at hl 1 rfl) ?_
  obtain ⟨v_3, t_2, g_29, hf⟩ := fb_bs hf
  refine fw_S1 (As := [.int x1]) (rest := [.ref (a 0)]) (n := 1) C (c_M_X11_ofCell (l := l) (D := D) (ca := ca) (a := a) g_29) kw_1468 kw_1469 kw_102 kw_1470 hP hS hl rfl rfl (by decide) (by decide +kernel) ⟨Nat.le_of_ble_eq_true rfl, Nat.le_of_ble_eq_true rfl⟩ rfl rfl (Nat.le_of_ble_eq_true rfl) dX11_spell_29 (fun H locs hP hS => ?_)
  refine W.eq (g2 := F0 m 32 ls [.int v_3, .ref (a 0)]) rfl ?_
  refine lv_aload_n hx hb dX11_spell_32 rfl (lv_at hl 0 rfl) ?_
  refine va_get (D := D) (ci := 11) (v := .ref (a 6)) (C := RX11) (T := TX11) (N := 76) hx hb hts inX11 hown hK hP 0 (heM_0 ca a t_2) rfl 5 (by decide) (hts _ kw_1197) (fun _ h9 => h9) rfl dX11_spell_33 ?_
  refine lv_iload_n hx hb dX11_spell_36 rfl (lv_at hl 1 rfl) ?_
  obtain ⟨h_37, hf⟩ := fb_if hf
  refine va_iald hx hb hK hP 6 0 (haM_6 ca a t_2) rfl h_37 dX11_spell_37 ?_
  refine lv_iconst (v := 0) hx hb dX11_spell_38 (by decide) ?_
  cases hf
set_option maxRecDepth 20000 in
theorem w_M_X11_spell__0_19 {p : Program} {l : Launch} {e : Env} {s : State} {m : MethodId} {args : Array Value} {below : List Frame} {meth : Method} {c : Code} {A : Nat → Prop} {Q : State → Prop} {D : va_G} {ca : Nat → ClassId} {a : Nat → Nat} {u : fw_S} {r : Int32}  (C : CX (WM ca a) D (tyv ca) p s m args c A prog_13_method_72_code 2 RX11) (hr : True → RX (WM ca a) D p l e rm_M_X11_spell__0 s m args below meth c A prog_13_method_72_code Q .ireturn [.int r] u) {t : fw_S}  {H : Heap} {locs : List Loc} {ls : Array Slot} (hf : b_M_X11_spell__0_19  t  = some (r, u)) (hP : va_P D classes (WM ca a t) H) (hS : va_S A s.heap H locs) (hl : lv_has ls 2 []) : W p l e rm_M_X11_spell__0 s m args below meth c H locs 0 0 Q (F0 m 19 ls []) := by
  obtain ⟨hx, hb, hml, hown, hts, hN, hK, hD, hA⟩ := id C
  have hf : (some ((-3 : Int32), t)) = some (r, u) := hf
  refine lv_bipush (v := (-3)) hx hb dX11_spell_19 (by decide) ?_
  obtain ⟨e_21, e2_21⟩ := fb_e hf
  subst e_21; subst e2_21
  exact hr trivial _ _ _ _ hP hS dX11_spell_21
set_option maxRecDepth 20000 in
theorem w_M_X11_spell__0_9 {p : Program} {l : Launch} {e : Env} {s : State} {m : MethodId} {args : Array Value} {below : List Frame} {meth : Method} {c : Code} {A : Nat → Prop} {Q : State → Prop} {D : va_G} {ca : Nat → ClassId} {a : Nat → Nat} {u : fw_S} {r : Int32}  (C : CX (WM ca a) D (tyv ca) p s m args c A prog_13_method_72_code 2 RX11) (hr : True → RX (WM ca a) D p l e rm_M_X11_spell__0 s m args below meth c A prog_13_method_72_code Q .ireturn [.int r] u) {t : fw_S} {x1 : Int32} {H : Heap} {locs : List Loc} {ls : Array Slot} (hf : b_M_X11_spell__0_9  t x1 = some (r, u)) (hP : va_P D classes (WM ca a t) H) (hS : va_S A s.heap H locs) (hl : lv_has ls 2 [(0, .ref (a 0)), (1, .int x1)]) : W p l e rm_M_X11_spell__0 s m args below meth c H locs 0 0 Q (F0 m 9 ls []) := by
  obtain ⟨hx, hb, hml, hown, hts, hN, hK, hD, hA⟩ := id C
  have hf : (fb_g (¬ (x1 < 0 ∨ 32 ≤ x1.toNatClampNeg)) (if (st_F t 0 x1.toNatClampNeg) = ((2 : Int32)) then b_M_X11_spell__0_22 t x1 else b_M_X11_spell__0_19 t)) = some (r, u) := hf
  refine lv_aload_n hx hb dX11_spell_9 rfl (lv_at hl 0 rfl) ?_
  refine va_get (D := D) (ci := 11) (v := .ref (a 1)) (C := RX11) (T := TX11) (N := 76) hx hb hts inX11 hown hK hP 0 (heM_0 ca a t) rfl 0 (by decide) (hts _ kw_1192) (fun _ h9 => h9) rfl dX11_spell_10 ?_
  refine lv_iload_n hx hb dX11_spell_13 rfl (lv_at hl 1 rfl) ?_
  obtain ⟨h_14, hf⟩ := fb_if hf
  refine va_iald hx hb hK hP 1 0 (haM_1 ca a t) rfl h_14 dX11_spell_14 ?_
  refine lv_iconst (v := 2) hx hb dX11_spell_15 (by decide) ?_
  refine lv_icmp_eq (tgt := 22) hx hb dX11_spell_16 (by decide) (fun h_16 => ?_) (fun h_16 => ?_)
  · have hf := fb_t h_16 hf
    exact w_M_X11_spell__0_22 C hr hf hP hS (lv_sub hl [0, 1] rfl)
  · have hf := fb_f h_16 hf
    exact w_M_X11_spell__0_19 C hr hf hP hS (lv_sub hl [] rfl)
set_option maxRecDepth 20000 in
theorem w_M_X11_spell__0_7 {p : Program} {l : Launch} {e : Env} {s : State} {m : MethodId} {args : Array Value} {below : List Frame} {meth : Method} {c : Code} {A : Nat → Prop} {Q : State → Prop} {D : va_G} {ca : Nat → ClassId} {a : Nat → Nat} {u : fw_S} {r : Int32}  (C : CX (WM ca a) D (tyv ca) p s m args c A prog_13_method_72_code 2 RX11) (hr : True → RX (WM ca a) D p l e rm_M_X11_spell__0 s m args below meth c A prog_13_method_72_code Q .ireturn [.int r] u) {t : fw_S}  {H : Heap} {locs : List Loc} {ls : Array Slot} (hf : b_M_X11_spell__0_7  t  = some (r, u)) (hP : va_P D classes (WM ca a t) H) (hS : va_S A s.heap H locs) (hl : lv_has ls 2 []) : W p l e rm_M_X11_spell__0 s m args below meth c H locs 0 0 Q (F0 m 7 ls []) := by
  obtain ⟨hx, hb, hml, hown, hts, hN, hK, hD, hA⟩ := id C
  have hf : (some ((-1 : Int32), t)) = some (r, u) := hf
  refine lv_iconst (v := (-1)) hx hb dX11_spell_7 (by decide) ?_
  obtain ⟨e_8, e2_8⟩ := fb_e hf
  subst e_8; subst e2_8
  exact hr trivial _ _ _ _ hP hS dX11_spell_8
set_option maxRecDepth 20000 in
theorem w_M_X11_spell__0_0 {p : Program} {l : Launch} {e : Env} {s : State} {m : MethodId} {args : Array Value} {below : List Frame} {meth : Method} {c : Code} {A : Nat → Prop} {Q : State → Prop} {D : va_G} {ca : Nat → ClassId} {a : Nat → Nat} {u : fw_S} {r : Int32}  (C : CX (WM ca a) D (tyv ca) p s m args c A prog_13_method_72_code 2 RX11) (hr : True → RX (WM ca a) D p l e rm_M_X11_spell__0 s m args below meth c A prog_13_method_72_code Q .ireturn [.int r] u) {t : fw_S} {x1 : Int32} {H : Heap} {locs : List Loc} {ls : Array Slot} (hf : b_M_X11_spell__0_0  t x1 = some (r, u)) (hP : va_P D classes (WM ca a t) H) (hS : va_S A s.heap H locs) (hl : lv_has ls 2 [(0, .ref (a 0)), (1, .int x1)]) : W p l e rm_M_X11_spell__0 s m args below meth c H locs 0 0 Q (F0 m 0 ls []) := by
  obtain ⟨hx, hb, hml, hown, hts, hN, hK, hD, hA⟩ := id C
  have hf : (fb_b (f_M_X11_isCell t x1) fun v_2 t_1 => (if v_2 = 0 then b_M_X11_spell__0_7 t_1 else b_M_X11_spell__0_9 t_1 x1)) = some (r, u) := hf
  refine lv_iload_n hx hb dX11_spell_0 rfl (lv_at hl 1 rfl) ?_
  obtain ⟨v_2, t_1, g_1, hf⟩ := fb_bs hf
  refine fw_S1 (As := [.int x1]) (rest := []) (n := 1) C (c_M_X11_isCell (l := l) (D := D) (ca := ca) (a := a) g_1) kw_1437 kw_1438 kw_102 kw_1439 hP hS hl rfl rfl (by decide) (by decide +kernel) ⟨Nat.le_of_ble_eq_true rfl, Nat.le_of_ble_eq_true rfl⟩ rfl rfl (Nat.le_of_ble_eq_true rfl) dX11_spell_1 (fun H locs hP hS => ?_)
  refine W.eq (g2 := F0 m 4 ls [.int v_2]) rfl ?_
  refine lv_if_ne (tgt := 9) hx hb dX11_spell_4 (by decide) (fun h_4 => ?_) (fun h_4 => ?_)
  · have hf := fb_f h_4 hf
    exact w_M_X11_spell__0_9 C hr hf hP hS (lv_sub hl [0, 1] rfl)
  · have hf := fb_t h_4 hf
    exact w_M_X11_spell__0_7 C hr hf hP hS (lv_sub hl [] rfl)
set_option maxRecDepth 20000 in
theorem c_M_X11_spell__0 {l : Launch} {D : va_G} {ca : Nat → ClassId} {a : Nat → Nat} {t : fw_S} {x1 : Int32} {u : fw_S} {r : Int32} (hf : f_M_X11_spell__0 t x1 = some (r, u)) : MC (WM ca a) D (tyv ca) l yX11_spell (.code yX11_spell prog_13_method_72_code 2 (some .int) :: lw_gd) rm_M_X11_spell__0 [.ref (a 0), .int x1] (some (.int r)) t u := by
  refine fw_met (okM ca a) (by decide +kernel) rfl rfl (Nat.le_of_ble_eq_true rfl) ?_
  intro p e s m args below meth c A Q ls C hr hk hP hS hl hQ
  exact w_M_X11_spell__0_0 C (fun _ => fw_ri C hr hk hQ) hf hP hS (lv_sub hl [0, 1] rfl)
/-! ReactiveSheetModel.paper(I)I ['m'] -/
abbrev rm_M_X11_paper__0 : Room := { frames := 1, cells := 0, slots := 0, locals := 22 }
def b_M_X11_paper__0_24  (t : fw_S) (z0 : Int32) : Option (Int32 × fw_S) := some (z0, t)
def b_M_X11_paper__0_23  (t : fw_S)  : Option (Int32 × fw_S) := b_M_X11_paper__0_24 t ((-1 : Int32))
def b_M_X11_paper__0_14  (t : fw_S) (x1 : Int32) : Option (Int32 × fw_S) := fb_g (¬ (x1 < 0 ∨ 400 ≤ x1.toNatClampNeg)) (b_M_X11_paper__0_24 t (st_F t 30 x1.toNatClampNeg))
def b_M_X11_paper__0_0  (t : fw_S) (x1 : Int32) : Option (Int32 × fw_S) := fb_b (f_M_X11_isIn t x1 ((0 : Int32)) ((st_I t 6) - ((1 : Int32)))) fun v_2 t_1 => (if v_2 = 0 then b_M_X11_paper__0_23 t_1 else b_M_X11_paper__0_14 t_1 x1)
def f_M_X11_paper__0 (t : fw_S) (x1 : Int32) : Option (Int32 × fw_S) := b_M_X11_paper__0_0 t x1
set_option maxRecDepth 20000 in
theorem w_M_X11_paper__0_24 {p : Program} {l : Launch} {e : Env} {s : State} {m : MethodId} {args : Array Value} {below : List Frame} {meth : Method} {c : Code} {A : Nat → Prop} {Q : State → Prop} {D : va_G} {ca : Nat → ClassId} {a : Nat → Nat} {u : fw_S} {r : Int32}  (C : CX (WM ca a) D (tyv ca) p s m args c A prog_13_method_73_code 2 RX11) (hr : True → RX (WM ca a) D p l e rm_M_X11_paper__0 s m args below meth c A prog_13_method_73_code Q .ireturn [.int r] u) {t : fw_S} {z0 : Int32} {H : Heap} {locs : List Loc} {ls : Array Slot} (hf : b_M_X11_paper__0_24  t z0 = some (r, u)) (hP : va_P D classes (WM ca a t) H) (hS : va_S A s.heap H locs) (hl : lv_has ls 2 []) : W p l e rm_M_X11_paper__0 s m args below meth c H locs 0 0 Q (F0 m 24 ls [.int z0]) := by
  obtain ⟨hx, hb, hml, hown, hts, hN, hK, hD, hA⟩ := id C
  have hf : (some (z0, t)) = some (r, u) := hf
  obtain ⟨e_24, e2_24⟩ := fb_e hf
  subst e_24; subst e2_24
  exact hr trivial _ _ _ _ hP hS dX11_paper_24
set_option maxRecDepth 20000 in
theorem w_M_X11_paper__0_23 {p : Program} {l : Launch} {e : Env} {s : State} {m : MethodId} {args : Array Value} {below : List Frame} {meth : Method} {c : Code} {A : Nat → Prop} {Q : State → Prop} {D : va_G} {ca : Nat → ClassId} {a : Nat → Nat} {u : fw_S} {r : Int32}  (C : CX (WM ca a) D (tyv ca) p s m args c A prog_13_method_73_code 2 RX11) (hr : True → RX (WM ca a) D p l e rm_M_X11_paper__0 s m args below meth c A prog_13_method_73_code Q .ireturn [.int r] u) {t : fw_S}  {H : Heap} {locs : List Loc} {ls : Array Slot} (hf : b_M_X11_paper__0_23  t  = some (r, u)) (hP : va_P D classes (WM ca a t) H) (hS : va_S A s.heap H locs) (hl : lv_has ls 2 []) : W p l e rm_M_X11_paper__0 s m args below meth c H locs 0 0 Q (F0 m 23 ls []) := by
  obtain ⟨hx, hb, hml, hown, hts, hN, hK, hD, hA⟩ := id C
  have hf : (b_M_X11_paper__0_24 t ((-1 : Int32))) = some (r, u) := hf
  refine lv_iconst (v := (-1)) hx hb dX11_paper_23 (by decide) ?_
  exact w_M_X11_paper__0_24 C hr hf hP hS (lv_sub hl [] rfl)
set_option maxRecDepth 20000 in
theorem w_M_X11_paper__0_14 {p : Program} {l : Launch} {e : Env} {s : State} {m : MethodId} {args : Array Value} {below : List Frame} {meth : Method} {c : Code} {A : Nat → Prop} {Q : State → Prop} {D : va_G} {ca : Nat → ClassId} {a : Nat → Nat} {u : fw_S} {r : Int32}  (C : CX (WM ca a) D (tyv ca) p s m args c A prog_13_method_73_code 2 RX11) (hr : True → RX (WM ca a) D p l e rm_M_X11_paper__0 s m args below meth c A prog_13_method_73_code Q .ireturn [.int r] u) {t : fw_S} {x1 : Int32} {H : Heap} {locs : List Loc} {ls : Array Slot} (hf : b_M_X11_paper__0_14  t x1 = some (r, u)) (hP : va_P D classes (WM ca a t) H) (hS : va_S A s.heap H locs) (hl : lv_has ls 2 [(0, .ref (a 0)), (1, .int x1)]) : W p l e rm_M_X11_paper__0 s m args below meth c H locs 0 0 Q (F0 m 14 ls []) := by
  obtain ⟨hx, hb, hml, hown, hts, hN, hK, hD, hA⟩ := id C
  have hf : (fb_g (¬ (x1 < 0 ∨ 400 ≤ x1.toNatClampNeg)) (b_M_X11_paper__0_24 t (st_F t 30 x1.toNatClampNeg))) = some (r, u) := hf
  refine lv_aload_n hx hb dX11_paper_14 rfl (lv_at hl 0 rfl) ?_
  refine va_get (D := D) (ci := 11) (v := .ref (a 35)) (C := RX11) (T := TX11) (N := 76) hx hb hts inX11 hown hK hP 0 (heM_0 ca a t) rfl 39 (by decide) (hts _ kw_1231) (fun _ h9 => h9) rfl dX11_paper_15 ?_
  refine lv_iload_n hx hb dX11_paper_18 rfl (lv_at hl 1 rfl) ?_
  obtain ⟨h_19, hf⟩ := fb_if hf
  refine va_iald hx hb hK hP 35 0 (haM_35 ca a t) rfl h_19 dX11_paper_19 ?_
  refine lv_goto (tgt := 24) hx hb dX11_paper_20 (by decide) ?_
  exact w_M_X11_paper__0_24 C hr hf hP hS (lv_sub hl [] rfl)
set_option maxRecDepth 20000 in
theorem w_M_X11_paper__0_0 {p : Program} {l : Launch} {e : Env} {s : State} {m : MethodId} {args : Array Value} {below : List Frame} {meth : Method} {c : Code} {A : Nat → Prop} {Q : State → Prop} {D : va_G} {ca : Nat → ClassId} {a : Nat → Nat} {u : fw_S} {r : Int32}  (C : CX (WM ca a) D (tyv ca) p s m args c A prog_13_method_73_code 2 RX11) (hr : True → RX (WM ca a) D p l e rm_M_X11_paper__0 s m args below meth c A prog_13_method_73_code Q .ireturn [.int r] u) {t : fw_S} {x1 : Int32} {H : Heap} {locs : List Loc} {ls : Array Slot} (hf : b_M_X11_paper__0_0  t x1 = some (r, u)) (hP : va_P D classes (WM ca a t) H) (hS : va_S A s.heap H locs) (hl : lv_has ls 2 [(0, .ref (a 0)), (1, .int x1)]) : W p l e rm_M_X11_paper__0 s m args below meth c H locs 0 0 Q (F0 m 0 ls []) := by
  obtain ⟨hx, hb, hml, hown, hts, hN, hK, hD, hA⟩ := id C
  have hf : (fb_b (f_M_X11_isIn t x1 ((0 : Int32)) ((st_I t 6) - ((1 : Int32)))) fun v_2 t_1 => (if v_2 = 0 then b_M_X11_paper__0_23 t_1 else b_M_X11_paper__0_14 t_1 x1)) = some (r, u) := hf
  refine lv_iload_n hx hb dX11_paper_0 rfl (lv_at hl 1 rfl) ?_
  refine lv_iconst (v := 0) hx hb dX11_paper_1 (by decide) ?_
  refine lv_aload_n hx hb dX11_paper_2 rfl (lv_at hl 0 rfl) ?_
  refine va_get (D := D) (ci := 11) (v := .int (st_I t 6)) (C := RX11) (T := TX11) (N := 76) hx hb hts inX11 hown hK hP 0 (heM_0 ca a t) rfl 41 (by decide) (hts _ kw_1233) (fun _ h9 => h9) rfl dX11_paper_3 ?_
  refine lv_iconst (v := 1) hx hb dX11_paper_6 (by decide) ?_
  refine lv_isub hx hb dX11_paper_7 ?_
  obtain ⟨v_2, t_1, g_8, hf⟩ := fb_bs hf
  refine fw_S1 (As := [.int x1, .int ((0 : Int32)), .int ((st_I t 6) - ((1 : Int32)))]) (rest := []) (n := 3) C (c_M_X11_isIn (l := l) (D := D) (ca := ca) (a := a) g_8) kw_1426 kw_1427 kw_102 kw_1428 hP hS hl rfl rfl (by decide) (by decide +kernel) ⟨Nat.le_of_ble_eq_true rfl, Nat.le_of_ble_eq_true rfl⟩ rfl rfl (Nat.le_of_ble_eq_true rfl) dX11_paper_8 (fun H locs hP hS => ?_)
  refine W.eq (g2 := F0 m 11 ls [.int v_2]) rfl ?_
  refine lv_if_eq (tgt := 23) hx hb dX11_paper_11 (by decide) (fun h_11 => ?_) (fun h_11 => ?_)
  · have hf := fb_t h_11 hf
    exact w_M_X11_paper__0_23 C hr hf hP hS (lv_sub hl [] rfl)
  · have hf := fb_f h_11 hf
    exact w_M_X11_paper__0_14 C hr hf hP hS (lv_sub hl [0, 1] rfl)
set_option maxRecDepth 20000 in
theorem c_M_X11_paper__0 {l : Launch} {D : va_G} {ca : Nat → ClassId} {a : Nat → Nat} {t : fw_S} {x1 : Int32} {u : fw_S} {r : Int32} (hf : f_M_X11_paper__0 t x1 = some (r, u)) : MC (WM ca a) D (tyv ca) l yX11_paper (.code yX11_paper prog_13_method_73_code 2 (some .int) :: lw_gd) rm_M_X11_paper__0 [.ref (a 0), .int x1] (some (.int r)) t u := by
  refine fw_met (okM ca a) (by decide +kernel) rfl rfl (Nat.le_of_ble_eq_true rfl) ?_
  intro p e s m args below meth c A Q ls C hr hk hP hS hl hQ
  exact w_M_X11_paper__0_0 C (fun _ => fw_ri C hr hk hQ) hf hP hS (lv_sub hl [0, 1] rfl)
/-! ReactiveSheetModel.watch(IIJ)I ['m'] -/
abbrev rm_M_X11_watch__0 : Room := { frames := 2, cells := 0, slots := 0, locals := 42 }
def b_M_X11_watch__0_16  (t : fw_S)  : Option (Int32 × fw_S) := some ((-1 : Int32), t)
def b_M_X11_watch__0_30  (t : fw_S) (x1 : Int32) (x2 : Int32) (y3 : Int64) : Option (Int32 × fw_S) := fb_g (¬ ((st_I t 12) < 0 ∨ 8 ≤ (st_I t 12).toNatClampNeg)) (fb_l (up_F t 31 (upd (st_F t 31) (st_I t 12).toNatClampNeg x1)) fun t_1 => (fb_g (¬ ((st_I t_1 12) < 0 ∨ 8 ≤ (st_I t_1 12).toNatClampNeg)) (fb_l (up_F t_1 32 (upd (st_F t_1 32) (st_I t_1 12).toNatClampNeg x2)) fun t_2 => (fb_g (¬ ((st_I t_2 12) < 0 ∨ 8 ≤ (st_I t_2 12).toNatClampNeg)) (fb_l (up_G t_2 4 (vp_updL (st_G t_2 4) (st_I t_2 12).toNatClampNeg y3)) fun t_3 => (fb_g (¬ ((st_I t_3 12) < 0 ∨ 8 ≤ (st_I t_3 12).toNatClampNeg)) (fb_l (up_F t_3 36 (upd (st_F t_3 36) (st_I t_3 12).toNatClampNeg (vp_nar .boolean ((0 : Int32))))) fun t_4 => (fb_l (up_I t_4 12 ((st_I t_4 12) + ((1 : Int32)))) fun t_5 => (some ((st_I t_5 12) - ((1 : Int32)), t_5))))))))))
def b_M_X11_watch__0_27  (t : fw_S)  : Option (Int32 × fw_S) := some ((-4 : Int32), t)
def b_M_X11_watch__0_18  (t : fw_S) (x1 : Int32) (x2 : Int32) (y3 : Int64) : Option (Int32 × fw_S) := if (st_I t 12) = ((8 : Int32)) then b_M_X11_watch__0_27 t else b_M_X11_watch__0_30 t x1 x2 y3
def b_M_X11_watch__0_7  (t : fw_S) (x1 : Int32) (x2 : Int32) (y3 : Int64) : Option (Int32 × fw_S) := fb_b (f_M_X11_isIn t x2 ((0 : Int32)) ((3 : Int32))) fun v_2 t_1 => (if v_2 = 0 then b_M_X11_watch__0_16 t_1 else b_M_X11_watch__0_18 t_1 x1 x2 y3)
def b_M_X11_watch__0_0  (t : fw_S) (x1 : Int32) (x2 : Int32) (y3 : Int64) : Option (Int32 × fw_S) := fb_b (f_M_X11_isCell t x1) fun v_2 t_1 => (if v_2 = 0 then b_M_X11_watch__0_16 t_1 else b_M_X11_watch__0_7 t_1 x1 x2 y3)
def f_M_X11_watch__0 (t : fw_S) (x1 : Int32) (x2 : Int32) (y3 : Int64) : Option (Int32 × fw_S) := b_M_X11_watch__0_0 t x1 x2 y3
set_option maxRecDepth 20000 in
theorem w_M_X11_watch__0_16 {p : Program} {l : Launch} {e : Env} {s : State} {m : MethodId} {args : Array Value} {below : List Frame} {meth : Method} {c : Code} {A : Nat → Prop} {Q : State → Prop} {D : va_G} {ca : Nat → ClassId} {a : Nat → Nat} {u : fw_S} {r : Int32}  (C : CX (WM ca a) D (tyv ca) p s m args c A prog_13_method_74_code 5 RX11) (hr : True → RX (WM ca a) D p l e rm_M_X11_watch__0 s m args below meth c A prog_13_method_74_code Q .ireturn [.int r] u) {t : fw_S}  {H : Heap} {locs : List Loc} {ls : Array Slot} (hf : b_M_X11_watch__0_16  t  = some (r, u)) (hP : va_P D classes (WM ca a t) H) (hS : va_S A s.heap H locs) (hl : lv_has ls 5 []) : W p l e rm_M_X11_watch__0 s m args below meth c H locs 0 0 Q (F0 m 16 ls []) := by
  obtain ⟨hx, hb, hml, hown, hts, hN, hK, hD, hA⟩ := id C
  have hf : (some ((-1 : Int32), t)) = some (r, u) := hf
  refine lv_iconst (v := (-1)) hx hb dX11_watch_16 (by decide) ?_
  obtain ⟨e_17, e2_17⟩ := fb_e hf
  subst e_17; subst e2_17
  exact hr trivial _ _ _ _ hP hS dX11_watch_17
set_option maxRecDepth 20000 in
theorem w_M_X11_watch__0_30 {p : Program} {l : Launch} {e : Env} {s : State} {m : MethodId} {args : Array Value} {below : List Frame} {meth : Method} {c : Code} {A : Nat → Prop} {Q : State → Prop} {D : va_G} {ca : Nat → ClassId} {a : Nat → Nat} {u : fw_S} {r : Int32}  (C : CX (WM ca a) D (tyv ca) p s m args c A prog_13_method_74_code 5 RX11) (hr : True → RX (WM ca a) D p l e rm_M_X11_watch__0 s m args below meth c A prog_13_method_74_code Q .ireturn [.int r] u) {t : fw_S} {x1 : Int32} {x2 : Int32} {y3 : Int64} {H : Heap} {locs : List Loc} {ls : Array Slot} (hf : b_M_X11_watch__0_30  t x1 x2 y3 = some (r, u)) (hP : va_P D classes (WM ca a t) H) (hS : va_S A s.heap H locs) (hl : lv_has ls 5 [(0, .ref (a 0)), (1, .int x1), (2, .int x2), (3, .long y3)]) : W p l e rm_M_X11_watch__0 s m args below meth c H locs 0 0 Q (F0 m 30 ls []) := by
  obtain ⟨hx, hb, hml, hown, hts, hN, hK, hD, hA⟩ := id C
  have hf : (fb_g (¬ ((st_I t 12) < 0 ∨ 8 ≤ (st_I t 12).toNatClampNeg)) (fb_l (up_F t 31 (upd (st_F t 31) (st_I t 12).toNatClampNeg x1)) fun t_1 => (fb_g (¬ ((st_I t_1 12) < 0 ∨ 8 ≤ (st_I t_1 12).toNatClampNeg)) (fb_l (up_F t_1 32 (upd (st_F t_1 32) (st_I t_1 12).toNatClampNeg x2)) fun t_2 => (fb_g (¬ ((st_I t_2 12) < 0 ∨ 8 ≤ (st_I t_2 12).toNatClampNeg)) (fb_l (up_G t_2 4 (vp_updL (st_G t_2 4) (st_I t_2 12).toNatClampNeg y3)) fun t_3 => (fb_g (¬ ((st_I t_3 12) < 0 ∨ 8 ≤ (st_I t_3 12).toNatClampNeg)) (fb_l (up_F t_3 36 (upd (st_F t_3 36) (st_I t_3 12).toNatClampNeg (vp_nar .boolean ((0 : Int32))))) fun t_4 => (fb_l (up_I t_4 12 ((st_I t_4 12) + ((1 : Int32)))) fun t_5 => (some ((st_I t_5 12) - ((1 : Int32)), t_5))))))))))) = some (r, u) := hf
  refine lv_aload_n hx hb dX11_watch_30 rfl (lv_at hl 0 rfl) ?_
  refine va_get (D := D) (ci := 11) (v := .ref (a 36)) (C := RX11) (T := TX11) (N := 76) hx hb hts inX11 hown hK hP 0 (heM_0 ca a t) rfl 53 (by decide) (hts _ kw_1245) (fun _ h9 => h9) rfl dX11_watch_31 ?_
  refine lv_aload_n hx hb dX11_watch_34 rfl (lv_at hl 0 rfl) ?_
  refine va_get (D := D) (ci := 11) (v := .int (st_I t 12)) (C := RX11) (T := TX11) (N := 76) hx hb hts inX11 hown hK hP 0 (heM_0 ca a t) rfl 47 (by decide) (hts _ kw_1239) (fun _ h9 => h9) rfl dX11_watch_35 ?_
  refine lv_iload_n hx hb dX11_watch_38 rfl (lv_at hl 1 rfl) ?_
  obtain ⟨h_39, hf⟩ := fb_if hf
  refine va_iast hx hb hK hP (hD t) hS 36 0 (haM_36 ca a t) rfl h_39 dX11_watch_39 (fun H locs hP _ hS => ?_)
  rw [saM_36] at hP
  obtain ⟨t_1, e_39, hf⟩ := fb_ls hf
  rw [← e_39] at hP
  refine lv_aload_n hx hb dX11_watch_40 rfl (lv_at hl 0 rfl) ?_
  refine va_get (D := D) (ci := 11) (v := .ref (a 37)) (C := RX11) (T := TX11) (N := 76) hx hb hts inX11 hown hK hP 0 (heM_0 ca a t_1) rfl 54 (by decide) (hts _ kw_1246) (fun _ h9 => h9) rfl dX11_watch_41 ?_
  refine lv_aload_n hx hb dX11_watch_44 rfl (lv_at hl 0 rfl) ?_
  refine va_get (D := D) (ci := 11) (v := .int (st_I t_1 12)) (C := RX11) (T := TX11) (N := 76) hx hb hts inX11 hown hK hP 0 (heM_0 ca a t_1) rfl 47 (by decide) (hts _ kw_1239) (fun _ h9 => h9) rfl dX11_watch_45 ?_
  refine lv_iload_n hx hb dX11_watch_48 rfl (lv_at hl 2 rfl) ?_
  obtain ⟨h_49, hf⟩ := fb_if hf
  refine va_iast hx hb hK hP (hD t_1) hS 37 0 (haM_37 ca a t_1) rfl h_49 dX11_watch_49 (fun H locs hP _ hS => ?_)
  rw [saM_37] at hP
  obtain ⟨t_2, e_49, hf⟩ := fb_ls hf
  rw [← e_49] at hP
  refine lv_aload_n hx hb dX11_watch_50 rfl (lv_at hl 0 rfl) ?_
  refine va_get (D := D) (ci := 11) (v := .ref (a 42)) (C := RX11) (T := TX11) (N := 76) hx hb hts inX11 hown hK hP 0 (heM_0 ca a t_2) rfl 59 (by decide) (hts _ kw_1251) (fun _ h9 => h9) rfl dX11_watch_51 ?_
  refine lv_aload_n hx hb dX11_watch_54 rfl (lv_at hl 0 rfl) ?_
  refine va_get (D := D) (ci := 11) (v := .int (st_I t_2 12)) (C := RX11) (T := TX11) (N := 76) hx hb hts inX11 hown hK hP 0 (heM_0 ca a t_2) rfl 47 (by decide) (hts _ kw_1239) (fun _ h9 => h9) rfl dX11_watch_55 ?_
  refine lv_lload_n hx hb dX11_watch_58 rfl (lv_at hl 3 rfl) ?_
  obtain ⟨h_59, hf⟩ := fb_if hf
  refine va_last hx hb hK hP (hD t_2) hS 42 1 (haM_42 ca a t_2) rfl h_59 dX11_watch_59 (fun H locs hP _ hS => ?_)
  rw [saM_42] at hP
  obtain ⟨t_3, e_59, hf⟩ := fb_ls hf
  rw [← e_59] at hP
  refine lv_aload_n hx hb dX11_watch_60 rfl (lv_at hl 0 rfl) ?_
  refine va_get (D := D) (ci := 11) (v := .ref (a 41)) (C := RX11) (T := TX11) (N := 76) hx hb hts inX11 hown hK hP 0 (heM_0 ca a t_3) rfl 58 (by decide) (hts _ kw_1250) (fun _ h9 => h9) rfl dX11_watch_61 ?_
  refine lv_aload_n hx hb dX11_watch_64 rfl (lv_at hl 0 rfl) ?_
  refine va_get (D := D) (ci := 11) (v := .int (st_I t_3 12)) (C := RX11) (T := TX11) (N := 76) hx hb hts inX11 hown hK hP 0 (heM_0 ca a t_3) rfl 47 (by decide) (hts _ kw_1239) (fun _ h9 => h9) rfl dX11_watch_65 ?_
  refine lv_iconst (v := 0) hx hb dX11_watch_68 (by decide) ?_
  obtain ⟨h_69, hf⟩ := fb_if hf
  refine va_zast hx hb hK hP (hD t_3) hS 41 2 (haM_41 ca a t_3) rfl h_69 dX11_watch_69 (fun H locs hP _ hS => ?_)
  rw [saM_41] at hP
  obtain ⟨t_4, e_69, hf⟩ := fb_ls hf
  rw [← e_69] at hP
  refine lv_aload_n hx hb dX11_watch_70 rfl (lv_at hl 0 rfl) ?_
  refine lv_dup hx hb dX11_watch_71 rfl ?_
  refine va_get (D := D) (ci := 11) (v := .int (st_I t_4 12)) (C := RX11) (T := TX11) (N := 76) hx hb hts inX11 hown hK hP 0 (heM_0 ca a t_4) rfl 47 (by decide) (hts _ kw_1239) (fun _ h9 => h9) rfl dX11_watch_72 ?_
  refine lv_iconst (v := 1) hx hb dX11_watch_75 (by decide) ?_
  refine lv_iadd hx hb dX11_watch_76 ?_
  refine va_put (D := D) (ci := 11) (v := .int ((st_I t_4 12) + ((1 : Int32)))) (ty := .int) (C := RX11) (T := TX11) (N := 76) hx hb hts inX11 tyX11 tyX11_ok nmX11 hown hK hP (hD t_4) hS 0 (heM_0 ca a t_4) rfl 47 (by decide) (hts _ kw_1239) (fun _ h9 => h9) rfl (by decide +kernel) rfl rfl (Nat.le_of_ble_eq_true rfl) dX11_watch_77 (fun H locs hP _ hS => ?_)
  rw [suM_0_47] at hP
  obtain ⟨t_5, e_77, hf⟩ := fb_ls hf
  rw [← e_77] at hP
  refine lv_aload_n hx hb dX11_watch_80 rfl (lv_at hl 0 rfl) ?_
  refine va_get (D := D) (ci := 11) (v := .int (st_I t_5 12)) (C := RX11) (T := TX11) (N := 76) hx hb hts inX11 hown hK hP 0 (heM_0 ca a t_5) rfl 47 (by decide) (hts _ kw_1239) (fun _ h9 => h9) rfl dX11_watch_81 ?_
  refine lv_iconst (v := 1) hx hb dX11_watch_84 (by decide) ?_
  refine lv_isub hx hb dX11_watch_85 ?_
  obtain ⟨e_86, e2_86⟩ := fb_e hf
  subst e_86; subst e2_86
  exact hr trivial _ _ _ _ hP hS dX11_watch_86
set_option maxRecDepth 20000 in
theorem w_M_X11_watch__0_27 {p : Program} {l : Launch} {e : Env} {s : State} {m : MethodId} {args : Array Value} {below : List Frame} {meth : Method} {c : Code} {A : Nat → Prop} {Q : State → Prop} {D : va_G} {ca : Nat → ClassId} {a : Nat → Nat} {u : fw_S} {r : Int32}  (C : CX (WM ca a) D (tyv ca) p s m args c A prog_13_method_74_code 5 RX11) (hr : True → RX (WM ca a) D p l e rm_M_X11_watch__0 s m args below meth c A prog_13_method_74_code Q .ireturn [.int r] u) {t : fw_S}  {H : Heap} {locs : List Loc} {ls : Array Slot} (hf : b_M_X11_watch__0_27  t  = some (r, u)) (hP : va_P D classes (WM ca a t) H) (hS : va_S A s.heap H locs) (hl : lv_has ls 5 []) : W p l e rm_M_X11_watch__0 s m args below meth c H locs 0 0 Q (F0 m 27 ls []) := by
  obtain ⟨hx, hb, hml, hown, hts, hN, hK, hD, hA⟩ := id C
  have hf : (some ((-4 : Int32), t)) = some (r, u) := hf
  refine lv_bipush (v := (-4)) hx hb dX11_watch_27 (by decide) ?_
  obtain ⟨e_29, e2_29⟩ := fb_e hf
  subst e_29; subst e2_29
  exact hr trivial _ _ _ _ hP hS dX11_watch_29
set_option maxRecDepth 20000 in
theorem w_M_X11_watch__0_18 {p : Program} {l : Launch} {e : Env} {s : State} {m : MethodId} {args : Array Value} {below : List Frame} {meth : Method} {c : Code} {A : Nat → Prop} {Q : State → Prop} {D : va_G} {ca : Nat → ClassId} {a : Nat → Nat} {u : fw_S} {r : Int32}  (C : CX (WM ca a) D (tyv ca) p s m args c A prog_13_method_74_code 5 RX11) (hr : True → RX (WM ca a) D p l e rm_M_X11_watch__0 s m args below meth c A prog_13_method_74_code Q .ireturn [.int r] u) {t : fw_S} {x1 : Int32} {x2 : Int32} {y3 : Int64} {H : Heap} {locs : List Loc} {ls : Array Slot} (hf : b_M_X11_watch__0_18  t x1 x2 y3 = some (r, u)) (hP : va_P D classes (WM ca a t) H) (hS : va_S A s.heap H locs) (hl : lv_has ls 5 [(0, .ref (a 0)), (1, .int x1), (2, .int x2), (3, .long y3)]) : W p l e rm_M_X11_watch__0 s m args below meth c H locs 0 0 Q (F0 m 18 ls []) := by
  obtain ⟨hx, hb, hml, hown, hts, hN, hK, hD, hA⟩ := id C
  have hf : (if (st_I t 12) = ((8 : Int32)) then b_M_X11_watch__0_27 t else b_M_X11_watch__0_30 t x1 x2 y3) = some (r, u) := hf
  refine lv_aload_n hx hb dX11_watch_18 rfl (lv_at hl 0 rfl) ?_
  refine va_get (D := D) (ci := 11) (v := .int (st_I t 12)) (C := RX11) (T := TX11) (N := 76) hx hb hts inX11 hown hK hP 0 (heM_0 ca a t) rfl 47 (by decide) (hts _ kw_1239) (fun _ h9 => h9) rfl dX11_watch_19 ?_
  refine lv_bipush (v := 8) hx hb dX11_watch_22 (by decide) ?_
  refine lv_icmp_ne (tgt := 30) hx hb dX11_watch_24 (by decide) (fun h_24 => ?_) (fun h_24 => ?_)
  · have hf := fb_f h_24 hf
    exact w_M_X11_watch__0_30 C hr hf hP hS (lv_sub hl [0, 1, 2, 3] rfl)
  · have hf := fb_t h_24 hf
    exact w_M_X11_watch__0_27 C hr hf hP hS (lv_sub hl [] rfl)
set_option maxRecDepth 20000 in
theorem w_M_X11_watch__0_7 {p : Program} {l : Launch} {e : Env} {s : State} {m : MethodId} {args : Array Value} {below : List Frame} {meth : Method} {c : Code} {A : Nat → Prop} {Q : State → Prop} {D : va_G} {ca : Nat → ClassId} {a : Nat → Nat} {u : fw_S} {r : Int32}  (C : CX (WM ca a) D (tyv ca) p s m args c A prog_13_method_74_code 5 RX11) (hr : True → RX (WM ca a) D p l e rm_M_X11_watch__0 s m args below meth c A prog_13_method_74_code Q .ireturn [.int r] u) {t : fw_S} {x1 : Int32} {x2 : Int32} {y3 : Int64} {H : Heap} {locs : List Loc} {ls : Array Slot} (hf : b_M_X11_watch__0_7  t x1 x2 y3 = some (r, u)) (hP : va_P D classes (WM ca a t) H) (hS : va_S A s.heap H locs) (hl : lv_has ls 5 [(0, .ref (a 0)), (1, .int x1), (2, .int x2), (3, .long y3)]) : W p l e rm_M_X11_watch__0 s m args below meth c H locs 0 0 Q (F0 m 7 ls []) := by
  obtain ⟨hx, hb, hml, hown, hts, hN, hK, hD, hA⟩ := id C
  have hf : (fb_b (f_M_X11_isIn t x2 ((0 : Int32)) ((3 : Int32))) fun v_2 t_1 => (if v_2 = 0 then b_M_X11_watch__0_16 t_1 else b_M_X11_watch__0_18 t_1 x1 x2 y3)) = some (r, u) := hf
  refine lv_iload_n hx hb dX11_watch_7 rfl (lv_at hl 2 rfl) ?_
  refine lv_iconst (v := 0) hx hb dX11_watch_8 (by decide) ?_
  refine lv_iconst (v := 3) hx hb dX11_watch_9 (by decide) ?_
  obtain ⟨v_2, t_1, g_10, hf⟩ := fb_bs hf
  refine fw_S1 (As := [.int x2, .int ((0 : Int32)), .int ((3 : Int32))]) (rest := []) (n := 3) C (c_M_X11_isIn (l := l) (D := D) (ca := ca) (a := a) g_10) kw_1426 kw_1427 kw_102 kw_1428 hP hS hl rfl rfl (by decide) (by decide +kernel) ⟨Nat.le_of_ble_eq_true rfl, Nat.le_of_ble_eq_true rfl⟩ rfl rfl (Nat.le_of_ble_eq_true rfl) dX11_watch_10 (fun H locs hP hS => ?_)
  refine W.eq (g2 := F0 m 13 ls [.int v_2]) rfl ?_
  refine lv_if_ne (tgt := 18) hx hb dX11_watch_13 (by decide) (fun h_13 => ?_) (fun h_13 => ?_)
  · have hf := fb_f h_13 hf
    exact w_M_X11_watch__0_18 C hr hf hP hS (lv_sub hl [0, 1, 2, 3] rfl)
  · have hf := fb_t h_13 hf
    exact w_M_X11_watch__0_16 C hr hf hP hS (lv_sub hl [] rfl)
set_option maxRecDepth 20000 in
theorem w_M_X11_watch__0_0 {p : Program} {l : Launch} {e : Env} {s : State} {m : MethodId} {args : Array Value} {below : List Frame} {meth : Method} {c : Code} {A : Nat → Prop} {Q : State → Prop} {D : va_G} {ca : Nat → ClassId} {a : Nat → Nat} {u : fw_S} {r : Int32}  (C : CX (WM ca a) D (tyv ca) p s m args c A prog_13_method_74_code 5 RX11) (hr : True → RX (WM ca a) D p l e rm_M_X11_watch__0 s m args below meth c A prog_13_method_74_code Q .ireturn [.int r] u) {t : fw_S} {x1 : Int32} {x2 : Int32} {y3 : Int64} {H : Heap} {locs : List Loc} {ls : Array Slot} (hf : b_M_X11_watch__0_0  t x1 x2 y3 = some (r, u)) (hP : va_P D classes (WM ca a t) H) (hS : va_S A s.heap H locs) (hl : lv_has ls 5 [(0, .ref (a 0)), (1, .int x1), (2, .int x2), (3, .long y3)]) : W p l e rm_M_X11_watch__0 s m args below meth c H locs 0 0 Q (F0 m 0 ls []) := by
  obtain ⟨hx, hb, hml, hown, hts, hN, hK, hD, hA⟩ := id C
  have hf : (fb_b (f_M_X11_isCell t x1) fun v_2 t_1 => (if v_2 = 0 then b_M_X11_watch__0_16 t_1 else b_M_X11_watch__0_7 t_1 x1 x2 y3)) = some (r, u) := hf
  refine lv_iload_n hx hb dX11_watch_0 rfl (lv_at hl 1 rfl) ?_
  obtain ⟨v_2, t_1, g_1, hf⟩ := fb_bs hf
  refine fw_S1 (As := [.int x1]) (rest := []) (n := 1) C (c_M_X11_isCell (l := l) (D := D) (ca := ca) (a := a) g_1) kw_1437 kw_1438 kw_102 kw_1439 hP hS hl rfl rfl (by decide) (by decide +kernel) ⟨Nat.le_of_ble_eq_true rfl, Nat.le_of_ble_eq_true rfl⟩ rfl rfl (Nat.le_of_ble_eq_true rfl) dX11_watch_1 (fun H locs hP hS => ?_)
  refine W.eq (g2 := F0 m 4 ls [.int v_2]) rfl ?_
  refine lv_if_eq (tgt := 16) hx hb dX11_watch_4 (by decide) (fun h_4 => ?_) (fun h_4 => ?_)
  · have hf := fb_t h_4 hf
    exact w_M_X11_watch__0_16 C hr hf hP hS (lv_sub hl [] rfl)
  · have hf := fb_f h_4 hf
    exact w_M_X11_watch__0_7 C hr hf hP hS (lv_sub hl [0, 1, 2, 3] rfl)
set_option maxRecDepth 20000 in
theorem c_M_X11_watch__0 {l : Launch} {D : va_G} {ca : Nat → ClassId} {a : Nat → Nat} {t : fw_S} {x1 : Int32} {x2 : Int32} {y3 : Int64} {u : fw_S} {r : Int32} (hf : f_M_X11_watch__0 t x1 x2 y3 = some (r, u)) : MC (WM ca a) D (tyv ca) l yX11_watch (.code yX11_watch prog_13_method_74_code 5 (some .int) :: lw_gd) rm_M_X11_watch__0 [.ref (a 0), .int x1, .int x2, .long y3] (some (.int r)) t u := by
  refine fw_met (okM ca a) (by decide +kernel) rfl rfl (Nat.le_of_ble_eq_true rfl) ?_
  intro p e s m args below meth c A Q ls C hr hk hP hS hl hQ
  exact w_M_X11_watch__0_0 C (fun _ => fw_ri C hr hk hQ) hf hP hS (lv_sub hl [0, 1, 2, 3] rfl)
