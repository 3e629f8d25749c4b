theorem dJ13_bitCount_95d88_0 : decode prog_15_method_50_code 0 = .ok (.lload_n 0, 1) := by decide +kernel
theorem dJ13_bitCount_95d88_1 : decode prog_15_method_50_code 1 = .ok (.lload_n 0, 1) := by decide +kernel
theorem dJ13_bitCount_95d88_2 : decode prog_15_method_50_code 2 = .ok (.iconst 1, 1) := by decide +kernel
theorem dJ13_bitCount_95d88_3 : decode prog_15_method_50_code 3 = .ok (.lushr, 1) := by decide +kernel
theorem dJ13_bitCount_95d88_4 : decode prog_15_method_50_code 4 = .ok (.ldc2_w 314, 3) := by decide +kernel
theorem dJ13_bitCount_95d88_7 : decode prog_15_method_50_code 7 = .ok (.land, 1) := by decide +kernel
theorem dJ13_bitCount_95d88_8 : decode prog_15_method_50_code 8 = .ok (.lsub, 1) := by decide +kernel
theorem dJ13_bitCount_95d88_9 : decode prog_15_method_50_code 9 = .ok (.lstore_n 0, 1) := by decide +kernel
theorem dJ13_bitCount_95d88_10 : decode prog_15_method_50_code 10 = .ok (.lload_n 0, 1) := by decide +kernel
theorem dJ13_bitCount_95d88_11 : decode prog_15_method_50_code 11 = .ok (.ldc2_w 316, 3) := by decide +kernel
theorem dJ13_bitCount_95d88_14 : decode prog_15_method_50_code 14 = .ok (.land, 1) := by decide +kernel
theorem dJ13_bitCount_95d88_15 : decode prog_15_method_50_code 15 = .ok (.lload_n 0, 1) := by decide +kernel
theorem dJ13_bitCount_95d88_16 : decode prog_15_method_50_code 16 = .ok (.iconst 2, 1) := by decide +kernel
theorem dJ13_bitCount_95d88_17 : decode prog_15_method_50_code 17 = .ok (.lushr, 1) := by decide +kernel
theorem dJ13_bitCount_95d88_18 : decode prog_15_method_50_code 18 = .ok (.ldc2_w 316, 3) := by decide +kernel
theorem dJ13_bitCount_95d88_21 : decode prog_15_method_50_code 21 = .ok (.land, 1) := by decide +kernel
theorem dJ13_bitCount_95d88_22 : decode prog_15_method_50_code 22 = .ok (.ladd, 1) := by decide +kernel
theorem dJ13_bitCount_95d88_23 : decode prog_15_method_50_code 23 = .ok (.lstore_n 0, 1) := by decide +kernel
theorem dJ13_bitCount_95d88_24 : decode prog_15_method_50_code 24 = .ok (.lload_n 0, 1) := by decide +kernel
theorem dJ13_bitCount_95d88_25 : decode prog_15_method_50_code 25 = .ok (.lload_n 0, 1) := by decide +kernel
theorem dJ13_bitCount_95d88_26 : decode prog_15_method_50_code 26 = .ok (.iconst 4, 1) := by decide +kernel
theorem dJ13_bitCount_95d88_27 : decode prog_15_method_50_code 27 = .ok (.lushr, 1) := by decide +kernel
theorem dJ13_bitCount_95d88_28 : decode prog_15_method_50_code 28 = .ok (.ladd, 1) := by decide +kernel
theorem dJ13_bitCount_95d88_29 : decode prog_15_method_50_code 29 = .ok (.ldc2_w 318, 3) := by decide +kernel
theorem dJ13_bitCount_95d88_32 : decode prog_15_method_50_code 32 = .ok (.land, 1) := by decide +kernel
theorem dJ13_bitCount_95d88_33 : decode prog_15_method_50_code 33 = .ok (.lstore_n 0, 1) := by decide +kernel
theorem dJ13_bitCount_95d88_34 : decode prog_15_method_50_code 34 = .ok (.lload_n 0, 1) := by decide +kernel
theorem dJ13_bitCount_95d88_35 : decode prog_15_method_50_code 35 = .ok (.lload_n 0, 1) := by decide +kernel
theorem dJ13_bitCount_95d88_36 : decode prog_15_method_50_code 36 = .ok (.bipush 8, 2) := by decide +kernel
theorem dJ13_bitCount_95d88_38 : decode prog_15_method_50_code 38 = .ok (.lushr, 1) := by decide +kernel
theorem dJ13_bitCount_95d88_39 : decode prog_15_method_50_code 39 = .ok (.ladd, 1) := by decide +kernel
theorem dJ13_bitCount_95d88_40 : decode prog_15_method_50_code 40 = .ok (.lstore_n 0, 1) := by decide +kernel
theorem dJ13_bitCount_95d88_41 : decode prog_15_method_50_code 41 = .ok (.lload_n 0, 1) := by decide +kernel
theorem dJ13_bitCount_95d88_42 : decode prog_15_method_50_code 42 = .ok (.lload_n 0, 1) := by decide +kernel
theorem dJ13_bitCount_95d88_43 : decode prog_15_method_50_code 43 = .ok (.bipush 16, 2) := by decide +kernel
theorem dJ13_bitCount_95d88_45 : decode prog_15_method_50_code 45 = .ok (.lushr, 1) := by decide +kernel
theorem dJ13_bitCount_95d88_46 : decode prog_15_method_50_code 46 = .ok (.ladd, 1) := by decide +kernel
theorem dJ13_bitCount_95d88_47 : decode prog_15_method_50_code 47 = .ok (.lstore_n 0, 1) := by decide +kernel
theorem dJ13_bitCount_95d88_48 : decode prog_15_method_50_code 48 = .ok (.lload_n 0, 1) := by decide +kernel
theorem dJ13_bitCount_95d88_49 : decode prog_15_method_50_code 49 = .ok (.lload_n 0, 1) := by decide +kernel
theorem dJ13_bitCount_95d88_50 : decode prog_15_method_50_code 50 = .ok (.bipush 32, 2) := by decide +kernel
theorem dJ13_bitCount_95d88_52 : decode prog_15_method_50_code 52 = .ok (.lushr, 1) := by decide +kernel
theorem dJ13_bitCount_95d88_53 : decode prog_15_method_50_code 53 = .ok (.ladd, 1) := by decide +kernel
theorem dJ13_bitCount_95d88_54 : decode prog_15_method_50_code 54 = .ok (.lstore_n 0, 1) := by decide +kernel
theorem dJ13_bitCount_95d88_55 : decode prog_15_method_50_code 55 = .ok (.lload_n 0, 1) := by decide +kernel
theorem dJ13_bitCount_95d88_56 : decode prog_15_method_50_code 56 = .ok (.l2i, 1) := by decide +kernel
theorem dJ13_bitCount_95d88_57 : decode prog_15_method_50_code 57 = .ok (.bipush 127, 2) := by decide +kernel
theorem dJ13_bitCount_95d88_59 : decode prog_15_method_50_code 59 = .ok (.iand, 1) := by decide +kernel
theorem dJ13_bitCount_95d88_60 : decode prog_15_method_50_code 60 = .ok (.ireturn, 1) := by decide +kernel
theorem dJ9_floorMod_7cf53_0 : decode prog_16_method_50_code 0 = .ok (.iload_n 0, 1) := by decide +kernel
theorem dJ9_floorMod_7cf53_1 : decode prog_16_method_50_code 1 = .ok (.iload_n 1, 1) := by decide +kernel
theorem dJ9_floorMod_7cf53_2 : decode prog_16_method_50_code 2 = .ok (.irem, 1) := by decide +kernel
theorem dJ9_floorMod_7cf53_3 : decode prog_16_method_50_code 3 = .ok (.istore_n 2, 1) := by decide +kernel
theorem dJ9_floorMod_7cf53_4 : decode prog_16_method_50_code 4 = .ok (.iload_n 0, 1) := by decide +kernel
theorem dJ9_floorMod_7cf53_5 : decode prog_16_method_50_code 5 = .ok (.iload_n 1, 1) := by decide +kernel
theorem dJ9_floorMod_7cf53_6 : decode prog_16_method_50_code 6 = .ok (.ixor, 1) := by decide +kernel
theorem dJ9_floorMod_7cf53_7 : decode prog_16_method_50_code 7 = .ok (.ifCond .ge 11, 3) := by decide +kernel
theorem dJ9_floorMod_7cf53_10 : decode prog_16_method_50_code 10 = .ok (.iload_n 2, 1) := by decide +kernel
theorem dJ9_floorMod_7cf53_11 : decode prog_16_method_50_code 11 = .ok (.ifCond .eq 7, 3) := by decide +kernel
theorem dJ9_floorMod_7cf53_14 : decode prog_16_method_50_code 14 = .ok (.iload_n 2, 1) := by decide +kernel
theorem dJ9_floorMod_7cf53_15 : decode prog_16_method_50_code 15 = .ok (.iload_n 1, 1) := by decide +kernel
theorem dJ9_floorMod_7cf53_16 : decode prog_16_method_50_code 16 = .ok (.iadd, 1) := by decide +kernel
theorem dJ9_floorMod_7cf53_17 : decode prog_16_method_50_code 17 = .ok (.ireturn, 1) := by decide +kernel
theorem dJ9_floorMod_7cf53_18 : decode prog_16_method_50_code 18 = .ok (.iload_n 2, 1) := by decide +kernel
theorem dJ9_floorMod_7cf53_19 : decode prog_16_method_50_code 19 = .ok (.ireturn, 1) := by decide +kernel
theorem dX0_changedCount_0 : decode prog_2_method_32_code 0 = .ok (.aload_n 0, 1) := by decide +kernel
theorem dX0_changedCount_1 : decode prog_2_method_32_code 1 = .ok (.getfield 46, 3) := by decide +kernel
theorem dX0_changedCount_4 : decode prog_2_method_32_code 4 = .ok (.invokestatic 111, 3) := by decide +kernel
theorem dX0_changedCount_7 : decode prog_2_method_32_code 7 = .ok (.ireturn, 1) := by decide +kernel
theorem dX0_errorOf_0 : decode prog_2_method_11_code 0 = .ok (.iload_n 1, 1) := by decide +kernel
theorem dX0_errorOf_1 : decode prog_2_method_11_code 1 = .ok (.i2l, 1) := by decide +kernel
theorem dX0_errorOf_2 : decode prog_2_method_11_code 2 = .ok (.invokestatic 69, 3) := by decide +kernel
theorem dX0_errorOf_5 : decode prog_2_method_11_code 5 = .ok (.ifCond .eq 12, 3) := by decide +kernel
theorem dX0_errorOf_8 : decode prog_2_method_11_code 8 = .ok (.aload_n 0, 1) := by decide +kernel
theorem dX0_errorOf_9 : decode prog_2_method_11_code 9 = .ok (.getfield 19, 3) := by decide +kernel
theorem dX0_errorOf_12 : decode prog_2_method_11_code 12 = .ok (.iload_n 1, 1) := by decide +kernel
theorem dX0_errorOf_13 : decode prog_2_method_11_code 13 = .ok (.iaload, 1) := by decide +kernel
theorem dX0_errorOf_14 : decode prog_2_method_11_code 14 = .ok (.goto 4, 3) := by decide +kernel
theorem dX0_errorOf_17 : decode prog_2_method_11_code 17 = .ok (.iconst 3, 1) := by decide +kernel
theorem dX0_errorOf_18 : decode prog_2_method_11_code 18 = .ok (.ireturn, 1) := by decide +kernel
theorem dX0_isChanged_0 : decode prog_2_method_17_code 0 = .ok (.iload_n 1, 1) := by decide +kernel
theorem dX0_isChanged_1 : decode prog_2_method_17_code 1 = .ok (.i2l, 1) := by decide +kernel
theorem dX0_isChanged_2 : decode prog_2_method_17_code 2 = .ok (.invokestatic 69, 3) := by decide +kernel
theorem dX0_isChanged_5 : decode prog_2_method_17_code 5 = .ok (.ifCond .eq 18, 3) := by decide +kernel
theorem dX0_isChanged_8 : decode prog_2_method_17_code 8 = .ok (.aload_n 0, 1) := by decide +kernel
theorem dX0_isChanged_9 : decode prog_2_method_17_code 9 = .ok (.getfield 46, 3) := by decide +kernel
theorem dX0_isChanged_12 : decode prog_2_method_17_code 12 = .ok (.iload_n 1, 1) := by decide +kernel
theorem dX0_isChanged_13 : decode prog_2_method_17_code 13 = .ok (.invokestatic 77, 3) := by decide +kernel
theorem dX0_isChanged_16 : decode prog_2_method_17_code 16 = .ok (.ifCond .eq 7, 3) := by decide +kernel
theorem dX0_isChanged_19 : decode prog_2_method_17_code 19 = .ok (.iconst 1, 1) := by decide +kernel
theorem dX0_isChanged_20 : decode prog_2_method_17_code 20 = .ok (.goto 4, 3) := by decide +kernel
theorem dX0_isChanged_23 : decode prog_2_method_17_code 23 = .ok (.iconst 0, 1) := by decide +kernel
theorem dX0_isChanged_24 : decode prog_2_method_17_code 24 = .ok (.ireturn, 1) := by decide +kernel
theorem dX0_known_0 : decode prog_2_method_22_code 0 = .ok (.aload_n 0, 1) := by decide +kernel
theorem dX0_known_1 : decode prog_2_method_22_code 1 = .ok (.iload_n 1, 1) := by decide +kernel
theorem dX0_known_2 : decode prog_2_method_22_code 2 = .ok (.invokevirtual 90, 3) := by decide +kernel
theorem dX0_known_5 : decode prog_2_method_22_code 5 = .ok (.ifCond .ne 11, 3) := by decide +kernel
theorem dX0_known_8 : decode prog_2_method_22_code 8 = .ok (.aload_n 0, 1) := by decide +kernel
theorem dX0_known_9 : decode prog_2_method_22_code 9 = .ok (.iload_n 1, 1) := by decide +kernel
theorem dX0_known_10 : decode prog_2_method_22_code 10 = .ok (.invokevirtual 93, 3) := by decide +kernel
theorem dX0_known_13 : decode prog_2_method_22_code 13 = .ok (.goto 6, 3) := by decide +kernel
theorem dX0_known_16 : decode prog_2_method_22_code 16 = .ok (.ldc2_w 96, 3) := by decide +kernel
theorem dX0_known_19 : decode prog_2_method_22_code 19 = .ok (.lreturn, 1) := by decide +kernel
theorem dX0_numberOf_0 : decode prog_2_method_12_code 0 = .ok (.iload_n 1, 1) := by decide +kernel
theorem dX0_numberOf_1 : decode prog_2_method_12_code 1 = .ok (.i2l, 1) := by decide +kernel
theorem dX0_numberOf_2 : decode prog_2_method_12_code 2 = .ok (.invokestatic 69, 3) := by decide +kernel
theorem dX0_numberOf_5 : decode prog_2_method_12_code 5 = .ok (.ifCond .eq 12, 3) := by decide +kernel
theorem dX0_numberOf_8 : decode prog_2_method_12_code 8 = .ok (.aload_n 0, 1) := by decide +kernel
theorem dX0_numberOf_9 : decode prog_2_method_12_code 9 = .ok (.getfield 15, 3) := by decide +kernel
theorem dX0_numberOf_12 : decode prog_2_method_12_code 12 = .ok (.iload_n 1, 1) := by decide +kernel
theorem dX0_numberOf_13 : decode prog_2_method_12_code 13 = .ok (.laload, 1) := by decide +kernel
theorem dX0_numberOf_14 : decode prog_2_method_12_code 14 = .ok (.goto 4, 3) := by decide +kernel
theorem dX0_numberOf_17 : decode prog_2_method_12_code 17 = .ok (.lconst 0, 1) := by decide +kernel
theorem dX0_numberOf_18 : decode prog_2_method_12_code 18 = .ok (.lreturn, 1) := by decide +kernel
theorem dX0_ranCount_0 : decode prog_2_method_31_code 0 = .ok (.aload_n 0, 1) := by decide +kernel
theorem dX0_ranCount_1 : decode prog_2_method_31_code 1 = .ok (.getfield 50, 3) := by decide +kernel
theorem dX0_ranCount_4 : decode prog_2_method_31_code 4 = .ok (.invokestatic 111, 3) := by decide +kernel
theorem dX0_ranCount_7 : decode prog_2_method_31_code 7 = .ok (.ireturn, 1) := by decide +kernel
theorem dX1_back_0 : decode prog_3_method_4_code 0 = .ok (.aload_n 0, 1) := by decide +kernel
theorem dX1_back_1 : decode prog_3_method_4_code 1 = .ok (.getfield 12, 3) := by decide +kernel
theorem dX1_back_4 : decode prog_3_method_4_code 4 = .ok (.aload_n 0, 1) := by decide +kernel
theorem dX1_back_5 : decode prog_3_method_4_code 5 = .ok (.getfield 18, 3) := by decide +kernel
theorem dX1_back_8 : decode prog_3_method_4_code 8 = .ok (.invokevirtual 44, 3) := by decide +kernel
theorem dX1_back_11 : decode prog_3_method_4_code 11 = .ok (.return_, 1) := by decide +kernel
theorem dX1_before_0 : decode prog_3_method_3_code 0 = .ok (.aload_n 0, 1) := by decide +kernel
theorem dX1_before_1 : decode prog_3_method_3_code 1 = .ok (.getfield 18, 3) := by decide +kernel
theorem dX1_before_4 : decode prog_3_method_3_code 4 = .ok (.areturn, 1) := by decide +kernel
theorem dX1_go_0 : decode prog_3_method_5_code 0 = .ok (.aload_n 0, 1) := by decide +kernel
theorem dX1_go_1 : decode prog_3_method_5_code 1 = .ok (.getfield 18, 3) := by decide +kernel
theorem dX1_go_4 : decode prog_3_method_5_code 4 = .ok (.aload_n 0, 1) := by decide +kernel
theorem dX1_go_5 : decode prog_3_method_5_code 5 = .ok (.getfield 12, 3) := by decide +kernel
theorem dX1_go_8 : decode prog_3_method_5_code 8 = .ok (.invokevirtual 44, 3) := by decide +kernel
theorem dX1_go_11 : decode prog_3_method_5_code 11 = .ok (.aload_n 0, 1) := by decide +kernel
theorem dX1_go_12 : decode prog_3_method_5_code 12 = .ok (.getfield 12, 3) := by decide +kernel
theorem dX1_go_15 : decode prog_3_method_5_code 15 = .ok (.invokevirtual 48, 3) := by decide +kernel
theorem dX1_go_18 : decode prog_3_method_5_code 18 = .ok (.aload_n 1, 1) := by decide +kernel
theorem dX1_go_19 : decode prog_3_method_5_code 19 = .ok (.aload_n 0, 1) := by decide +kernel
theorem dX1_go_20 : decode prog_3_method_5_code 20 = .ok (.getfield 12, 3) := by decide +kernel
theorem dX1_go_23 : decode prog_3_method_5_code 23 = .ok (.invokevirtual 51, 3) := by decide +kernel
theorem dX1_go_26 : decode prog_3_method_5_code 26 = .ok (.aload_n 0, 1) := by decide +kernel
theorem dX1_go_27 : decode prog_3_method_5_code 27 = .ok (.aload_n 1, 1) := by decide +kernel
theorem dX1_go_28 : decode prog_3_method_5_code 28 = .ok (.invokevirtual 56, 3) := by decide +kernel
theorem dX1_go_31 : decode prog_3_method_5_code 31 = .ok (.putfield 27, 3) := by decide +kernel
theorem dX1_go_34 : decode prog_3_method_5_code 34 = .ok (.aload_n 0, 1) := by decide +kernel
theorem dX1_go_35 : decode prog_3_method_5_code 35 = .ok (.aload_n 0, 1) := by decide +kernel
theorem dX1_go_36 : decode prog_3_method_5_code 36 = .ok (.getfield 12, 3) := by decide +kernel
theorem dX1_go_39 : decode prog_3_method_5_code 39 = .ok (.invokevirtual 60, 3) := by decide +kernel
theorem dX1_go_42 : decode prog_3_method_5_code 42 = .ok (.putfield 31, 3) := by decide +kernel
theorem dX1_go_45 : decode prog_3_method_5_code 45 = .ok (.aload_n 0, 1) := by decide +kernel
theorem dX1_go_46 : decode prog_3_method_5_code 46 = .ok (.lconst 0, 1) := by decide +kernel
theorem dX1_go_47 : decode prog_3_method_5_code 47 = .ok (.putfield 34, 3) := by decide +kernel
theorem dX1_go_50 : decode prog_3_method_5_code 50 = .ok (.aload_n 0, 1) := by decide +kernel
theorem dX1_go_51 : decode prog_3_method_5_code 51 = .ok (.iconst 0, 1) := by decide +kernel
theorem dX1_go_52 : decode prog_3_method_5_code 52 = .ok (.putfield 37, 3) := by decide +kernel
theorem dX1_go_55 : decode prog_3_method_5_code 55 = .ok (.iconst 0, 1) := by decide +kernel
theorem dX1_go_56 : decode prog_3_method_5_code 56 = .ok (.istore_n 2, 1) := by decide +kernel
theorem dX1_go_57 : decode prog_3_method_5_code 57 = .ok (.iload_n 2, 1) := by decide +kernel
theorem dX1_go_58 : decode prog_3_method_5_code 58 = .ok (.bipush 32, 2) := by decide +kernel
theorem dX1_go_60 : decode prog_3_method_5_code 60 = .ok (.if_icmp .ge 32, 3) := by decide +kernel
theorem dX1_go_63 : decode prog_3_method_5_code 63 = .ok (.aload_n 0, 1) := by decide +kernel
theorem dX1_go_64 : decode prog_3_method_5_code 64 = .ok (.getfield 31, 3) := by decide +kernel
theorem dX1_go_67 : decode prog_3_method_5_code 67 = .ok (.iload_n 2, 1) := by decide +kernel
theorem dX1_go_68 : decode prog_3_method_5_code 68 = .ok (.invokestatic 63, 3) := by decide +kernel
theorem dX1_go_71 : decode prog_3_method_5_code 71 = .ok (.ifCond .eq 15, 3) := by decide +kernel
theorem dX1_go_74 : decode prog_3_method_5_code 74 = .ok (.aload_n 0, 1) := by decide +kernel
theorem dX1_go_75 : decode prog_3_method_5_code 75 = .ok (.getfield 12, 3) := by decide +kernel
theorem dX1_go_78 : decode prog_3_method_5_code 78 = .ok (.iload_n 2, 1) := by decide +kernel
theorem dX1_go_79 : decode prog_3_method_5_code 79 = .ok (.aload_n 0, 1) := by decide +kernel
theorem dX1_go_80 : decode prog_3_method_5_code 80 = .ok (.getfield 18, 3) := by decide +kernel
theorem dX1_go_83 : decode prog_3_method_5_code 83 = .ok (.invokevirtual 67, 3) := by decide +kernel
theorem dX1_go_86 : decode prog_3_method_5_code 86 = .ok (.iinc 2 1, 3) := by decide +kernel
theorem dX1_go_89 : decode prog_3_method_5_code 89 = .ok (.goto (-32), 3) := by decide +kernel
theorem dX1_go_92 : decode prog_3_method_5_code 92 = .ok (.iconst 0, 1) := by decide +kernel
theorem dX1_go_93 : decode prog_3_method_5_code 93 = .ok (.istore_n 2, 1) := by decide +kernel
theorem dX1_go_94 : decode prog_3_method_5_code 94 = .ok (.iload_n 2, 1) := by decide +kernel
theorem dX1_go_95 : decode prog_3_method_5_code 95 = .ok (.bipush 32, 2) := by decide +kernel
theorem dX1_go_97 : decode prog_3_method_5_code 97 = .ok (.if_icmp .ge 22, 3) := by decide +kernel
theorem dX1_go_100 : decode prog_3_method_5_code 100 = .ok (.aload_n 0, 1) := by decide +kernel
theorem dX1_go_101 : decode prog_3_method_5_code 101 = .ok (.getfield 37, 3) := by decide +kernel
theorem dX1_go_104 : decode prog_3_method_5_code 104 = .ok (.ifCond .ne 15, 3) := by decide +kernel
theorem dX1_go_107 : decode prog_3_method_5_code 107 = .ok (.aload_n 0, 1) := by decide +kernel
theorem dX1_go_108 : decode prog_3_method_5_code 108 = .ok (.iload_n 2, 1) := by decide +kernel
theorem dX1_go_109 : decode prog_3_method_5_code 109 = .ok (.iconst 0, 1) := by decide +kernel
theorem dX1_go_110 : decode prog_3_method_5_code 110 = .ok (.invokevirtual 71, 3) := by decide +kernel
theorem dX1_go_113 : decode prog_3_method_5_code 113 = .ok (.iinc 2 1, 3) := by decide +kernel
theorem dX1_go_116 : decode prog_3_method_5_code 116 = .ok (.goto (-22), 3) := by decide +kernel
theorem dX1_go_119 : decode prog_3_method_5_code 119 = .ok (.aload_n 0, 1) := by decide +kernel
theorem dX1_go_120 : decode prog_3_method_5_code 120 = .ok (.getfield 37, 3) := by decide +kernel
theorem dX1_go_123 : decode prog_3_method_5_code 123 = .ok (.ifCond .eq 10, 3) := by decide +kernel
theorem dX1_go_126 : decode prog_3_method_5_code 126 = .ok (.aload_n 0, 1) := by decide +kernel
theorem dX1_go_127 : decode prog_3_method_5_code 127 = .ok (.invokevirtual 75, 3) := by decide +kernel
theorem dX1_go_130 : decode prog_3_method_5_code 130 = .ok (.bipush (-7), 2) := by decide +kernel
theorem dX1_go_132 : decode prog_3_method_5_code 132 = .ok (.ireturn, 1) := by decide +kernel
theorem dX1_go_133 : decode prog_3_method_5_code 133 = .ok (.aload_n 0, 1) := by decide +kernel
theorem dX1_go_134 : decode prog_3_method_5_code 134 = .ok (.getfield 12, 3) := by decide +kernel
theorem dX1_go_137 : decode prog_3_method_5_code 137 = .ok (.invokevirtual 78, 3) := by decide +kernel
theorem dX1_go_140 : decode prog_3_method_5_code 140 = .ok (.ireturn, 1) := by decide +kernel
theorem dX1_now_0 : decode prog_3_method_2_code 0 = .ok (.aload_n 0, 1) := by decide +kernel
theorem dX1_now_1 : decode prog_3_method_2_code 1 = .ok (.getfield 12, 3) := by decide +kernel
theorem dX1_now_4 : decode prog_3_method_2_code 4 = .ok (.areturn, 1) := by decide +kernel
theorem dX7_count_0 : decode prog_9_method_5_code 0 = .ok (.aload_n 0, 1) := by decide +kernel
theorem dX7_count_1 : decode prog_9_method_5_code 1 = .ok (.getfield 25, 3) := by decide +kernel
theorem dX7_count_4 : decode prog_9_method_5_code 4 = .ok (.invokestatic 37, 3) := by decide +kernel
theorem dX7_count_7 : decode prog_9_method_5_code 7 = .ok (.ireturn, 1) := by decide +kernel
theorem dX9_ask_0 : decode prog_11_method_7_code 0 = .ok (.iconst 0, 1) := by decide +kernel
theorem dX9_ask_1 : decode prog_11_method_7_code 1 = .ok (.istore_n 3, 1) := by decide +kernel
theorem dX9_ask_2 : decode prog_11_method_7_code 2 = .ok (.iconst 0, 1) := by decide +kernel
theorem dX9_ask_3 : decode prog_11_method_7_code 3 = .ok (.istore 4, 2) := by decide +kernel
theorem dX9_ask_5 : decode prog_11_method_7_code 5 = .ok (.iload 4, 2) := by decide +kernel
theorem dX9_ask_7 : decode prog_11_method_7_code 7 = .ok (.aload_n 0, 1) := by decide +kernel
theorem dX9_ask_8 : decode prog_11_method_7_code 8 = .ok (.getfield 22, 3) := by decide +kernel
theorem dX9_ask_11 : decode prog_11_method_7_code 11 = .ok (.if_icmp .ge 64, 3) := by decide +kernel
theorem dX9_ask_14 : decode prog_11_method_7_code 14 = .ok (.iload 4, 2) := by decide +kernel
theorem dX9_ask_16 : decode prog_11_method_7_code 16 = .ok (.bipush 8, 2) := by decide +kernel
theorem dX9_ask_18 : decode prog_11_method_7_code 18 = .ok (.if_icmp .ge 57, 3) := by decide +kernel
theorem dX9_ask_21 : decode prog_11_method_7_code 21 = .ok (.aload_n 0, 1) := by decide +kernel
theorem dX9_ask_22 : decode prog_11_method_7_code 22 = .ok (.getfield 26, 3) := by decide +kernel
theorem dX9_ask_25 : decode prog_11_method_7_code 25 = .ok (.iload 4, 2) := by decide +kernel
theorem dX9_ask_27 : decode prog_11_method_7_code 27 = .ok (.invokestatic 61, 3) := by decide +kernel
theorem dX9_ask_30 : decode prog_11_method_7_code 30 = .ok (.ifCond .eq 39, 3) := by decide +kernel
theorem dX9_ask_33 : decode prog_11_method_7_code 33 = .ok (.aload_n 2, 1) := by decide +kernel
theorem dX9_ask_34 : decode prog_11_method_7_code 34 = .ok (.aload_n 0, 1) := by decide +kernel
theorem dX9_ask_35 : decode prog_11_method_7_code 35 = .ok (.getfield 11, 3) := by decide +kernel
theorem dX9_ask_38 : decode prog_11_method_7_code 38 = .ok (.iload 4, 2) := by decide +kernel
theorem dX9_ask_40 : decode prog_11_method_7_code 40 = .ok (.iaload, 1) := by decide +kernel
theorem dX9_ask_41 : decode prog_11_method_7_code 41 = .ok (.invokevirtual 67, 3) := by decide +kernel
theorem dX9_ask_44 : decode prog_11_method_7_code 44 = .ok (.ifCond .eq 25, 3) := by decide +kernel
theorem dX9_ask_47 : decode prog_11_method_7_code 47 = .ok (.aload_n 0, 1) := by decide +kernel
theorem dX9_ask_48 : decode prog_11_method_7_code 48 = .ok (.iload 4, 2) := by decide +kernel
theorem dX9_ask_50 : decode prog_11_method_7_code 50 = .ok (.aload_n 1, 1) := by decide +kernel
theorem dX9_ask_51 : decode prog_11_method_7_code 51 = .ok (.aload_n 2, 1) := by decide +kernel
theorem dX9_ask_52 : decode prog_11_method_7_code 52 = .ok (.invokevirtual 73, 3) := by decide +kernel
theorem dX9_ask_55 : decode prog_11_method_7_code 55 = .ok (.ifCond .eq 14, 3) := by decide +kernel
theorem dX9_ask_58 : decode prog_11_method_7_code 58 = .ok (.aload_n 0, 1) := by decide +kernel
theorem dX9_ask_59 : decode prog_11_method_7_code 59 = .ok (.iload 4, 2) := by decide +kernel
theorem dX9_ask_61 : decode prog_11_method_7_code 61 = .ok (.aload_n 1, 1) := by decide +kernel
theorem dX9_ask_62 : decode prog_11_method_7_code 62 = .ok (.aload_n 2, 1) := by decide +kernel
theorem dX9_ask_63 : decode prog_11_method_7_code 63 = .ok (.invokevirtual 77, 3) := by decide +kernel
theorem dX9_ask_66 : decode prog_11_method_7_code 66 = .ok (.iinc 3 1, 3) := by decide +kernel
theorem dX9_ask_69 : decode prog_11_method_7_code 69 = .ok (.iinc 4 1, 3) := by decide +kernel
theorem dX9_ask_72 : decode prog_11_method_7_code 72 = .ok (.goto (-67), 3) := by decide +kernel
theorem dX9_ask_75 : decode prog_11_method_7_code 75 = .ok (.iload_n 3, 1) := by decide +kernel
theorem dX9_ask_76 : decode prog_11_method_7_code 76 = .ok (.ireturn, 1) := by decide +kernel
theorem dX9_note_0 : decode prog_11_method_9_code 0 = .ok (.aload_n 0, 1) := by decide +kernel
theorem dX9_note_1 : decode prog_11_method_9_code 1 = .ok (.getfield 48, 3) := by decide +kernel
theorem dX9_note_4 : decode prog_11_method_9_code 4 = .ok (.bipush 60, 2) := by decide +kernel
theorem dX9_note_6 : decode prog_11_method_9_code 6 = .ok (.if_icmp .lt 22, 3) := by decide +kernel
theorem dX9_note_9 : decode prog_11_method_9_code 9 = .ok (.aload_n 0, 1) := by decide +kernel
theorem dX9_note_10 : decode prog_11_method_9_code 10 = .ok (.aload_n 0, 1) := by decide +kernel
theorem dX9_note_11 : decode prog_11_method_9_code 11 = .ok (.getfield 45, 3) := by decide +kernel
theorem dX9_note_14 : decode prog_11_method_9_code 14 = .ok (.iconst 1, 1) := by decide +kernel
theorem dX9_note_15 : decode prog_11_method_9_code 15 = .ok (.iadd, 1) := by decide +kernel
theorem dX9_note_16 : decode prog_11_method_9_code 16 = .ok (.bipush 60, 2) := by decide +kernel
theorem dX9_note_18 : decode prog_11_method_9_code 18 = .ok (.irem, 1) := by decide +kernel
theorem dX9_note_19 : decode prog_11_method_9_code 19 = .ok (.putfield 45, 3) := by decide +kernel
theorem dX9_note_22 : decode prog_11_method_9_code 22 = .ok (.aload_n 0, 1) := by decide +kernel
theorem dX9_note_23 : decode prog_11_method_9_code 23 = .ok (.bipush 59, 2) := by decide +kernel
theorem dX9_note_25 : decode prog_11_method_9_code 25 = .ok (.putfield 48, 3) := by decide +kernel
theorem dX9_note_28 : decode prog_11_method_9_code 28 = .ok (.aload_n 0, 1) := by decide +kernel
theorem dX9_note_29 : decode prog_11_method_9_code 29 = .ok (.getfield 45, 3) := by decide +kernel
theorem dX9_note_32 : decode prog_11_method_9_code 32 = .ok (.aload_n 0, 1) := by decide +kernel
theorem dX9_note_33 : decode prog_11_method_9_code 33 = .ok (.getfield 48, 3) := by decide +kernel
theorem dX9_note_36 : decode prog_11_method_9_code 36 = .ok (.iadd, 1) := by decide +kernel
theorem dX9_note_37 : decode prog_11_method_9_code 37 = .ok (.bipush 60, 2) := by decide +kernel
theorem dX9_note_39 : decode prog_11_method_9_code 39 = .ok (.irem, 1) := by decide +kernel
theorem dX9_note_40 : decode prog_11_method_9_code 40 = .ok (.istore 4, 2) := by decide +kernel
theorem dX9_note_42 : decode prog_11_method_9_code 42 = .ok (.aload_n 0, 1) := by decide +kernel
theorem dX9_note_43 : decode prog_11_method_9_code 43 = .ok (.dup, 1) := by decide +kernel
theorem dX9_note_44 : decode prog_11_method_9_code 44 = .ok (.getfield 48, 3) := by decide +kernel
theorem dX9_note_47 : decode prog_11_method_9_code 47 = .ok (.iconst 1, 1) := by decide +kernel
theorem dX9_note_48 : decode prog_11_method_9_code 48 = .ok (.iadd, 1) := by decide +kernel
theorem dX9_note_49 : decode prog_11_method_9_code 49 = .ok (.putfield 48, 3) := by decide +kernel
theorem dX9_note_52 : decode prog_11_method_9_code 52 = .ok (.iload 4, 2) := by decide +kernel
theorem dX9_note_54 : decode prog_11_method_9_code 54 = .ok (.ifCond .lt 13, 3) := by decide +kernel
theorem dX9_note_57 : decode prog_11_method_9_code 57 = .ok (.iload_n 1, 1) := by decide +kernel
theorem dX9_note_58 : decode prog_11_method_9_code 58 = .ok (.ifCond .lt 9, 3) := by decide +kernel
theorem dX9_note_61 : decode prog_11_method_9_code 61 = .ok (.iload_n 1, 1) := by decide +kernel
theorem dX9_note_62 : decode prog_11_method_9_code 62 = .ok (.bipush 8, 2) := by decide +kernel
theorem dX9_note_64 : decode prog_11_method_9_code 64 = .ok (.if_icmp .lt 4, 3) := by decide +kernel
theorem dX9_note_67 : decode prog_11_method_9_code 67 = .ok (.return_, 1) := by decide +kernel
theorem dX9_note_68 : decode prog_11_method_9_code 68 = .ok (.aload_n 0, 1) := by decide +kernel
theorem dX9_note_69 : decode prog_11_method_9_code 69 = .ok (.getfield 11, 3) := by decide +kernel
theorem dX9_note_72 : decode prog_11_method_9_code 72 = .ok (.iload_n 1, 1) := by decide +kernel
theorem dX9_note_73 : decode prog_11_method_9_code 73 = .ok (.iaload, 1) := by decide +kernel
theorem dX9_note_74 : decode prog_11_method_9_code 74 = .ok (.istore 5, 2) := by decide +kernel
theorem dX9_note_76 : decode prog_11_method_9_code 76 = .ok (.aload_n 0, 1) := by decide +kernel
theorem dX9_note_77 : decode prog_11_method_9_code 77 = .ok (.getfield 30, 3) := by decide +kernel
theorem dX9_note_80 : decode prog_11_method_9_code 80 = .ok (.iload 4, 2) := by decide +kernel
theorem dX9_note_82 : decode prog_11_method_9_code 82 = .ok (.iload_n 1, 1) := by decide +kernel
theorem dX9_note_83 : decode prog_11_method_9_code 83 = .ok (.iastore, 1) := by decide +kernel
theorem dX9_note_84 : decode prog_11_method_9_code 84 = .ok (.aload_n 0, 1) := by decide +kernel
theorem dX9_note_85 : decode prog_11_method_9_code 85 = .ok (.getfield 33, 3) := by decide +kernel
theorem dX9_note_88 : decode prog_11_method_9_code 88 = .ok (.iload 4, 2) := by decide +kernel
theorem dX9_note_90 : decode prog_11_method_9_code 90 = .ok (.aload_n 2, 1) := by decide +kernel
theorem dX9_note_91 : decode prog_11_method_9_code 91 = .ok (.iload 5, 2) := by decide +kernel
theorem dX9_note_93 : decode prog_11_method_9_code 93 = .ok (.invokevirtual 81, 3) := by decide +kernel
theorem dX9_note_96 : decode prog_11_method_9_code 96 = .ok (.iastore, 1) := by decide +kernel
theorem dX9_note_97 : decode prog_11_method_9_code 97 = .ok (.aload_n 0, 1) := by decide +kernel
theorem dX9_note_98 : decode prog_11_method_9_code 98 = .ok (.getfield 36, 3) := by decide +kernel
theorem dX9_note_101 : decode prog_11_method_9_code 101 = .ok (.iload 4, 2) := by decide +kernel
theorem dX9_note_103 : decode prog_11_method_9_code 103 = .ok (.aload_n 3, 1) := by decide +kernel
theorem dX9_note_104 : decode prog_11_method_9_code 104 = .ok (.iload 5, 2) := by decide +kernel
theorem dX9_note_106 : decode prog_11_method_9_code 106 = .ok (.invokevirtual 81, 3) := by decide +kernel
theorem dX9_note_109 : decode prog_11_method_9_code 109 = .ok (.iastore, 1) := by decide +kernel
theorem dX9_note_110 : decode prog_11_method_9_code 110 = .ok (.aload_n 0, 1) := by decide +kernel
theorem dX9_note_111 : decode prog_11_method_9_code 111 = .ok (.getfield 39, 3) := by decide +kernel
theorem dX9_note_114 : decode prog_11_method_9_code 114 = .ok (.iload 4, 2) := by decide +kernel
theorem dX9_note_116 : decode prog_11_method_9_code 116 = .ok (.aload_n 2, 1) := by decide +kernel
theorem dX9_note_117 : decode prog_11_method_9_code 117 = .ok (.iload 5, 2) := by decide +kernel
theorem dX9_note_119 : decode prog_11_method_9_code 119 = .ok (.invokevirtual 88, 3) := by decide +kernel
theorem dX9_note_122 : decode prog_11_method_9_code 122 = .ok (.lastore, 1) := by decide +kernel
theorem dX9_note_123 : decode prog_11_method_9_code 123 = .ok (.aload_n 0, 1) := by decide +kernel
theorem dX9_note_124 : decode prog_11_method_9_code 124 = .ok (.getfield 42, 3) := by decide +kernel
theorem dX9_note_127 : decode prog_11_method_9_code 127 = .ok (.iload 4, 2) := by decide +kernel
theorem dX9_note_129 : decode prog_11_method_9_code 129 = .ok (.aload_n 3, 1) := by decide +kernel
theorem dX9_note_130 : decode prog_11_method_9_code 130 = .ok (.iload 5, 2) := by decide +kernel
theorem dX9_note_132 : decode prog_11_method_9_code 132 = .ok (.invokevirtual 88, 3) := by decide +kernel
theorem dX9_note_135 : decode prog_11_method_9_code 135 = .ok (.lastore, 1) := by decide +kernel
theorem dX9_note_136 : decode prog_11_method_9_code 136 = .ok (.return_, 1) := by decide +kernel
theorem dX9_stirs_0 : decode prog_11_method_8_code 0 = .ok (.aload_n 0, 1) := by decide +kernel
theorem dX9_stirs_1 : decode prog_11_method_8_code 1 = .ok (.getfield 11, 3) := by decide +kernel
theorem dX9_stirs_4 : decode prog_11_method_8_code 4 = .ok (.iload_n 1, 1) := by decide +kernel
theorem dX9_stirs_5 : decode prog_11_method_8_code 5 = .ok (.iaload, 1) := by decide +kernel
theorem dX9_stirs_6 : decode prog_11_method_8_code 6 = .ok (.istore 4, 2) := by decide +kernel
theorem dX9_stirs_8 : decode prog_11_method_8_code 8 = .ok (.aload_n 2, 1) := by decide +kernel
theorem dX9_stirs_9 : decode prog_11_method_8_code 9 = .ok (.iload 4, 2) := by decide +kernel
theorem dX9_stirs_11 : decode prog_11_method_8_code 11 = .ok (.invokevirtual 81, 3) := by decide +kernel
theorem dX9_stirs_14 : decode prog_11_method_8_code 14 = .ok (.ifCond .ne 7, 3) := by decide +kernel
theorem dX9_stirs_17 : decode prog_11_method_8_code 17 = .ok (.iconst 1, 1) := by decide +kernel
theorem dX9_stirs_18 : decode prog_11_method_8_code 18 = .ok (.goto 4, 3) := by decide +kernel
theorem dX9_stirs_21 : decode prog_11_method_8_code 21 = .ok (.iconst 0, 1) := by decide +kernel
theorem dX9_stirs_22 : decode prog_11_method_8_code 22 = .ok (.istore 5, 2) := by decide +kernel
theorem dX9_stirs_24 : decode prog_11_method_8_code 24 = .ok (.aload_n 3, 1) := by decide +kernel
theorem dX9_stirs_25 : decode prog_11_method_8_code 25 = .ok (.iload 4, 2) := by decide +kernel
theorem dX9_stirs_27 : decode prog_11_method_8_code 27 = .ok (.invokevirtual 81, 3) := by decide +kernel
theorem dX9_stirs_30 : decode prog_11_method_8_code 30 = .ok (.ifCond .ne 7, 3) := by decide +kernel
theorem dX9_stirs_33 : decode prog_11_method_8_code 33 = .ok (.iconst 1, 1) := by decide +kernel
theorem dX9_stirs_34 : decode prog_11_method_8_code 34 = .ok (.goto 4, 3) := by decide +kernel
theorem dX9_stirs_37 : decode prog_11_method_8_code 37 = .ok (.iconst 0, 1) := by decide +kernel
theorem dX9_stirs_38 : decode prog_11_method_8_code 38 = .ok (.istore 6, 2) := by decide +kernel
theorem dX9_stirs_40 : decode prog_11_method_8_code 40 = .ok (.aload_n 2, 1) := by decide +kernel
theorem dX9_stirs_41 : decode prog_11_method_8_code 41 = .ok (.iload 4, 2) := by decide +kernel
theorem dX9_stirs_43 : decode prog_11_method_8_code 43 = .ok (.invokevirtual 85, 3) := by decide +kernel
theorem dX9_stirs_46 : decode prog_11_method_8_code 46 = .ok (.lstore 7, 2) := by decide +kernel
theorem dX9_stirs_48 : decode prog_11_method_8_code 48 = .ok (.aload_n 3, 1) := by decide +kernel
theorem dX9_stirs_49 : decode prog_11_method_8_code 49 = .ok (.iload 4, 2) := by decide +kernel
theorem dX9_stirs_51 : decode prog_11_method_8_code 51 = .ok (.invokevirtual 85, 3) := by decide +kernel
theorem dX9_stirs_54 : decode prog_11_method_8_code 54 = .ok (.lstore 9, 2) := by decide +kernel
theorem dX9_stirs_56 : decode prog_11_method_8_code 56 = .ok (.aload_n 0, 1) := by decide +kernel
theorem dX9_stirs_57 : decode prog_11_method_8_code 57 = .ok (.getfield 15, 3) := by decide +kernel
theorem dX9_stirs_60 : decode prog_11_method_8_code 60 = .ok (.iload_n 1, 1) := by decide +kernel
theorem dX9_stirs_61 : decode prog_11_method_8_code 61 = .ok (.iaload, 1) := by decide +kernel
theorem dX9_stirs_62 : decode prog_11_method_8_code 62 = .ok (.tableswitch 105 0 2 #[26, 28, 52], 26) := by decide +kernel
theorem dX9_stirs_88 : decode prog_11_method_8_code 88 = .ok (.iconst 1, 1) := by decide +kernel
theorem dX9_stirs_89 : decode prog_11_method_8_code 89 = .ok (.ireturn, 1) := by decide +kernel
theorem dX9_stirs_90 : decode prog_11_method_8_code 90 = .ok (.iload 5, 2) := by decide +kernel
theorem dX9_stirs_92 : decode prog_11_method_8_code 92 = .ok (.ifCond .eq 20, 3) := by decide +kernel
theorem dX9_stirs_95 : decode prog_11_method_8_code 95 = .ok (.iload 6, 2) := by decide +kernel
theorem dX9_stirs_97 : decode prog_11_method_8_code 97 = .ok (.ifCond .eq 15, 3) := by decide +kernel
theorem dX9_stirs_100 : decode prog_11_method_8_code 100 = .ok (.lload 9, 2) := by decide +kernel
theorem dX9_stirs_102 : decode prog_11_method_8_code 102 = .ok (.lload 7, 2) := by decide +kernel
theorem dX9_stirs_104 : decode prog_11_method_8_code 104 = .ok (.lcmp, 1) := by decide +kernel
theorem dX9_stirs_105 : decode prog_11_method_8_code 105 = .ok (.ifCond .le 7, 3) := by decide +kernel
theorem dX9_stirs_108 : decode prog_11_method_8_code 108 = .ok (.iconst 1, 1) := by decide +kernel
theorem dX9_stirs_109 : decode prog_11_method_8_code 109 = .ok (.goto 4, 3) := by decide +kernel
theorem dX9_stirs_112 : decode prog_11_method_8_code 112 = .ok (.iconst 0, 1) := by decide +kernel
theorem dX9_stirs_113 : decode prog_11_method_8_code 113 = .ok (.ireturn, 1) := by decide +kernel
theorem dX9_stirs_114 : decode prog_11_method_8_code 114 = .ok (.iload 5, 2) := by decide +kernel
theorem dX9_stirs_116 : decode prog_11_method_8_code 116 = .ok (.ifCond .eq 49, 3) := by decide +kernel
theorem dX9_stirs_119 : decode prog_11_method_8_code 119 = .ok (.iload 6, 2) := by decide +kernel
theorem dX9_stirs_121 : decode prog_11_method_8_code 121 = .ok (.ifCond .eq 44, 3) := by decide +kernel
theorem dX9_stirs_124 : decode prog_11_method_8_code 124 = .ok (.lload 7, 2) := by decide +kernel
theorem dX9_stirs_126 : decode prog_11_method_8_code 126 = .ok (.aload_n 0, 1) := by decide +kernel
theorem dX9_stirs_127 : decode prog_11_method_8_code 127 = .ok (.getfield 18, 3) := by decide +kernel
theorem dX9_stirs_130 : decode prog_11_method_8_code 130 = .ok (.iload_n 1, 1) := by decide +kernel
theorem dX9_stirs_131 : decode prog_11_method_8_code 131 = .ok (.laload, 1) := by decide +kernel
theorem dX9_stirs_132 : decode prog_11_method_8_code 132 = .ok (.lcmp, 1) := by decide +kernel
theorem dX9_stirs_133 : decode prog_11_method_8_code 133 = .ok (.ifCond .ge 7, 3) := by decide +kernel
theorem dX9_stirs_136 : decode prog_11_method_8_code 136 = .ok (.iconst 1, 1) := by decide +kernel
theorem dX9_stirs_137 : decode prog_11_method_8_code 137 = .ok (.goto 4, 3) := by decide +kernel
theorem dX9_stirs_140 : decode prog_11_method_8_code 140 = .ok (.iconst 0, 1) := by decide +kernel
theorem dX9_stirs_141 : decode prog_11_method_8_code 141 = .ok (.lload 9, 2) := by decide +kernel
theorem dX9_stirs_143 : decode prog_11_method_8_code 143 = .ok (.aload_n 0, 1) := by decide +kernel
theorem dX9_stirs_144 : decode prog_11_method_8_code 144 = .ok (.getfield 18, 3) := by decide +kernel
theorem dX9_stirs_147 : decode prog_11_method_8_code 147 = .ok (.iload_n 1, 1) := by decide +kernel
theorem dX9_stirs_148 : decode prog_11_method_8_code 148 = .ok (.laload, 1) := by decide +kernel
theorem dX9_stirs_149 : decode prog_11_method_8_code 149 = .ok (.lcmp, 1) := by decide +kernel
theorem dX9_stirs_150 : decode prog_11_method_8_code 150 = .ok (.ifCond .ge 7, 3) := by decide +kernel
theorem dX9_stirs_153 : decode prog_11_method_8_code 153 = .ok (.iconst 1, 1) := by decide +kernel
theorem dX9_stirs_154 : decode prog_11_method_8_code 154 = .ok (.goto 4, 3) := by decide +kernel
theorem dX9_stirs_157 : decode prog_11_method_8_code 157 = .ok (.iconst 0, 1) := by decide +kernel
theorem dX9_stirs_158 : decode prog_11_method_8_code 158 = .ok (.if_icmp .eq 7, 3) := by decide +kernel
theorem dX9_stirs_161 : decode prog_11_method_8_code 161 = .ok (.iconst 1, 1) := by decide +kernel
theorem dX9_stirs_162 : decode prog_11_method_8_code 162 = .ok (.goto 4, 3) := by decide +kernel
theorem dX9_stirs_165 : decode prog_11_method_8_code 165 = .ok (.iconst 0, 1) := by decide +kernel
theorem dX9_stirs_166 : decode prog_11_method_8_code 166 = .ok (.ireturn, 1) := by decide +kernel
theorem dX9_stirs_167 : decode prog_11_method_8_code 167 = .ok (.iload 5, 2) := by decide +kernel
theorem dX9_stirs_169 : decode prog_11_method_8_code 169 = .ok (.iload 6, 2) := by decide +kernel
theorem dX9_stirs_171 : decode prog_11_method_8_code 171 = .ok (.if_icmp .eq 7, 3) := by decide +kernel
theorem dX9_stirs_174 : decode prog_11_method_8_code 174 = .ok (.iconst 1, 1) := by decide +kernel
theorem dX9_stirs_175 : decode prog_11_method_8_code 175 = .ok (.goto 4, 3) := by decide +kernel
theorem dX9_stirs_178 : decode prog_11_method_8_code 178 = .ok (.iconst 0, 1) := by decide +kernel
theorem dX9_stirs_179 : decode prog_11_method_8_code 179 = .ok (.ireturn, 1) := by decide +kernel
/-! ReactiveSheet.Cells.readCount(I)I ['x.engine.before'] -/
abbrev rm_X_X0_readCount__5 : Room := { frames := 1, cells := 0, slots := 0, locals := 21 }
def b_X_X0_readCount__5_18  (t : fw_S) (z0 : Int32) : Option (Int32 × fw_S) := some (z0, t)
def b_X_X0_readCount__5_17  (t : fw_S)  : Option (Int32 × fw_S) := b_X_X0_readCount__5_18 t ((0 : Int32))
def b_X_X0_readCount__5_8  (t : fw_S) (x1 : Int32) : Option (Int32 × fw_S) := fb_g (¬ (x1 < 0 ∨ 32 ≤ x1.toNatClampNeg)) (b_X_X0_readCount__5_18 t (st_F t 21 x1.toNatClampNeg))
def b_X_X0_readCount__5_0  (t : fw_S) (x1 : Int32) : Option (Int32 × fw_S) := fb_b (f_X_X10_isCell t x1.toInt64) fun v_2 t_1 => (if v_2 = 0 then b_X_X0_readCount__5_17 t_1 else b_X_X0_readCount__5_8 t_1 x1)
def f_X_X0_readCount__5 (t : fw_S) (x1 : Int32) : Option (Int32 × fw_S) := b_X_X0_readCount__5_0 t x1
set_option maxRecDepth 20000 in
theorem w_X_X0_readCount__5_18 {p : Program} {l : Launch} {e : Env} {s : State} {m : MethodId} {args : Array Value} {below : List Frame} {meth : Method} {c : Code} {A : Nat → Prop} {Q : State → Prop} {D : va_G} {ca : Nat → ClassId} {a : Nat → Nat} {u : fw_S} {r : Int32}  (C : CX (WX ca a) D (tyv ca) p s m args c A prog_2_method_19_code 2 RX0) (hr : True → RX (WX ca a) D p l e rm_X_X0_readCount__5 s m args below meth c A prog_2_method_19_code Q .ireturn [.int r] u) {t : fw_S} {z0 : Int32} {H : Heap} {locs : List Loc} {ls : Array Slot} (hf : b_X_X0_readCount__5_18  t z0 = some (r, u)) (hP : va_P D classes (WX ca a t) H) (hS : va_S A s.heap H locs) (hl : lv_has ls 2 []) : W p l e rm_X_X0_readCount__5 s m args below meth c H locs 0 0 Q (F0 m 18 ls [.int z0]) := by
  obtain ⟨hx, hb, hml, hown, hts, hN, hK, hD, hA⟩ := id C
  have hf : (some (z0, t)) = some (r, u) := hf
  obtain ⟨e_18, e2_18⟩ := fb_e hf
  subst e_18; subst e2_18
  exact hr trivial _ _ _ _ hP hS dX0_readCount_18
set_option maxRecDepth 20000 in
theorem w_X_X0_readCount__5_17 {p : Program} {l : Launch} {e : Env} {s : State} {m : MethodId} {args : Array Value} {below : List Frame} {meth : Method} {c : Code} {A : Nat → Prop} {Q : State → Prop} {D : va_G} {ca : Nat → ClassId} {a : Nat → Nat} {u : fw_S} {r : Int32}  (C : CX (WX ca a) D (tyv ca) p s m args c A prog_2_method_19_code 2 RX0) (hr : True → RX (WX ca a) D p l e rm_X_X0_readCount__5 s m args below meth c A prog_2_method_19_code Q .ireturn [.int r] u) {t : fw_S}  {H : Heap} {locs : List Loc} {ls : Array Slot} (hf : b_X_X0_readCount__5_17  t  = some (r, u)) (hP : va_P D classes (WX ca a t) H) (hS : va_S A s.heap H locs) (hl : lv_has ls 2 []) : W p l e rm_X_X0_readCount__5 s m args below meth c H locs 0 0 Q (F0 m 17 ls []) := by
  obtain ⟨hx, hb, hml, hown, hts, hN, hK, hD, hA⟩ := id C
  have hf : (b_X_X0_readCount__5_18 t ((0 : Int32))) = some (r, u) := hf
  refine lv_iconst (v := 0) hx hb dX0_readCount_17 (by decide) ?_
  exact w_X_X0_readCount__5_18 C hr hf hP hS (lv_sub hl [] rfl)
set_option maxRecDepth 20000 in
theorem w_X_X0_readCount__5_8 {p : Program} {l : Launch} {e : Env} {s : State} {m : MethodId} {args : Array Value} {below : List Frame} {meth : Method} {c : Code} {A : Nat → Prop} {Q : State → Prop} {D : va_G} {ca : Nat → ClassId} {a : Nat → Nat} {u : fw_S} {r : Int32}  (C : CX (WX ca a) D (tyv ca) p s m args c A prog_2_method_19_code 2 RX0) (hr : True → RX (WX ca a) D p l e rm_X_X0_readCount__5 s m args below meth c A prog_2_method_19_code Q .ireturn [.int r] u) {t : fw_S} {x1 : Int32} {H : Heap} {locs : List Loc} {ls : Array Slot} (hf : b_X_X0_readCount__5_8  t x1 = some (r, u)) (hP : va_P D classes (WX ca a t) H) (hS : va_S A s.heap H locs) (hl : lv_has ls 2 [(0, .ref (a 5)), (1, .int x1)]) : W p l e rm_X_X0_readCount__5 s m args below meth c H locs 0 0 Q (F0 m 8 ls []) := by
  obtain ⟨hx, hb, hml, hown, hts, hN, hK, hD, hA⟩ := id C
  have hf : (fb_g (¬ (x1 < 0 ∨ 32 ≤ x1.toNatClampNeg)) (b_X_X0_readCount__5_18 t (st_F t 21 x1.toNatClampNeg))) = some (r, u) := hf
  refine lv_aload_n hx hb dX0_readCount_8 rfl (lv_at hl 0 rfl) ?_
  refine va_get (D := D) (ci := 0) (v := .ref (a 40)) (C := RX0) (T := TX0) (N := 12) hx hb hts inX0 hown hK hP 5 (heX_5 ca a t) rfl 8 (by decide) (hts _ kw_195) (fun _ h9 => h9) rfl dX0_readCount_9 ?_
  refine lv_iload_n hx hb dX0_readCount_12 rfl (lv_at hl 1 rfl) ?_
  obtain ⟨h_13, hf⟩ := fb_if hf
  refine va_iald hx hb hK hP 40 0 (haX_40 ca a t) rfl h_13 dX0_readCount_13 ?_
  refine lv_goto (tgt := 18) hx hb dX0_readCount_14 (by decide) ?_
  exact w_X_X0_readCount__5_18 C hr hf hP hS (lv_sub hl [] rfl)
set_option maxRecDepth 20000 in
theorem w_X_X0_readCount__5_0 {p : Program} {l : Launch} {e : Env} {s : State} {m : MethodId} {args : Array Value} {below : List Frame} {meth : Method} {c : Code} {A : Nat → Prop} {Q : State → Prop} {D : va_G} {ca : Nat → ClassId} {a : Nat → Nat} {u : fw_S} {r : Int32}  (C : CX (WX ca a) D (tyv ca) p s m args c A prog_2_method_19_code 2 RX0) (hr : True → RX (WX ca a) D p l e rm_X_X0_readCount__5 s m args below meth c A prog_2_method_19_code Q .ireturn [.int r] u) {t : fw_S} {x1 : Int32} {H : Heap} {locs : List Loc} {ls : Array Slot} (hf : b_X_X0_readCount__5_0  t x1 = some (r, u)) (hP : va_P D classes (WX ca a t) H) (hS : va_S A s.heap H locs) (hl : lv_has ls 2 [(0, .ref (a 5)), (1, .int x1)]) : W p l e rm_X_X0_readCount__5 s m args below meth c H locs 0 0 Q (F0 m 0 ls []) := by
  obtain ⟨hx, hb, hml, hown, hts, hN, hK, hD, hA⟩ := id C
  have hf : (fb_b (f_X_X10_isCell t x1.toInt64) fun v_2 t_1 => (if v_2 = 0 then b_X_X0_readCount__5_17 t_1 else b_X_X0_readCount__5_8 t_1 x1)) = some (r, u) := hf
  refine lv_iload_n hx hb dX0_readCount_0 rfl (lv_at hl 1 rfl) ?_
  refine lv_i2l hx hb dX0_readCount_1 rfl ?_
  obtain ⟨v_2, t_1, g_2, hf⟩ := fb_bs hf
  refine fw_S2 (As := [.long x1.toInt64]) (rest := []) (n := 1) C (c_X_X10_isCell (l := l) (D := D) (ca := ca) (a := a) g_2) kw_429 kw_399 kw_92 kw_400 hP hS hl rfl rfl (by decide) (by decide +kernel) ⟨Nat.le_of_ble_eq_true rfl, Nat.le_of_ble_eq_true rfl⟩ rfl rfl (Nat.le_of_ble_eq_true rfl) dX0_readCount_2 (fun H locs hP hS => ?_)
  refine W.eq (g2 := F0 m 5 ls [.int v_2]) rfl ?_
  refine lv_if_eq (tgt := 17) hx hb dX0_readCount_5 (by decide) (fun h_5 => ?_) (fun h_5 => ?_)
  · have hf := fb_t h_5 hf
    exact w_X_X0_readCount__5_17 C hr hf hP hS (lv_sub hl [] rfl)
  · have hf := fb_f h_5 hf
    exact w_X_X0_readCount__5_8 C hr hf hP hS (lv_sub hl [0, 1] rfl)
set_option maxRecDepth 20000 in
theorem c_X_X0_readCount__5 {l : Launch} {D : va_G} {ca : Nat → ClassId} {a : Nat → Nat} {t : fw_S} {x1 : Int32} {u : fw_S} {r : Int32} (hf : f_X_X0_readCount__5 t x1 = some (r, u)) : MC (WX ca a) D (tyv ca) l yX0_readCount (.code yX0_readCount prog_2_method_19_code 2 (some .int) :: lw_gd) rm_X_X0_readCount__5 [.ref (a 5), .int x1] (some (.int r)) t u := by
  refine fw_met (okX ca a) (by decide +kernel) rfl rfl (Nat.le_of_ble_eq_true rfl) ?_
  intro p e s m args below meth c A Q ls C hr hk hP hS hl hQ
  exact w_X_X0_readCount__5_0 C (fun _ => fw_ri C hr hk hQ) hf hP hS (lv_sub hl [0, 1] rfl)
/-! ReactiveSheet.Cells.takeFrom(LReactiveSheet.Cells;)V ['x.engine.now', 'x.engine.before'] -/
abbrev rm_X_X0_takeFrom__4_5 : Room := { frames := 2, cells := 0, slots := 0, locals := 100 }
def b_X_X0_takeFrom__4_5_182  (t : fw_S)  : Option fw_S := fb_l (up_J t 4 (st_J t 6)) fun t_1 => (fb_l (up_J t_1 5 (st_J t_1 7)) fun t_2 => (some t_2))
def b_X_X0_takeFrom__4_5_176 (k122 : fw_S → Int32 → Option fw_S) (t : fw_S) (x2 : Int32) : Option fw_S := k122 t (x2 + 1)
def b_X_X0_takeFrom__4_5_156 (k122 : fw_S → Int32 → Option fw_S) (t : fw_S) (x2 : Int32) (x3 : Int32) : Option fw_S := fb_g (¬ (x2 * ((32 : Int32))) < 0 ∧ ¬ (x2 * ((32 : Int32))) < 0 ∧ ¬ x3 < 0 ∧ (x2 * ((32 : Int32))).toNatClampNeg + x3.toNatClampNeg ≤ 1024 ∧ (x2 * ((32 : Int32))).toNatClampNeg + x3.toNatClampNeg ≤ 1024) (fb_l (up_F t 13 (va_cpy (st_F t 20) (st_F t 13) (x2 * ((32 : Int32))).toNatClampNeg (x2 * ((32 : Int32))).toNatClampNeg x3.toNatClampNeg)) fun t_1 => (b_X_X0_takeFrom__4_5_176 k122 t_1 x2))
def b_X_X0_takeFrom__4_5_150 (k122 : fw_S → Int32 → Option fw_S) (t : fw_S) (x2 : Int32) (x3 : Int32) : Option fw_S := if ((32 : Int32)) < x3 then b_X_X0_takeFrom__4_5_176 k122 t x2 else b_X_X0_takeFrom__4_5_156 k122 t x2 x3
def b_X_X0_takeFrom__4_5_128 (k122 : fw_S → Int32 → Option fw_S) (t : fw_S) (x2 : Int32) : Option fw_S := fb_g (¬ (x2 < 0 ∨ 32 ≤ x2.toNatClampNeg)) (fb_g (¬ (x2 < 0 ∨ 32 ≤ x2.toNatClampNeg)) (fb_b (f_X_X0_readCount__5 t x2) fun v_2 t_1 => (if v_2 ≤ 0 then b_X_X0_takeFrom__4_5_176 k122 t_1 x2 else b_X_X0_takeFrom__4_5_150 k122 t_1 x2 v_2)))
def b_X_X0_takeFrom__4_5_122  : Nat → (fw_S → Int32 → Option fw_S)
  | 0 => fun _ _ => none
  | n + 1 => fun t x2 => if ((32 : Int32)) ≤ x2 then b_X_X0_takeFrom__4_5_182 t else b_X_X0_takeFrom__4_5_128 (b_X_X0_takeFrom__4_5_122 n) t x2
def b_X_X0_takeFrom__4_5_0  (t : fw_S)  : Option fw_S := fb_g (¬ ((0 : Int32)) < 0 ∧ ¬ ((0 : Int32)) < 0 ∧ ¬ ((32 : Int32)) < 0 ∧ ((0 : Int32)).toNatClampNeg + ((32 : Int32)).toNatClampNeg ≤ 32 ∧ ((0 : Int32)).toNatClampNeg + ((32 : Int32)).toNatClampNeg ≤ 32) (fb_l (up_F t 8 (va_cpy (st_F t 15) (st_F t 8) ((0 : Int32)).toNatClampNeg ((0 : Int32)).toNatClampNeg ((32 : Int32)).toNatClampNeg)) fun t_1 => (fb_g (¬ ((0 : Int32)) < 0 ∧ ¬ ((0 : Int32)) < 0 ∧ ¬ ((32 : Int32)) < 0 ∧ ((0 : Int32)).toNatClampNeg + ((32 : Int32)).toNatClampNeg ≤ 32 ∧ ((0 : Int32)).toNatClampNeg + ((32 : Int32)).toNatClampNeg ≤ 32) (fb_l (up_G t_1 0 (va_cpy (st_G t_1 2) (st_G t_1 0) ((0 : Int32)).toNatClampNeg ((0 : Int32)).toNatClampNeg ((32 : Int32)).toNatClampNeg)) fun t_2 => (fb_g (¬ ((0 : Int32)) < 0 ∧ ¬ ((0 : Int32)) < 0 ∧ ¬ ((32 : Int32)) < 0 ∧ ((0 : Int32)).toNatClampNeg + ((32 : Int32)).toNatClampNeg ≤ 32 ∧ ((0 : Int32)).toNatClampNeg + ((32 : Int32)).toNatClampNeg ≤ 32) (fb_l (up_F t_2 9 (va_cpy (st_F t_2 16) (st_F t_2 9) ((0 : Int32)).toNatClampNeg ((0 : Int32)).toNatClampNeg ((32 : Int32)).toNatClampNeg)) fun t_3 => (fb_g (¬ ((0 : Int32)) < 0 ∧ ¬ ((0 : Int32)) < 0 ∧ ¬ ((32 : Int32)) < 0 ∧ ((0 : Int32)).toNatClampNeg + ((32 : Int32)).toNatClampNeg ≤ 32 ∧ ((0 : Int32)).toNatClampNeg + ((32 : Int32)).toNatClampNeg ≤ 32) (fb_l (up_F t_3 10 (va_cpy (st_F t_3 17) (st_F t_3 10) ((0 : Int32)).toNatClampNeg ((0 : Int32)).toNatClampNeg ((32 : Int32)).toNatClampNeg)) fun t_4 => (fb_g (¬ ((0 : Int32)) < 0 ∧ ¬ ((0 : Int32)) < 0 ∧ ¬ ((32 : Int32)) < 0 ∧ ((0 : Int32)).toNatClampNeg + ((32 : Int32)).toNatClampNeg ≤ 32 ∧ ((0 : Int32)).toNatClampNeg + ((32 : Int32)).toNatClampNeg ≤ 32) (fb_l (up_F t_4 11 (va_cpy (st_F t_4 18) (st_F t_4 11) ((0 : Int32)).toNatClampNeg ((0 : Int32)).toNatClampNeg ((32 : Int32)).toNatClampNeg)) fun t_5 => (fb_g (¬ ((0 : Int32)) < 0 ∧ ¬ ((0 : Int32)) < 0 ∧ ¬ ((32 : Int32)) < 0 ∧ ((0 : Int32)).toNatClampNeg + ((32 : Int32)).toNatClampNeg ≤ 32 ∧ ((0 : Int32)).toNatClampNeg + ((32 : Int32)).toNatClampNeg ≤ 32) (fb_l (up_F t_5 12 (va_cpy (st_F t_5 19) (st_F t_5 12) ((0 : Int32)).toNatClampNeg ((0 : Int32)).toNatClampNeg ((32 : Int32)).toNatClampNeg)) fun t_6 => (fb_g (¬ ((0 : Int32)) < 0 ∧ ¬ ((0 : Int32)) < 0 ∧ ¬ ((32 : Int32)) < 0 ∧ ((0 : Int32)).toNatClampNeg + ((32 : Int32)).toNatClampNeg ≤ 32 ∧ ((0 : Int32)).toNatClampNeg + ((32 : Int32)).toNatClampNeg ≤ 32) (fb_l (up_F t_6 14 (va_cpy (st_F t_6 21) (st_F t_6 14) ((0 : Int32)).toNatClampNeg ((0 : Int32)).toNatClampNeg ((32 : Int32)).toNatClampNeg)) fun t_7 => (fb_g (¬ ((0 : Int32)) < 0 ∧ ¬ ((0 : Int32)) < 0 ∧ ¬ ((32 : Int32)) < 0 ∧ ((0 : Int32)).toNatClampNeg + ((32 : Int32)).toNatClampNeg ≤ 32 ∧ ((0 : Int32)).toNatClampNeg + ((32 : Int32)).toNatClampNeg ≤ 32) (fb_l (up_G t_7 1 (va_cpy (st_G t_7 3) (st_G t_7 1) ((0 : Int32)).toNatClampNeg ((0 : Int32)).toNatClampNeg ((32 : Int32)).toNatClampNeg)) fun t_8 => (b_X_X0_takeFrom__4_5_122 3000 t_8 ((0 : Int32))))))))))))))))))
def f_X_X0_takeFrom__4_5 (t : fw_S)  : Option fw_S := b_X_X0_takeFrom__4_5_0 t 
set_option maxRecDepth 20000 in
theorem w_X_X0_takeFrom__4_5_182 {p : Program} {l : Launch} {e : Env} {s : State} {m : MethodId} {args : Array Value} {below : List Frame} {meth : Method} {c : Code} {A : Nat → Prop} {Q : State → Prop} {D : va_G} {ca : Nat → ClassId} {a : Nat → Nat} {u : fw_S}  (C : CX (WX ca a) D (tyv ca) p s m args c A prog_2_method_2_code 4 RX0) (hr : True → RX (WX ca a) D p l e rm_X_X0_takeFrom__4_5 s m args below meth c A prog_2_method_2_code Q .return_ [] u) {t : fw_S}  {H : Heap} {locs : List Loc} {ls : Array Slot} (hf : b_X_X0_takeFrom__4_5_182  t  = some u) (hP : va_P D classes (WX ca a t) H) (hS : va_S A s.heap H locs) (hl : lv_has ls 4 [(0, .ref (a 4)), (1, .ref (a 5))]) : W p l e rm_X_X0_takeFrom__4_5 s m args below meth c H locs 0 0 Q (F0 m 182 ls []) := by
  obtain ⟨hx, hb, hml, hown, hts, hN, hK, hD, hA⟩ := id C
  have hf : (fb_l (up_J t 4 (st_J t 6)) fun t_1 => (fb_l (up_J t_1 5 (st_J t_1 7)) fun t_2 => (some t_2))) = some u := hf
  refine lv_aload_n hx hb dX0_takeFrom_182 rfl (lv_at hl 0 rfl) ?_
  refine lv_aload_n hx hb dX0_takeFrom_183 rfl (lv_at hl 1 rfl) ?_
  refine va_get (D := D) (ci := 0) (v := .long (st_J t 6)) (C := RX0) (T := TX0) (N := 12) hx hb hts inX0 hown hK hP 5 (heX_5 ca a t) rfl 10 (by decide) (hts _ kw_197) (fun _ h9 => h9) rfl dX0_takeFrom_184 ?_
  refine va_put (D := D) (ci := 0) (v := .long (st_J t 6)) (ty := .long) (C := RX0) (T := TX0) (N := 12) hx hb hts inX0 tyX0 tyX0_ok nmX0 hown hK hP (hD t) hS 4 (heX_4 ca a t) rfl 10 (by decide) (hts _ kw_197) (fun _ h9 => h9) rfl (by decide +kernel) rfl rfl (Nat.le_of_ble_eq_true rfl) dX0_takeFrom_187 (fun H locs hP _ hS => ?_)
  rw [suX_4_10] at hP
  obtain ⟨t_1, e_187, hf⟩ := fb_ls hf
  rw [← e_187] at hP
  refine lv_aload_n hx hb dX0_takeFrom_190 rfl (lv_at hl 0 rfl) ?_
  refine lv_aload_n hx hb dX0_takeFrom_191 rfl (lv_at hl 1 rfl) ?_
  refine va_get (D := D) (ci := 0) (v := .long (st_J t_1 7)) (C := RX0) (T := TX0) (N := 12) hx hb hts inX0 hown hK hP 5 (heX_5 ca a t_1) rfl 11 (by decide) (hts _ kw_198) (fun _ h9 => h9) rfl dX0_takeFrom_192 ?_
  refine va_put (D := D) (ci := 0) (v := .long (st_J t_1 7)) (ty := .long) (C := RX0) (T := TX0) (N := 12) hx hb hts inX0 tyX0 tyX0_ok nmX0 hown hK hP (hD t_1) hS 4 (heX_4 ca a t_1) rfl 11 (by decide) (hts _ kw_198) (fun _ h9 => h9) rfl (by decide +kernel) rfl rfl (Nat.le_of_ble_eq_true rfl) dX0_takeFrom_195 (fun H locs hP _ hS => ?_)
  rw [suX_4_11] at hP
  obtain ⟨t_2, e_195, hf⟩ := fb_ls hf
  rw [← e_195] at hP
  have e_198 := fb_ev hf
  subst e_198
  exact hr trivial _ _ _ _ hP hS dX0_takeFrom_198
set_option maxRecDepth 20000 in
theorem w_X_X0_takeFrom__4_5_176 {p : Program} {l : Launch} {e : Env} {s : State} {m : MethodId} {args : Array Value} {below : List Frame} {meth : Method} {c : Code} {A : Nat → Prop} {Q : State → Prop} {D : va_G} {ca : Nat → ClassId} {a : Nat → Nat} {u : fw_S} {k122 : fw_S → Int32 → Option fw_S} (C : CX (WX ca a) D (tyv ca) p s m args c A prog_2_method_2_code 4 RX0) (hr : True → RX (WX ca a) D p l e rm_X_X0_takeFrom__4_5 s m args below meth c A prog_2_method_2_code Q .return_ [] u) (hk122 : ∀ (t : fw_S) (x2 : Int32) (H : Heap) (locs : List Loc) (ls : Array Slot), k122 t x2 = some u → va_P D classes (WX ca a t) H → va_S A s.heap H locs → lv_has ls 4 [(0, .ref (a 4)), (1, .ref (a 5)), (2, .int x2)] → W p l e rm_X_X0_takeFrom__4_5 s m args below meth c H locs 0 0 Q (F0 m 122 ls [])) {t : fw_S} {x2 : Int32} {H : Heap} {locs : List Loc} {ls : Array Slot} (hf : b_X_X0_takeFrom__4_5_176 k122 t x2 = some u) (hP : va_P D classes (WX ca a t) H) (hS : va_S A s.heap H locs) (hl : lv_has ls 4 [(0, .ref (a 4)), (1, .ref (a 5)), (2, .int x2)]) : W p l e rm_X_X0_takeFrom__4_5 s m args below meth c H locs 0 0 Q (F0 m 176 ls []) := by
  obtain ⟨hx, hb, hml, hown, hts, hN, hK, hD, hA⟩ := id C
  have hf : (k122 t (x2 + 1)) = some u := hf
  refine lv_iinc (v := x2 + 1) (lv' := [(2, .int (x2 + 1)), (0, .ref (a 4)), (1, .ref (a 5))]) hx hb dX0_takeFrom_176 hl (k := 2) rfl rfl (by decide) rfl (fun ls hl => ?_)
  refine lv_goto (tgt := 122) hx hb dX0_takeFrom_179 (by decide) ?_
  exact hk122 t (x2 + 1) _ _ _ hf hP hS (lv_sub hl [1, 2, 0] rfl)
set_option maxRecDepth 20000 in
theorem w_X_X0_takeFrom__4_5_156 {p : Program} {l : Launch} {e : Env} {s : State} {m : MethodId} {args : Array Value} {below : List Frame} {meth : Method} {c : Code} {A : Nat → Prop} {Q : State → Prop} {D : va_G} {ca : Nat → ClassId} {a : Nat → Nat} {u : fw_S} {k122 : fw_S → Int32 → Option fw_S} (C : CX (WX ca a) D (tyv ca) p s m args c A prog_2_method_2_code 4 RX0) (hr : True → RX (WX ca a) D p l e rm_X_X0_takeFrom__4_5 s m args below meth c A prog_2_method_2_code Q .return_ [] u) (hk122 : ∀ (t : fw_S) (x2 : Int32) (H : Heap) (locs : List Loc) (ls : Array Slot), k122 t x2 = some u → va_P D classes (WX ca a t) H → va_S A s.heap H locs → lv_has ls 4 [(0, .ref (a 4)), (1, .ref (a 5)), (2, .int x2)] → W p l e rm_X_X0_takeFrom__4_5 s m args below meth c H locs 0 0 Q (F0 m 122 ls [])) {t : fw_S} {x2 : Int32} {x3 : Int32} {H : Heap} {locs : List Loc} {ls : Array Slot} (hf : b_X_X0_takeFrom__4_5_156 k122 t x2 x3 = some u) (hP : va_P D classes (WX ca a t) H) (hS : va_S A s.heap H locs) (hl : lv_has ls 4 [(0, .ref (a 4)), (1, .ref (a 5)), (2, .int x2), (3, .int x3)]) : W p l e rm_X_X0_takeFrom__4_5 s m args below meth c H locs 0 0 Q (F0 m 156 ls []) := by
  obtain ⟨hx, hb, hml, hown, hts, hN, hK, hD, hA⟩ := id C
  have hf : (fb_g (¬ (x2 * ((32 : Int32))) < 0 ∧ ¬ (x2 * ((32 : Int32))) < 0 ∧ ¬ x3 < 0 ∧ (x2 * ((32 : Int32))).toNatClampNeg + x3.toNatClampNeg ≤ 1024 ∧ (x2 * ((32 : Int32))).toNatClampNeg + x3.toNatClampNeg ≤ 1024) (fb_l (up_F t 13 (va_cpy (st_F t 20) (st_F t 13) (x2 * ((32 : Int32))).toNatClampNeg (x2 * ((32 : Int32))).toNatClampNeg x3.toNatClampNeg)) fun t_1 => (b_X_X0_takeFrom__4_5_176 k122 t_1 x2))) = some u := hf
  refine lv_aload_n hx hb dX0_takeFrom_156 rfl (lv_at hl 1 rfl) ?_
  refine va_get (D := D) (ci := 0) (v := .ref (a 39)) (C := RX0) (T := TX0) (N := 12) hx hb hts inX0 hown hK hP 5 (heX_5 ca a t) rfl 7 (by decide) (hts _ kw_194) (fun _ h9 => h9) rfl dX0_takeFrom_157 ?_
  refine lv_iload_n hx hb dX0_takeFrom_160 rfl (lv_at hl 2 rfl) ?_
  refine lv_bipush (v := 32) hx hb dX0_takeFrom_161 (by decide) ?_
  refine lv_imul hx hb dX0_takeFrom_163 ?_
  refine lv_aload_n hx hb dX0_takeFrom_164 rfl (lv_at hl 0 rfl) ?_
  refine va_get (D := D) (ci := 0) (v := .ref (a 29)) (C := RX0) (T := TX0) (N := 12) hx hb hts inX0 hown hK hP 4 (heX_4 ca a t) rfl 7 (by decide) (hts _ kw_194) (fun _ h9 => h9) rfl dX0_takeFrom_165 ?_
  refine lv_iload_n hx hb dX0_takeFrom_168 rfl (lv_at hl 2 rfl) ?_
  refine lv_bipush (v := 32) hx hb dX0_takeFrom_169 (by decide) ?_
  refine lv_imul hx hb dX0_takeFrom_171 ?_
  refine lv_iload_n hx hb dX0_takeFrom_172 rfl (lv_at hl 3 rfl) ?_
  obtain ⟨⟨h1_173, h2_173, h3_173, h4_173, h5_173⟩, hf⟩ := fb_if hf
  refine va_copyi hx hb (hml.trans hl.1.symm) hown (hts _ kw_422) (hts _ kw_424) (hts _ kw_423) (hts _ kw_103) hK hP (hD t) hS 39 29 0 0 (haX_39 ca a t) (haX_29 ca a t) rfl rfl rfl h1_173 h2_173 h3_173 h4_173 h5_173 (fun _ _ => rfl) (Nat.le_of_ble_eq_true rfl) (Nat.le_of_ble_eq_true rfl) dX0_takeFrom_173 (fun H locs hP _ hS => ?_)
  rw [saX_29] at hP
  obtain ⟨t_1, e_173, hf⟩ := fb_ls hf
  rw [← e_173] at hP
  exact w_X_X0_takeFrom__4_5_176 C hr hk122 hf hP hS (lv_sub hl [0, 1, 2] rfl)
set_option maxRecDepth 20000 in
theorem w_X_X0_takeFrom__4_5_150 {p : Program} {l : Launch} {e : Env} {s : State} {m : MethodId} {args : Array Value} {below : List Frame} {meth : Method} {c : Code} {A : Nat → Prop} {Q : State → Prop} {D : va_G} {ca : Nat → ClassId} {a : Nat → Nat} {u : fw_S} {k122 : fw_S → Int32 → Option fw_S} (C : CX (WX ca a) D (tyv ca) p s m args c A prog_2_method_2_code 4 RX0) (hr : True → RX (WX ca a) D p l e rm_X_X0_takeFrom__4_5 s m args below meth c A prog_2_method_2_code Q .return_ [] u) (hk122 : ∀ (t : fw_S) (x2 : Int32) (H : Heap) (locs : List Loc) (ls : Array Slot), k122 t x2 = some u → va_P D classes (WX ca a t) H → va_S A s.heap H locs → lv_has ls 4 [(0, .ref (a 4)), (1, .ref (a 5)), (2, .int x2)] → W p l e rm_X_X0_takeFrom__4_5 s m args below meth c H locs 0 0 Q (F0 m 122 ls [])) {t : fw_S} {x2 : Int32} {x3 : Int32} {H : Heap} {locs : List Loc} {ls : Array Slot} (hf : b_X_X0_takeFrom__4_5_150 k122 t x2 x3 = some u) (hP : va_P D classes (WX ca a t) H) (hS : va_S A s.heap H locs) (hl : lv_has ls 4 [(0, .ref (a 4)), (1, .ref (a 5)), (2, .int x2), (3, .int x3)]) : W p l e rm_X_X0_takeFrom__4_5 s m args below meth c H locs 0 0 Q (F0 m 150 ls []) := by
  obtain ⟨hx, hb, hml, hown, hts, hN, hK, hD, hA⟩ := id C
  have hf : (if ((32 : Int32)) < x3 then b_X_X0_takeFrom__4_5_176 k122 t x2 else b_X_X0_takeFrom__4_5_156 k122 t x2 x3) = some u := hf
  refine lv_iload_n hx hb dX0_takeFrom_150 rfl (lv_at hl 3 rfl) ?_
  refine lv_bipush (v := 32) hx hb dX0_takeFrom_151 (by decide) ?_
  refine lv_icmp_gt (tgt := 176) hx hb dX0_takeFrom_153 (by decide) (fun h_153 => ?_) (fun h_153 => ?_)
  · have hf := fb_t h_153 hf
    exact w_X_X0_takeFrom__4_5_176 C hr hk122 hf hP hS (lv_sub hl [0, 1, 2] rfl)
  · have hf := fb_f h_153 hf
    exact w_X_X0_takeFrom__4_5_156 C hr hk122 hf hP hS (lv_sub hl [0, 1, 2, 3] rfl)
set_option maxRecDepth 20000 in
theorem w_X_X0_takeFrom__4_5_128 {p : Program} {l : Launch} {e : Env} {s : State} {m : MethodId} {args : Array Value} {below : List Frame} {meth : Method} {c : Code} {A : Nat → Prop} {Q : State → Prop} {D : va_G} {ca : Nat → ClassId} {a : Nat → Nat} {u : fw_S} {k122 : fw_S → Int32 → Option fw_S} (C : CX (WX ca a) D (tyv ca) p s m args c A prog_2_method_2_code 4 RX0) (hr : True → RX (WX ca a) D p l e rm_X_X0_takeFrom__4_5 s m args below meth c A prog_2_method_2_code Q .return_ [] u) (hk122 : ∀ (t : fw_S) (x2 : Int32) (H : Heap) (locs : List Loc) (ls : Array Slot), k122 t x2 = some u → va_P D classes (WX ca a t) H → va_S A s.heap H locs → lv_has ls 4 [(0, .ref (a 4)), (1, .ref (a 5)), (2, .int x2)] → W p l e rm_X_X0_takeFrom__4_5 s m args below meth c H locs 0 0 Q (F0 m 122 ls [])) {t : fw_S} {x2 : Int32} {H : Heap} {locs : List Loc} {ls : Array Slot} (hf : b_X_X0_takeFrom__4_5_128 k122 t x2 = some u) (hP : va_P D classes (WX ca a t) H) (hS : va_S A s.heap H locs) (hl : lv_has ls 4 [(0, .ref (a 4)), (1, .ref (a 5)), (2, .int x2)]) : W p l e rm_X_X0_takeFrom__4_5 s m args below meth c H locs 0 0 Q (F0 m 128 ls []) := by
  obtain ⟨hx, hb, hml, hown, hts, hN, hK, hD, hA⟩ := id C
  have hf : (fb_g (¬ (x2 < 0 ∨ 32 ≤ x2.toNatClampNeg)) (fb_g (¬ (x2 < 0 ∨ 32 ≤ x2.toNatClampNeg)) (fb_b (f_X_X0_readCount__5 t x2) fun v_2 t_1 => (if v_2 ≤ 0 then b_X_X0_takeFrom__4_5_176 k122 t_1 x2 else b_X_X0_takeFrom__4_5_150 k122 t_1 x2 v_2)))) = some u := hf
  refine lv_aload_n hx hb dX0_takeFrom_128 rfl (lv_at hl 0 rfl) ?_
  refine va_get (D := D) (ci := 0) (v := .ref (a 25)) (C := RX0) (T := TX0) (N := 12) hx hb hts inX0 hown hK hP 4 (heX_4 ca a t) rfl 3 (by decide) (hts _ kw_190) (fun _ h9 => h9) rfl dX0_takeFrom_129 ?_
  refine lv_iload_n hx hb dX0_takeFrom_132 rfl (lv_at hl 2 rfl) ?_
  refine lv_aload_n hx hb dX0_takeFrom_133 rfl (lv_at hl 1 rfl) ?_
  refine va_get (D := D) (ci := 0) (v := .ref (a 35)) (C := RX0) (T := TX0) (N := 12) hx hb hts inX0 hown hK hP 5 (heX_5 ca a t) rfl 3 (by decide) (hts _ kw_190) (fun _ h9 => h9) rfl dX0_takeFrom_134 ?_
  refine lv_iload_n hx hb dX0_takeFrom_137 rfl (lv_at hl 2 rfl) ?_
  obtain ⟨h_138, hf⟩ := fb_if hf
  refine va_aldq hx hb hK hP 35 3 (haX_35 ca a t) rfl h_138 dX0_takeFrom_138 ?_
  obtain ⟨h_139, hf⟩ := fb_if hf
  refine va_astqN (C := "ReactiveSheet$Formula") hx hb hK hP (hD t) hS 25 3 (haX_25 ca a t) rfl h_139 dX0_takeFrom_139 (fun H locs hP _ hS => ?_)
  rw [fb_nq, saX_25] at hP
  refine lv_aload_n hx hb dX0_takeFrom_140 rfl (lv_at hl 1 rfl) ?_
  refine lv_iload_n hx hb dX0_takeFrom_141 rfl (lv_at hl 2 rfl) ?_
  obtain ⟨v_2, t_1, g_142, hf⟩ := fb_bs hf
  refine fw_V1 (As := [.int x2]) (rest := []) (n := 1) (q0 := 5) C (c_X_X0_readCount__5 (l := l) (D := D) (ca := ca) (a := a) g_142) kw_425 kw_426 kw_96 kw_428 kw_427 hP hS hl (heX_5 ca a t) rfl rfl rfl (by decide) (by decide +kernel) ⟨Nat.le_of_ble_eq_true rfl, Nat.le_of_ble_eq_true rfl⟩ rfl rfl (Nat.le_of_ble_eq_true rfl) dX0_takeFrom_142 (fun H locs hP hS => ?_)
  refine W.eq (g2 := F0 m 145 ls [.int v_2]) rfl ?_
  refine lv_istore_n (lv' := [(3, .int v_2), (0, .ref (a 4)), (1, .ref (a 5)), (2, .int x2)]) hx hb dX0_takeFrom_145 rfl hl (by decide) rfl (fun ls hl => ?_)
  refine lv_iload_n hx hb dX0_takeFrom_146 rfl (lv_at hl 0 rfl) ?_
  refine lv_if_le (tgt := 176) hx hb dX0_takeFrom_147 (by decide) (fun h_147 => ?_) (fun h_147 => ?_)
  · have hf := fb_t h_147 hf
    exact w_X_X0_takeFrom__4_5_176 C hr hk122 hf hP hS (lv_sub hl [1, 2, 3] rfl)
  · have hf := fb_f h_147 hf
    exact w_X_X0_takeFrom__4_5_150 C hr hk122 hf hP hS (lv_sub hl [1, 2, 3, 0] rfl)
set_option maxRecDepth 20000 in
theorem w_X_X0_takeFrom__4_5_122 {p : Program} {l : Launch} {e : Env} {s : State} {m : MethodId} {args : Array Value} {below : List Frame} {meth : Method} {c : Code} {A : Nat → Prop} {Q : State → Prop} {D : va_G} {ca : Nat → ClassId} {a : Nat → Nat} {u : fw_S}  (C : CX (WX ca a) D (tyv ca) p s m args c A prog_2_method_2_code 4 RX0) (hr : True → RX (WX ca a) D p l e rm_X_X0_takeFrom__4_5 s m args below meth c A prog_2_method_2_code Q .return_ [] u) : ∀ (n : Nat) (t : fw_S) (x2 : Int32) (H : Heap) (locs : List Loc) (ls : Array Slot), b_X_X0_takeFrom__4_5_122  n t x2 = some u → va_P D classes (WX ca a t) H → va_S A s.heap H locs → lv_has ls 4 [(0, .ref (a 4)), (1, .ref (a 5)), (2, .int x2)] → W p l e rm_X_X0_takeFrom__4_5 s m args below meth c H locs 0 0 Q (F0 m 122 ls []) := by
  obtain ⟨hx, hb, hml, hown, hts, hN, hK, hD, hA⟩ := id C
  intro n
  induction n with
  | zero => intro t x2 H locs ls hf; cases hf
  | succ n hk122 =>
    intro t x2 H locs ls hf hP hS hl
    have hf : (if ((32 : Int32)) ≤ x2 then b_X_X0_takeFrom__4_5_182 t else b_X_X0_takeFrom__4_5_128 (b_X_X0_takeFrom__4_5_122 n) t x2) = some u := hf
    refine lv_iload_n hx hb dX0_takeFrom_122 rfl (lv_at hl 2 rfl) ?_
    refine lv_bipush (v := 32) hx hb dX0_takeFrom_123 (by decide) ?_
    refine lv_icmp_ge (tgt := 182) hx hb dX0_takeFrom_125 (by decide) (fun h_125 => ?_) (fun h_125 => ?_)
    · have hf := fb_t h_125 hf
      exact w_X_X0_takeFrom__4_5_182 C hr hf hP hS (lv_sub hl [0, 1] rfl)
    · have hf := fb_f h_125 hf
      exact w_X_X0_takeFrom__4_5_128 C hr hk122 hf hP hS (lv_sub hl [0, 1, 2] rfl)
set_option maxRecDepth 20000 in
theorem w_X_X0_takeFrom__4_5_0 {p : Program} {l : Launch} {e : Env} {s : State} {m : MethodId} {args : Array Value} {below : List Frame} {meth : Method} {c : Code} {A : Nat → Prop} {Q : State → Prop} {D : va_G} {ca : Nat → ClassId} {a : Nat → Nat} {u : fw_S}  (C : CX (WX ca a) D (tyv ca) p s m args c A prog_2_method_2_code 4 RX0) (hr : True → RX (WX ca a) D p l e rm_X_X0_takeFrom__4_5 s m args below meth c A prog_2_method_2_code Q .return_ [] u) {t : fw_S}  {H : Heap} {locs : List Loc} {ls : Array Slot} (hf : b_X_X0_takeFrom__4_5_0  t  = some u) (hP : va_P D classes (WX ca a t) H) (hS : va_S A s.heap H locs) (hl : lv_has ls 4 [(0, .ref (a 4)), (1, .ref (a 5))]) : W p l e rm_X_X0_takeFrom__4_5 s m args below meth c H locs 0 0 Q (F0 m 0 ls []) := by
  obtain ⟨hx, hb, hml, hown, hts, hN, hK, hD, hA⟩ := id C
  have hf : (fb_g (¬ ((0 : Int32)) < 0 ∧ ¬ ((0 : Int32)) < 0 ∧ ¬ ((32 : Int32)) < 0 ∧ ((0 : Int32)).toNatClampNeg + ((32 : Int32)).toNatClampNeg ≤ 32 ∧ ((0 : Int32)).toNatClampNeg + ((32 : Int32)).toNatClampNeg ≤ 32) (fb_l (up_F t 8 (va_cpy (st_F t 15) (st_F t 8) ((0 : Int32)).toNatClampNeg ((0 : Int32)).toNatClampNeg ((32 : Int32)).toNatClampNeg)) fun t_1 => (fb_g (¬ ((0 : Int32)) < 0 ∧ ¬ ((0 : Int32)) < 0 ∧ ¬ ((32 : Int32)) < 0 ∧ ((0 : Int32)).toNatClampNeg + ((32 : Int32)).toNatClampNeg ≤ 32 ∧ ((0 : Int32)).toNatClampNeg + ((32 : Int32)).toNatClampNeg ≤ 32) (fb_l (up_G t_1 0 (va_cpy (st_G t_1 2) (st_G t_1 0) ((0 : Int32)).toNatClampNeg ((0 : Int32)).toNatClampNeg ((32 : Int32)).toNatClampNeg)) fun t_2 => (fb_g (¬ ((0 : Int32)) < 0 ∧ ¬ ((0 : Int32)) < 0 ∧ ¬ ((32 : Int32)) < 0 ∧ ((0 : Int32)).toNatClampNeg + ((32 : Int32)).toNatClampNeg ≤ 32 ∧ ((0 : Int32)).toNatClampNeg + ((32 : Int32)).toNatClampNeg ≤ 32) (fb_l (up_F t_2 9 (va_cpy (st_F t_2 16) (st_F t_2 9) ((0 : Int32)).toNatClampNeg ((0 : Int32)).toNatClampNeg ((32 : Int32)).toNatClampNeg)) fun t_3 => (fb_g (¬ ((0 : Int32)) < 0 ∧ ¬ ((0 : Int32)) < 0 ∧ ¬ ((32 : Int32)) < 0 ∧ ((0 : Int32)).toNatClampNeg + ((32 : Int32)).toNatClampNeg ≤ 32 ∧ ((0 : Int32)).toNatClampNeg + ((32 : Int32)).toNatClampNeg ≤ 32) (fb_l (up_F t_3 10 (va_cpy (st_F t_3 17) (st_F t_3 10) ((0 : Int32)).toNatClampNeg ((0 : Int32)).toNatClampNeg ((32 : Int32)).toNatClampNeg)) fun t_4 => (fb_g (¬ ((0 : Int32)) < 0 ∧ ¬ ((0 : Int32)) < 0 ∧ ¬ ((32 : Int32)) < 0 ∧ ((0 : Int32)).toNatClampNeg + ((32 : Int32)).toNatClampNeg ≤ 32 ∧ ((0 : Int32)).toNatClampNeg + ((32 : Int32)).toNatClampNeg ≤ 32) (fb_l (up_F t_4 11 (va_cpy (st_F t_4 18) (st_F t_4 11) ((0 : Int32)).toNatClampNeg ((0 : Int32)).toNatClampNeg ((32 : Int32)).toNatClampNeg)) fun t_5 => (fb_g (¬ ((0 : Int32)) < 0 ∧ ¬ ((0 : Int32)) < 0 ∧ ¬ ((32 : Int32)) < 0 ∧ ((0 : Int32)).toNatClampNeg + ((32 : Int32)).toNatClampNeg ≤ 32 ∧ ((0 : Int32)).toNatClampNeg + ((32 : Int32)).toNatClampNeg ≤ 32) (fb_l (up_F t_5 12 (va_cpy (st_F t_5 19) (st_F t_5 12) ((0 : Int32)).toNatClampNeg ((0 : Int32)).toNatClampNeg ((32 : Int32)).toNatClampNeg)) fun t_6 => (fb_g (¬ ((0 : Int32)) < 0 ∧ ¬ ((0 : Int32)) < 0 ∧ ¬ ((32 : Int32)) < 0 ∧ ((0 : Int32)).toNatClampNeg + ((32 : Int32)).toNatClampNeg ≤ 32 ∧ ((0 : Int32)).toNatClampNeg + ((32 : Int32)).toNatClampNeg ≤ 32) (fb_l (up_F t_6 14 (va_cpy (st_F t_6 21) (st_F t_6 14) ((0 : Int32)).toNatClampNeg ((0 : Int32)).toNatClampNeg ((32 : Int32)).toNatClampNeg)) fun t_7 => (fb_g (¬ ((0 : Int32)) < 0 ∧ ¬ ((0 : Int32)) < 0 ∧ ¬ ((32 : Int32)) < 0 ∧ ((0 : Int32)).toNatClampNeg + ((32 : Int32)).toNatClampNeg ≤ 32 ∧ ((0 : Int32)).toNatClampNeg + ((32 : Int32)).toNatClampNeg ≤ 32) (fb_l (up_G t_7 1 (va_cpy (st_G t_7 3) (st_G t_7 1) ((0 : Int32)).toNatClampNeg ((0 : Int32)).toNatClampNeg ((32 : Int32)).toNatClampNeg)) fun t_8 => (b_X_X0_takeFrom__4_5_122 3000 t_8 ((0 : Int32))))))))))))))))))) = some u := hf
  refine lv_aload_n hx hb dX0_takeFrom_0 rfl (lv_at hl 1 rfl) ?_
  refine va_get (D := D) (ci := 0) (v := .ref (a 32)) (C := RX0) (T := TX0) (N := 12) hx hb hts inX0 hown hK hP 5 (heX_5 ca a t) rfl 0 (by decide) (hts _ kw_187) (fun _ h9 => h9) rfl dX0_takeFrom_1 ?_
  refine lv_iconst (v := 0) hx hb dX0_takeFrom_4 (by decide) ?_
  refine lv_aload_n hx hb dX0_takeFrom_5 rfl (lv_at hl 0 rfl) ?_
  refine va_get (D := D) (ci := 0) (v := .ref (a 22)) (C := RX0) (T := TX0) (N := 12) hx hb hts inX0 hown hK hP 4 (heX_4 ca a t) rfl 0 (by decide) (hts _ kw_187) (fun _ h9 => h9) rfl dX0_takeFrom_6 ?_
  refine lv_iconst (v := 0) hx hb dX0_takeFrom_9 (by decide) ?_
  refine lv_bipush (v := 32) hx hb dX0_takeFrom_10 (by decide) ?_
  obtain ⟨⟨h1_12, h2_12, h3_12, h4_12, h5_12⟩, hf⟩ := fb_if hf
  refine va_copyi hx hb (hml.trans hl.1.symm) hown (hts _ kw_422) (hts _ kw_424) (hts _ kw_423) (hts _ kw_103) hK hP (hD t) hS 32 22 0 0 (haX_32 ca a t) (haX_22 ca a t) rfl rfl rfl h1_12 h2_12 h3_12 h4_12 h5_12 (fun _ _ => rfl) (Nat.le_of_ble_eq_true rfl) (Nat.le_of_ble_eq_true rfl) dX0_takeFrom_12 (fun H locs hP _ hS => ?_)
  rw [saX_22] at hP
  obtain ⟨t_1, e_12, hf⟩ := fb_ls hf
  rw [← e_12] at hP
  refine lv_aload_n hx hb dX0_takeFrom_15 rfl (lv_at hl 1 rfl) ?_
  refine va_get (D := D) (ci := 0) (v := .ref (a 33)) (C := RX0) (T := TX0) (N := 12) hx hb hts inX0 hown hK hP 5 (heX_5 ca a t_1) rfl 1 (by decide) (hts _ kw_188) (fun _ h9 => h9) rfl dX0_takeFrom_16 ?_
  refine lv_iconst (v := 0) hx hb dX0_takeFrom_19 (by decide) ?_
  refine lv_aload_n hx hb dX0_takeFrom_20 rfl (lv_at hl 0 rfl) ?_
  refine va_get (D := D) (ci := 0) (v := .ref (a 23)) (C := RX0) (T := TX0) (N := 12) hx hb hts inX0 hown hK hP 4 (heX_4 ca a t_1) rfl 1 (by decide) (hts _ kw_188) (fun _ h9 => h9) rfl dX0_takeFrom_21 ?_
  refine lv_iconst (v := 0) hx hb dX0_takeFrom_24 (by decide) ?_
  refine lv_bipush (v := 32) hx hb dX0_takeFrom_25 (by decide) ?_
  obtain ⟨⟨h1_27, h2_27, h3_27, h4_27, h5_27⟩, hf⟩ := fb_if hf
  refine va_copyl hx hb (hml.trans hl.1.symm) hown (hts _ kw_422) (hts _ kw_424) (hts _ kw_423) (hts _ kw_103) hK hP (hD t_1) hS 33 23 1 1 (haX_33 ca a t_1) (haX_23 ca a t_1) rfl rfl rfl h1_27 h2_27 h3_27 h4_27 h5_27 (fun _ _ => rfl) (Nat.le_of_ble_eq_true rfl) (Nat.le_of_ble_eq_true rfl) dX0_takeFrom_27 (fun H locs hP _ hS => ?_)
  rw [saX_23] at hP
  obtain ⟨t_2, e_27, hf⟩ := fb_ls hf
  rw [← e_27] at hP
  refine lv_aload_n hx hb dX0_takeFrom_30 rfl (lv_at hl 1 rfl) ?_
  refine va_get (D := D) (ci := 0) (v := .ref (a 34)) (C := RX0) (T := TX0) (N := 12) hx hb hts inX0 hown hK hP 5 (heX_5 ca a t_2) rfl 2 (by decide) (hts _ kw_189) (fun _ h9 => h9) rfl dX0_takeFrom_31 ?_
  refine lv_iconst (v := 0) hx hb dX0_takeFrom_34 (by decide) ?_
  refine lv_aload_n hx hb dX0_takeFrom_35 rfl (lv_at hl 0 rfl) ?_
  refine va_get (D := D) (ci := 0) (v := .ref (a 24)) (C := RX0) (T := TX0) (N := 12) hx hb hts inX0 hown hK hP 4 (heX_4 ca a t_2) rfl 2 (by decide) (hts _ kw_189) (fun _ h9 => h9) rfl dX0_takeFrom_36 ?_
  refine lv_iconst (v := 0) hx hb dX0_takeFrom_39 (by decide) ?_
  refine lv_bipush (v := 32) hx hb dX0_takeFrom_40 (by decide) ?_
  obtain ⟨⟨h1_42, h2_42, h3_42, h4_42, h5_42⟩, hf⟩ := fb_if hf
  refine va_copyi hx hb (hml.trans hl.1.symm) hown (hts _ kw_422) (hts _ kw_424) (hts _ kw_423) (hts _ kw_103) hK hP (hD t_2) hS 34 24 0 0 (haX_34 ca a t_2) (haX_24 ca a t_2) rfl rfl rfl h1_42 h2_42 h3_42 h4_42 h5_42 (fun _ _ => rfl) (Nat.le_of_ble_eq_true rfl) (Nat.le_of_ble_eq_true rfl) dX0_takeFrom_42 (fun H locs hP _ hS => ?_)
  rw [saX_24] at hP
  obtain ⟨t_3, e_42, hf⟩ := fb_ls hf
  rw [← e_42] at hP
  refine lv_aload_n hx hb dX0_takeFrom_45 rfl (lv_at hl 1 rfl) ?_
  refine va_get (D := D) (ci := 0) (v := .ref (a 36)) (C := RX0) (T := TX0) (N := 12) hx hb hts inX0 hown hK hP 5 (heX_5 ca a t_3) rfl 4 (by decide) (hts _ kw_191) (fun _ h9 => h9) rfl dX0_takeFrom_46 ?_
  refine lv_iconst (v := 0) hx hb dX0_takeFrom_49 (by decide) ?_
  refine lv_aload_n hx hb dX0_takeFrom_50 rfl (lv_at hl 0 rfl) ?_
  refine va_get (D := D) (ci := 0) (v := .ref (a 26)) (C := RX0) (T := TX0) (N := 12) hx hb hts inX0 hown hK hP 4 (heX_4 ca a t_3) rfl 4 (by decide) (hts _ kw_191) (fun _ h9 => h9) rfl dX0_takeFrom_51 ?_
  refine lv_iconst (v := 0) hx hb dX0_takeFrom_54 (by decide) ?_
  refine lv_bipush (v := 32) hx hb dX0_takeFrom_55 (by decide) ?_
  obtain ⟨⟨h1_57, h2_57, h3_57, h4_57, h5_57⟩, hf⟩ := fb_if hf
  refine va_copyi hx hb (hml.trans hl.1.symm) hown (hts _ kw_422) (hts _ kw_424) (hts _ kw_423) (hts _ kw_103) hK hP (hD t_3) hS 36 26 0 0 (haX_36 ca a t_3) (haX_26 ca a t_3) rfl rfl rfl h1_57 h2_57 h3_57 h4_57 h5_57 (fun _ _ => rfl) (Nat.le_of_ble_eq_true rfl) (Nat.le_of_ble_eq_true rfl) dX0_takeFrom_57 (fun H locs hP _ hS => ?_)
  rw [saX_26] at hP
  obtain ⟨t_4, e_57, hf⟩ := fb_ls hf
  rw [← e_57] at hP
  refine lv_aload_n hx hb dX0_takeFrom_60 rfl (lv_at hl 1 rfl) ?_
  refine va_get (D := D) (ci := 0) (v := .ref (a 37)) (C := RX0) (T := TX0) (N := 12) hx hb hts inX0 hown hK hP 5 (heX_5 ca a t_4) rfl 5 (by decide) (hts _ kw_192) (fun _ h9 => h9) rfl dX0_takeFrom_61 ?_
  refine lv_iconst (v := 0) hx hb dX0_takeFrom_64 (by decide) ?_
  refine lv_aload_n hx hb dX0_takeFrom_65 rfl (lv_at hl 0 rfl) ?_
  refine va_get (D := D) (ci := 0) (v := .ref (a 27)) (C := RX0) (T := TX0) (N := 12) hx hb hts inX0 hown hK hP 4 (heX_4 ca a t_4) rfl 5 (by decide) (hts _ kw_192) (fun _ h9 => h9) rfl dX0_takeFrom_66 ?_
  refine lv_iconst (v := 0) hx hb dX0_takeFrom_69 (by decide) ?_
  refine lv_bipush (v := 32) hx hb dX0_takeFrom_70 (by decide) ?_
  obtain ⟨⟨h1_72, h2_72, h3_72, h4_72, h5_72⟩, hf⟩ := fb_if hf
  refine va_copyi hx hb (hml.trans hl.1.symm) hown (hts _ kw_422) (hts _ kw_424) (hts _ kw_423) (hts _ kw_103) hK hP (hD t_4) hS 37 27 0 0 (haX_37 ca a t_4) (haX_27 ca a t_4) rfl rfl rfl h1_72 h2_72 h3_72 h4_72 h5_72 (fun _ _ => rfl) (Nat.le_of_ble_eq_true rfl) (Nat.le_of_ble_eq_true rfl) dX0_takeFrom_72 (fun H locs hP _ hS => ?_)
  rw [saX_27] at hP
  obtain ⟨t_5, e_72, hf⟩ := fb_ls hf
  rw [← e_72] at hP
  refine lv_aload_n hx hb dX0_takeFrom_75 rfl (lv_at hl 1 rfl) ?_
  refine va_get (D := D) (ci := 0) (v := .ref (a 38)) (C := RX0) (T := TX0) (N := 12) hx hb hts inX0 hown hK hP 5 (heX_5 ca a t_5) rfl 6 (by decide) (hts _ kw_193) (fun _ h9 => h9) rfl dX0_takeFrom_76 ?_
  refine lv_iconst (v := 0) hx hb dX0_takeFrom_79 (by decide) ?_
  refine lv_aload_n hx hb dX0_takeFrom_80 rfl (lv_at hl 0 rfl) ?_
  refine va_get (D := D) (ci := 0) (v := .ref (a 28)) (C := RX0) (T := TX0) (N := 12) hx hb hts inX0 hown hK hP 4 (heX_4 ca a t_5) rfl 6 (by decide) (hts _ kw_193) (fun _ h9 => h9) rfl dX0_takeFrom_81 ?_
  refine lv_iconst (v := 0) hx hb dX0_takeFrom_84 (by decide) ?_
  refine lv_bipush (v := 32) hx hb dX0_takeFrom_85 (by decide) ?_
  obtain ⟨⟨h1_87, h2_87, h3_87, h4_87, h5_87⟩, hf⟩ := fb_if hf
  refine va_copyi hx hb (hml.trans hl.1.symm) hown (hts _ kw_422) (hts _ kw_424) (hts _ kw_423) (hts _ kw_103) hK hP (hD t_5) hS 38 28 0 0 (haX_38 ca a t_5) (haX_28 ca a t_5) rfl rfl rfl h1_87 h2_87 h3_87 h4_87 h5_87 (fun _ _ => rfl) (Nat.le_of_ble_eq_true rfl) (Nat.le_of_ble_eq_true rfl) dX0_takeFrom_87 (fun H locs hP _ hS => ?_)
  rw [saX_28] at hP
  obtain ⟨t_6, e_87, hf⟩ := fb_ls hf
  rw [← e_87] at hP
  refine lv_aload_n hx hb dX0_takeFrom_90 rfl (lv_at hl 1 rfl) ?_
  refine va_get (D := D) (ci := 0) (v := .ref (a 40)) (C := RX0) (T := TX0) (N := 12) hx hb hts inX0 hown hK hP 5 (heX_5 ca a t_6) rfl 8 (by decide) (hts _ kw_195) (fun _ h9 => h9) rfl dX0_takeFrom_91 ?_
  refine lv_iconst (v := 0) hx hb dX0_takeFrom_94 (by decide) ?_
  refine lv_aload_n hx hb dX0_takeFrom_95 rfl (lv_at hl 0 rfl) ?_
  refine va_get (D := D) (ci := 0) (v := .ref (a 30)) (C := RX0) (T := TX0) (N := 12) hx hb hts inX0 hown hK hP 4 (heX_4 ca a t_6) rfl 8 (by decide) (hts _ kw_195) (fun _ h9 => h9) rfl dX0_takeFrom_96 ?_
  refine lv_iconst (v := 0) hx hb dX0_takeFrom_99 (by decide) ?_
  refine lv_bipush (v := 32) hx hb dX0_takeFrom_100 (by decide) ?_
  obtain ⟨⟨h1_102, h2_102, h3_102, h4_102, h5_102⟩, hf⟩ := fb_if hf
  refine va_copyi hx hb (hml.trans hl.1.symm) hown (hts _ kw_422) (hts _ kw_424) (hts _ kw_423) (hts _ kw_103) hK hP (hD t_6) hS 40 30 0 0 (haX_40 ca a t_6) (haX_30 ca a t_6) rfl rfl rfl h1_102 h2_102 h3_102 h4_102 h5_102 (fun _ _ => rfl) (Nat.le_of_ble_eq_true rfl) (Nat.le_of_ble_eq_true rfl) dX0_takeFrom_102 (fun H locs hP _ hS => ?_)
  rw [saX_30] at hP
  obtain ⟨t_7, e_102, hf⟩ := fb_ls hf
  rw [← e_102] at hP
  refine lv_aload_n hx hb dX0_takeFrom_105 rfl (lv_at hl 1 rfl) ?_
  refine va_get (D := D) (ci := 0) (v := .ref (a 41)) (C := RX0) (T := TX0) (N := 12) hx hb hts inX0 hown hK hP 5 (heX_5 ca a t_7) rfl 9 (by decide) (hts _ kw_196) (fun _ h9 => h9) rfl dX0_takeFrom_106 ?_
  refine lv_iconst (v := 0) hx hb dX0_takeFrom_109 (by decide) ?_
  refine lv_aload_n hx hb dX0_takeFrom_110 rfl (lv_at hl 0 rfl) ?_
  refine va_get (D := D) (ci := 0) (v := .ref (a 31)) (C := RX0) (T := TX0) (N := 12) hx hb hts inX0 hown hK hP 4 (heX_4 ca a t_7) rfl 9 (by decide) (hts _ kw_196) (fun _ h9 => h9) rfl dX0_takeFrom_111 ?_
  refine lv_iconst (v := 0) hx hb dX0_takeFrom_114 (by decide) ?_
  refine lv_bipush (v := 32) hx hb dX0_takeFrom_115 (by decide) ?_
  obtain ⟨⟨h1_117, h2_117, h3_117, h4_117, h5_117⟩, hf⟩ := fb_if hf
  refine va_copyl hx hb (hml.trans hl.1.symm) hown (hts _ kw_422) (hts _ kw_424) (hts _ kw_423) (hts _ kw_103) hK hP (hD t_7) hS 41 31 1 1 (haX_41 ca a t_7) (haX_31 ca a t_7) rfl rfl rfl h1_117 h2_117 h3_117 h4_117 h5_117 (fun _ _ => rfl) (Nat.le_of_ble_eq_true rfl) (Nat.le_of_ble_eq_true rfl) dX0_takeFrom_117 (fun H locs hP _ hS => ?_)
  rw [saX_31] at hP
  obtain ⟨t_8, e_117, hf⟩ := fb_ls hf
  rw [← e_117] at hP
  refine lv_iconst (v := 0) hx hb dX0_takeFrom_120 (by decide) ?_
  refine lv_istore_n (lv' := [(2, .int ((0 : Int32))), (0, .ref (a 4)), (1, .ref (a 5))]) hx hb dX0_takeFrom_121 rfl hl (by decide) rfl (fun ls hl => ?_)
  exact w_X_X0_takeFrom__4_5_122 C hr 3000 t_8 ((0 : Int32)) _ _ _ hf hP hS (lv_sub hl [1, 2, 0] rfl)
set_option maxRecDepth 20000 in
theorem c_X_X0_takeFrom__4_5 {l : Launch} {D : va_G} {ca : Nat → ClassId} {a : Nat → Nat} {t : fw_S}  {u : fw_S} (hf : f_X_X0_takeFrom__4_5 t  = some u) : MC (WX ca a) D (tyv ca) l yX0_takeFrom (.code yX0_takeFrom prog_2_method_2_code 4 none :: lw_gd) rm_X_X0_takeFrom__4_5 [.ref (a 4), .ref (a 5)] none t u := by
  refine fw_met (okX ca a) (by decide +kernel) rfl rfl (Nat.le_of_ble_eq_true rfl) ?_
  intro p e s m args below meth c A Q ls C hr hk hP hS hl hQ
  exact w_X_X0_takeFrom__4_5_0 C (fun _ => fw_rv C hr hk hQ) hf hP hS (lv_sub hl [0, 1] rfl)
/-! ReactiveSheet.Engine.back()V ['x.engine'] -/
abbrev rm_X_X1_back__3 : Room := { frames := 3, cells := 0, slots := 0, locals := 123 }
def b_X_X1_back__3_0  (t : fw_S)  : Option fw_S := fb_v (f_X_X0_takeFrom__4_5 t) fun t_1 => (some t_1)
def f_X_X1_back__3 (t : fw_S)  : Option fw_S := b_X_X1_back__3_0 t 
set_option maxRecDepth 20000 in
theorem w_X_X1_back__3_0 {p : Program} {l : Launch} {e : Env} {s : State} {m : MethodId} {args : Array Value} {below : List Frame} {meth : Method} {c : Code} {A : Nat → Prop} {Q : State → Prop} {D : va_G} {ca : Nat → ClassId} {a : Nat → Nat} {u : fw_S}  (C : CX (WX ca a) D (tyv ca) p s m args c A prog_3_method_4_code 1 RX1) (hr : True → RX (WX ca a) D p l e rm_X_X1_back__3 s m args below meth c A prog_3_method_4_code Q .return_ [] u) {t : fw_S}  {H : Heap} {locs : List Loc} {ls : Array Slot} (hf : b_X_X1_back__3_0  t  = some u) (hP : va_P D classes (WX ca a t) H) (hS : va_S A s.heap H locs) (hl : lv_has ls 1 [(0, .ref (a 3))]) : W p l e rm_X_X1_back__3 s m args below meth c H locs 0 0 Q (F0 m 0 ls []) := by
  obtain ⟨hx, hb, hml, hown, hts, hN, hK, hD, hA⟩ := id C
  have hf : (fb_v (f_X_X0_takeFrom__4_5 t) fun t_1 => (some t_1)) = some u := hf
  refine lv_aload_n hx hb dX1_back_0 rfl (lv_at hl 0 rfl) ?_
  refine va_get (D := D) (ci := 1) (v := .ref (a 4)) (C := RX1) (T := TX1) (N := 8) hx hb hts inX1 hown hK hP 3 (heX_3 ca a t) rfl 0 (by decide) (hts _ kw_225) (fun _ h9 => h9) rfl dX1_back_1 ?_
  refine lv_aload_n hx hb dX1_back_4 rfl (lv_at hl 0 rfl) ?_
  refine va_get (D := D) (ci := 1) (v := .ref (a 5)) (C := RX1) (T := TX1) (N := 8) hx hb hts inX1 hown hK hP 3 (heX_3 ca a t) rfl 1 (by decide) (hts _ kw_226) (fun _ h9 => h9) rfl dX1_back_5 ?_
  obtain ⟨t_1, g_8, hf⟩ := fb_vs hf
  refine fw_V1 (As := [.ref (a 5)]) (rest := []) (n := 1) (q0 := 4) C (c_X_X0_takeFrom__4_5 (l := l) (D := D) (ca := ca) (a := a) g_8) kw_418 kw_419 kw_96 kw_421 kw_420 hP hS hl (heX_4 ca a t) rfl rfl rfl (by decide) (by decide +kernel) ⟨Nat.le_of_ble_eq_true rfl, Nat.le_of_ble_eq_true rfl⟩ rfl rfl (Nat.le_of_ble_eq_true rfl) dX1_back_8 (fun H locs hP hS => ?_)
  refine W.eq (g2 := F0 m 11 ls []) rfl ?_
  have e_11 := fb_ev hf
  subst e_11
  exact hr trivial _ _ _ _ hP hS dX1_back_11
set_option maxRecDepth 20000 in
theorem c_X_X1_back__3 {l : Launch} {D : va_G} {ca : Nat → ClassId} {a : Nat → Nat} {t : fw_S}  {u : fw_S} (hf : f_X_X1_back__3 t  = some u) : MC (WX ca a) D (tyv ca) l yX1_back (.code yX1_back prog_3_method_4_code 1 none :: lw_gd) rm_X_X1_back__3 [.ref (a 3)] none t u := by
  refine fw_met (okX ca a) (by decide +kernel) rfl rfl (Nat.le_of_ble_eq_true rfl) ?_
  intro p e s m args below meth c A Q ls C hr hk hP hS hl hQ
  exact w_X_X1_back__3_0 C (fun _ => fw_rv C hr hk hQ) hf hP hS (lv_sub hl [0] rfl)
/-! java/lang/Long.bitCount(J)I [] -/
abbrev rm_X_J13_bitCount_95d88 : Room := { frames := 0, cells := 0, slots := 0, locals := 0 }
def b_X_J13_bitCount_95d88_0  (t : fw_S) (y0 : Int64) : Option (Int32 × fw_S) := some ((((((((((y0 - (((y0.toUInt64 >>> (((1 : Int32)).toInt64.toUInt64 &&& Int64.toUInt64 63)).toInt64) &&& ((6148914691236517205 : Int64)))) &&& ((3689348814741910323 : Int64))) + ((((y0 - (((y0.toUInt64 >>> (((1 : Int32)).toInt64.toUInt64 &&& Int64.toUInt64 63)).toInt64) &&& ((6148914691236517205 : Int64)))).toUInt64 >>> (((2 : Int32)).toInt64.toUInt64 &&& Int64.toUInt64 63)).toInt64) &&& ((3689348814741910323 : Int64)))) + (((((y0 - (((y0.toUInt64 >>> (((1 : Int32)).toInt64.toUInt64 &&& Int64.toUInt64 63)).toInt64) &&& ((6148914691236517205 : Int64)))) &&& ((3689348814741910323 : Int64))) + ((((y0 - (((y0.toUInt64 >>> (((1 : Int32)).toInt64.toUInt64 &&& Int64.toUInt64 63)).toInt64) &&& ((6148914691236517205 : Int64)))).toUInt64 >>> (((2 : Int32)).toInt64.toUInt64 &&& Int64.toUInt64 63)).toInt64) &&& ((3689348814741910323 : Int64)))).toUInt64 >>> (((4 : Int32)).toInt64.toUInt64 &&& Int64.toUInt64 63)).toInt64)) &&& ((1085102592571150095 : Int64))) + (((((((y0 - (((y0.toUInt64 >>> (((1 : Int32)).toInt64.toUInt64 &&& Int64.toUInt64 63)).toInt64) &&& ((6148914691236517205 : Int64)))) &&& ((3689348814741910323 : Int64))) + ((((y0 - (((y0.toUInt64 >>> (((1 : Int32)).toInt64.toUInt64 &&& Int64.toUInt64 63)).toInt64) &&& ((6148914691236517205 : Int64)))).toUInt64 >>> (((2 : Int32)).toInt64.toUInt64 &&& Int64.toUInt64 63)).toInt64) &&& ((3689348814741910323 : Int64)))) + (((((y0 - (((y0.toUInt64 >>> (((1 : Int32)).toInt64.toUInt64 &&& Int64.toUInt64 63)).toInt64) &&& ((6148914691236517205 : Int64)))) &&& ((3689348814741910323 : Int64))) + ((((y0 - (((y0.toUInt64 >>> (((1 : Int32)).toInt64.toUInt64 &&& Int64.toUInt64 63)).toInt64) &&& ((6148914691236517205 : Int64)))).toUInt64 >>> (((2 : Int32)).toInt64.toUInt64 &&& Int64.toUInt64 63)).toInt64) &&& ((3689348814741910323 : Int64)))).toUInt64 >>> (((4 : Int32)).toInt64.toUInt64 &&& Int64.toUInt64 63)).toInt64)) &&& ((1085102592571150095 : Int64))).toUInt64 >>> (((8 : Int32)).toInt64.toUInt64 &&& Int64.toUInt64 63)).toInt64)) + ((((((((y0 - (((y0.toUInt64 >>> (((1 : Int32)).toInt64.toUInt64 &&& Int64.toUInt64 63)).toInt64) &&& ((6148914691236517205 : Int64)))) &&& ((3689348814741910323 : Int64))) + ((((y0 - (((y0.toUInt64 >>> (((1 : Int32)).toInt64.toUInt64 &&& Int64.toUInt64 63)).toInt64) &&& ((6148914691236517205 : Int64)))).toUInt64 >>> (((2 : Int32)).toInt64.toUInt64 &&& Int64.toUInt64 63)).toInt64) &&& ((3689348814741910323 : Int64)))) + (((((y0 - (((y0.toUInt64 >>> (((1 : Int32)).toInt64.toUInt64 &&& Int64.toUInt64 63)).toInt64) &&& ((6148914691236517205 : Int64)))) &&& ((3689348814741910323 : Int64))) + ((((y0 - (((y0.toUInt64 >>> (((1 : Int32)).toInt64.toUInt64 &&& Int64.toUInt64 63)).toInt64) &&& ((6148914691236517205 : Int64)))).toUInt64 >>> (((2 : Int32)).toInt64.toUInt64 &&& Int64.toUInt64 63)).toInt64) &&& ((3689348814741910323 : Int64)))).toUInt64 >>> (((4 : Int32)).toInt64.toUInt64 &&& Int64.toUInt64 63)).toInt64)) &&& ((1085102592571150095 : Int64))) + (((((((y0 - (((y0.toUInt64 >>> (((1 : Int32)).toInt64.toUInt64 &&& Int64.toUInt64 63)).toInt64) &&& ((6148914691236517205 : Int64)))) &&& ((3689348814741910323 : Int64))) + ((((y0 - (((y0.toUInt64 >>> (((1 : Int32)).toInt64.toUInt64 &&& Int64.toUInt64 63)).toInt64) &&& ((6148914691236517205 : Int64)))).toUInt64 >>> (((2 : Int32)).toInt64.toUInt64 &&& Int64.toUInt64 63)).toInt64) &&& ((3689348814741910323 : Int64)))) + (((((y0 - (((y0.toUInt64 >>> (((1 : Int32)).toInt64.toUInt64 &&& Int64.toUInt64 63)).toInt64) &&& ((6148914691236517205 : Int64)))) &&& ((3689348814741910323 : Int64))) + ((((y0 - (((y0.toUInt64 >>> (((1 : Int32)).toInt64.toUInt64 &&& Int64.toUInt64 63)).toInt64) &&& ((6148914691236517205 : Int64)))).toUInt64 >>> (((2 : Int32)).toInt64.toUInt64 &&& Int64.toUInt64 63)).toInt64) &&& ((3689348814741910323 : Int64)))).toUInt64 >>> (((4 : Int32)).toInt64.toUInt64 &&& Int64.toUInt64 63)).toInt64)) &&& ((1085102592571150095 : Int64))).toUInt64 >>> (((8 : Int32)).toInt64.toUInt64 &&& Int64.toUInt64 63)).toInt64)).toUInt64 >>> (((16 : Int32)).toInt64.toUInt64 &&& Int64.toUInt64 63)).toInt64)) + (((((((((y0 - (((y0.toUInt64 >>> (((1 : Int32)).toInt64.toUInt64 &&& Int64.toUInt64 63)).toInt64) &&& ((6148914691236517205 : Int64)))) &&& ((3689348814741910323 : Int64))) + ((((y0 - (((y0.toUInt64 >>> (((1 : Int32)).toInt64.toUInt64 &&& Int64.toUInt64 63)).toInt64) &&& ((6148914691236517205 : Int64)))).toUInt64 >>> (((2 : Int32)).toInt64.toUInt64 &&& Int64.toUInt64 63)).toInt64) &&& ((3689348814741910323 : Int64)))) + (((((y0 - (((y0.toUInt64 >>> (((1 : Int32)).toInt64.toUInt64 &&& Int64.toUInt64 63)).toInt64) &&& ((6148914691236517205 : Int64)))) &&& ((3689348814741910323 : Int64))) + ((((y0 - (((y0.toUInt64 >>> (((1 : Int32)).toInt64.toUInt64 &&& Int64.toUInt64 63)).toInt64) &&& ((6148914691236517205 : Int64)))).toUInt64 >>> (((2 : Int32)).toInt64.toUInt64 &&& Int64.toUInt64 63)).toInt64) &&& ((3689348814741910323 : Int64)))).toUInt64 >>> (((4 : Int32)).toInt64.toUInt64 &&& Int64.toUInt64 63)).toInt64)) &&& ((1085102592571150095 : Int64))) + (((((((y0 - (((y0.toUInt64 >>> (((1 : Int32)).toInt64.toUInt64 &&& Int64.toUInt64 63)).toInt64) &&& ((6148914691236517205 : Int64)))) &&& ((3689348814741910323 : Int64))) + ((((y0 - (((y0.toUInt64 >>> (((1 : Int32)).toInt64.toUInt64 &&& Int64.toUInt64 63)).toInt64) &&& ((6148914691236517205 : Int64)))).toUInt64 >>> (((2 : Int32)).toInt64.toUInt64 &&& Int64.toUInt64 63)).toInt64) &&& ((3689348814741910323 : Int64)))) + (((((y0 - (((y0.toUInt64 >>> (((1 : Int32)).toInt64.toUInt64 &&& Int64.toUInt64 63)).toInt64) &&& ((6148914691236517205 : Int64)))) &&& ((3689348814741910323 : Int64))) + ((((y0 - (((y0.toUInt64 >>> (((1 : Int32)).toInt64.toUInt64 &&& Int64.toUInt64 63)).toInt64) &&& ((6148914691236517205 : Int64)))).toUInt64 >>> (((2 : Int32)).toInt64.toUInt64 &&& Int64.toUInt64 63)).toInt64) &&& ((3689348814741910323 : Int64)))).toUInt64 >>> (((4 : Int32)).toInt64.toUInt64 &&& Int64.toUInt64 63)).toInt64)) &&& ((1085102592571150095 : Int64))).toUInt64 >>> (((8 : Int32)).toInt64.toUInt64 &&& Int64.toUInt64 63)).toInt64)) + ((((((((y0 - (((y0.toUInt64 >>> (((1 : Int32)).toInt64.toUInt64 &&& Int64.toUInt64 63)).toInt64) &&& ((6148914691236517205 : Int64)))) &&& ((3689348814741910323 : Int64))) + ((((y0 - (((y0.toUInt64 >>> (((1 : Int32)).toInt64.toUInt64 &&& Int64.toUInt64 63)).toInt64) &&& ((6148914691236517205 : Int64)))).toUInt64 >>> (((2 : Int32)).toInt64.toUInt64 &&& Int64.toUInt64 63)).toInt64) &&& ((3689348814741910323 : Int64)))) + (((((y0 - (((y0.toUInt64 >>> (((1 : Int32)).toInt64.toUInt64 &&& Int64.toUInt64 63)).toInt64) &&& ((6148914691236517205 : Int64)))) &&& ((3689348814741910323 : Int64))) + ((((y0 - (((y0.toUInt64 >>> (((1 : Int32)).toInt64.toUInt64 &&& Int64.toUInt64 63)).toInt64) &&& ((6148914691236517205 : Int64)))).toUInt64 >>> (((2 : Int32)).toInt64.toUInt64 &&& Int64.toUInt64 63)).toInt64) &&& ((3689348814741910323 : Int64)))).toUInt64 >>> (((4 : Int32)).toInt64.toUInt64 &&& Int64.toUInt64 63)).toInt64)) &&& ((1085102592571150095 : Int64))) + (((((((y0 - (((y0.toUInt64 >>> (((1 : Int32)).toInt64.toUInt64 &&& Int64.toUInt64 63)).toInt64) &&& ((6148914691236517205 : Int64)))) &&& ((3689348814741910323 : Int64))) + ((((y0 - (((y0.toUInt64 >>> (((1 : Int32)).toInt64.toUInt64 &&& Int64.toUInt64 63)).toInt64) &&& ((6148914691236517205 : Int64)))).toUInt64 >>> (((2 : Int32)).toInt64.toUInt64 &&& Int64.toUInt64 63)).toInt64) &&& ((3689348814741910323 : Int64)))) + (((((y0 - (((y0.toUInt64 >>> (((1 : Int32)).toInt64.toUInt64 &&& Int64.toUInt64 63)).toInt64) &&& ((6148914691236517205 : Int64)))) &&& ((3689348814741910323 : Int64))) + ((((y0 - (((y0.toUInt64 >>> (((1 : Int32)).toInt64.toUInt64 &&& Int64.toUInt64 63)).toInt64) &&& ((6148914691236517205 : Int64)))).toUInt64 >>> (((2 : Int32)).toInt64.toUInt64 &&& Int64.toUInt64 63)).toInt64) &&& ((3689348814741910323 : Int64)))).toUInt64 >>> (((4 : Int32)).toInt64.toUInt64 &&& Int64.toUInt64 63)).toInt64)) &&& ((1085102592571150095 : Int64))).toUInt64 >>> (((8 : Int32)).toInt64.toUInt64 &&& Int64.toUInt64 63)).toInt64)).toUInt64 >>> (((16 : Int32)).toInt64.toUInt64 &&& Int64.toUInt64 63)).toInt64)).toUInt64 >>> (((32 : Int32)).toInt64.toUInt64 &&& Int64.toUInt64 63)).toInt64)).toInt32) &&& ((127 : Int32)), t)
def f_X_J13_bitCount_95d88 (t : fw_S) (y0 : Int64) : Option (Int32 × fw_S) := b_X_J13_bitCount_95d88_0 t y0
set_option maxRecDepth 20000 in
theorem w_X_J13_bitCount_95d88_0 {p : Program} {l : Launch} {e : Env} {s : State} {m : MethodId} {args : Array Value} {below : List Frame} {meth : Method} {c : Code} {A : Nat → Prop} {Q : State → Prop} {D : va_G} {ca : Nat → ClassId} {a : Nat → Nat} {u : fw_S} {r : Int32}  (C : CX (WX ca a) D (tyv ca) p s m args c A prog_15_method_50_code 2 RJ13) (hr : True → RX (WX ca a) D p l e rm_X_J13_bitCount_95d88 s m args below meth c A prog_15_method_50_code Q .ireturn [.int r] u) {t : fw_S} {y0 : Int64} {H : Heap} {locs : List Loc} {ls : Array Slot} (hf : b_X_J13_bitCount_95d88_0  t y0 = some (r, u)) (hP : va_P D classes (WX ca a t) H) (hS : va_S A s.heap H locs) (hl : lv_has ls 2 [(0, .long y0)]) : W p l e rm_X_J13_bitCount_95d88 s m args below meth c H locs 0 0 Q (F0 m 0 ls []) := by
  obtain ⟨hx, hb, hml, hown, hts, hN, hK, hD, hA⟩ := id C
  have hf : (some ((((((((((y0 - (((y0.toUInt64 >>> (((1 : Int32)).toInt64.toUInt64 &&& Int64.toUInt64 63)).toInt64) &&& ((6148914691236517205 : Int64)))) &&& ((3689348814741910323 : Int64))) + ((((y0 - (((y0.toUInt64 >>> (((1 : Int32)).toInt64.toUInt64 &&& Int64.toUInt64 63)).toInt64) &&& ((6148914691236517205 : Int64)))).toUInt64 >>> (((2 : Int32)).toInt64.toUInt64 &&& Int64.toUInt64 63)).toInt64) &&& ((3689348814741910323 : Int64)))) + (((((y0 - (((y0.toUInt64 >>> (((1 : Int32)).toInt64.toUInt64 &&& Int64.toUInt64 63)).toInt64) &&& ((6148914691236517205 : Int64)))) &&& ((3689348814741910323 : Int64))) + ((((y0 - (((y0.toUInt64 >>> (((1 : Int32)).toInt64.toUInt64 &&& Int64.toUInt64 63)).toInt64) &&& ((6148914691236517205 : Int64)))).toUInt64 >>> (((2 : Int32)).toInt64.toUInt64 &&& Int64.toUInt64 63)).toInt64) &&& ((3689348814741910323 : Int64)))).toUInt64 >>> (((4 : Int32)).toInt64.toUInt64 &&& Int64.toUInt64 63)).toInt64)) &&& ((1085102592571150095 : Int64))) + (((((((y0 - (((y0.toUInt64 >>> (((1 : Int32)).toInt64.toUInt64 &&& Int64.toUInt64 63)).toInt64) &&& ((6148914691236517205 : Int64)))) &&& ((3689348814741910323 : Int64))) + ((((y0 - (((y0.toUInt64 >>> (((1 : Int32)).toInt64.toUInt64 &&& Int64.toUInt64 63)).toInt64) &&& ((6148914691236517205 : Int64)))).toUInt64 >>> (((2 : Int32)).toInt64.toUInt64 &&& Int64.toUInt64 63)).toInt64) &&& ((3689348814741910323 : Int64)))) + (((((y0 - (((y0.toUInt64 >>> (((1 : Int32)).toInt64.toUInt64 &&& Int64.toUInt64 63)).toInt64) &&& ((6148914691236517205 : Int64)))) &&& ((3689348814741910323 : Int64))) + ((((y0 - (((y0.toUInt64 >>> (((1 : Int32)).toInt64.toUInt64 &&& Int64.toUInt64 63)).toInt64) &&& ((6148914691236517205 : Int64)))).toUInt64 >>> (((2 : Int32)).toInt64.toUInt64 &&& Int64.toUInt64 63)).toInt64) &&& ((3689348814741910323 : Int64)))).toUInt64 >>> (((4 : Int32)).toInt64.toUInt64 &&& Int64.toUInt64 63)).toInt64)) &&& ((1085102592571150095 : Int64))).toUInt64 >>> (((8 : Int32)).toInt64.toUInt64 &&& Int64.toUInt64 63)).toInt64)) + ((((((((y0 - (((y0.toUInt64 >>> (((1 : Int32)).toInt64.toUInt64 &&& Int64.toUInt64 63)).toInt64) &&& ((6148914691236517205 : Int64)))) &&& ((3689348814741910323 : Int64))) + ((((y0 - (((y0.toUInt64 >>> (((1 : Int32)).toInt64.toUInt64 &&& Int64.toUInt64 63)).toInt64) &&& ((6148914691236517205 : Int64)))).toUInt64 >>> (((2 : Int32)).toInt64.toUInt64 &&& Int64.toUInt64 63)).toInt64) &&& ((3689348814741910323 : Int64)))) + (((((y0 - (((y0.toUInt64 >>> (((1 : Int32)).toInt64.toUInt64 &&& Int64.toUInt64 63)).toInt64) &&& ((6148914691236517205 : Int64)))) &&& ((3689348814741910323 : Int64))) + ((((y0 - (((y0.toUInt64 >>> (((1 : Int32)).toInt64.toUInt64 &&& Int64.toUInt64 63)).toInt64) &&& ((6148914691236517205 : Int64)))).toUInt64 >>> (((2 : Int32)).toInt64.toUInt64 &&& Int64.toUInt64 63)).toInt64) &&& ((3689348814741910323 : Int64)))).toUInt64 >>> (((4 : Int32)).toInt64.toUInt64 &&& Int64.toUInt64 63)).toInt64)) &&& ((1085102592571150095 : Int64))) + (((((((y0 - (((y0.toUInt64 >>> (((1 : Int32)).toInt64.toUInt64 &&& Int64.toUInt64 63)).toInt64) &&& ((6148914691236517205 : Int64)))) &&& ((3689348814741910323 : Int64))) + ((((y0 - (((y0.toUInt64 >>> (((1 : Int32)).toInt64.toUInt64 &&& Int64.toUInt64 63)).toInt64) &&& ((6148914691236517205 : Int64)))).toUInt64 >>> (((2 : Int32)).toInt64.toUInt64 &&& Int64.toUInt64 63)).toInt64) &&& ((3689348814741910323 : Int64)))) + (((((y0 - (((y0.toUInt64 >>> (((1 : Int32)).toInt64.toUInt64 &&& Int64.toUInt64 63)).toInt64) &&& ((6148914691236517205 : Int64)))) &&& ((3689348814741910323 : Int64))) + ((((y0 - (((y0.toUInt64 >>> (((1 : Int32)).toInt64.toUInt64 &&& Int64.toUInt64 63)).toInt64) &&& ((6148914691236517205 : Int64)))).toUInt64 >>> (((2 : Int32)).toInt64.toUInt64 &&& Int64.toUInt64 63)).toInt64) &&& ((3689348814741910323 : Int64)))).toUInt64 >>> (((4 : Int32)).toInt64.toUInt64 &&& Int64.toUInt64 63)).toInt64)) &&& ((1085102592571150095 : Int64))).toUInt64 >>> (((8 : Int32)).toInt64.toUInt64 &&& Int64.toUInt64 63)).toInt64)).toUInt64 >>> (((16 : Int32)).toInt64.toUInt64 &&& Int64.toUInt64 63)).toInt64)) + (((((((((y0 - (((y0.toUInt64 >>> (((1 : Int32)).toInt64.toUInt64 &&& Int64.toUInt64 63)).toInt64) &&& ((6148914691236517205 : Int64)))) &&& ((3689348814741910323 : Int64))) + ((((y0 - (((y0.toUInt64 >>> (((1 : Int32)).toInt64.toUInt64 &&& Int64.toUInt64 63)).toInt64) &&& ((6148914691236517205 : Int64)))).toUInt64 >>> (((2 : Int32)).toInt64.toUInt64 &&& Int64.toUInt64 63)).toInt64) &&& ((3689348814741910323 : Int64)))) + (((((y0 - (((y0.toUInt64 >>> (((1 : Int32)).toInt64.toUInt64 &&& Int64.toUInt64 63)).toInt64) &&& ((6148914691236517205 : Int64)))) &&& ((3689348814741910323 : Int64))) + ((((y0 - (((y0.toUInt64 >>> (((1 : Int32)).toInt64.toUInt64 &&& Int64.toUInt64 63)).toInt64) &&& ((6148914691236517205 : Int64)))).toUInt64 >>> (((2 : Int32)).toInt64.toUInt64 &&& Int64.toUInt64 63)).toInt64) &&& ((3689348814741910323 : Int64)))).toUInt64 >>> (((4 : Int32)).toInt64.toUInt64 &&& Int64.toUInt64 63)).toInt64)) &&& ((1085102592571150095 : Int64))) + (((((((y0 - (((y0.toUInt64 >>> (((1 : Int32)).toInt64.toUInt64 &&& Int64.toUInt64 63)).toInt64) &&& ((6148914691236517205 : Int64)))) &&& ((3689348814741910323 : Int64))) + ((((y0 - (((y0.toUInt64 >>> (((1 : Int32)).toInt64.toUInt64 &&& Int64.toUInt64 63)).toInt64) &&& ((6148914691236517205 : Int64)))).toUInt64 >>> (((2 : Int32)).toInt64.toUInt64 &&& Int64.toUInt64 63)).toInt64) &&& ((3689348814741910323 : Int64)))) + (((((y0 - (((y0.toUInt64 >>> (((1 : Int32)).toInt64.toUInt64 &&& Int64.toUInt64 63)).toInt64) &&& ((6148914691236517205 : Int64)))) &&& ((3689348814741910323 : Int64))) + ((((y0 - (((y0.toUInt64 >>> (((1 : Int32)).toInt64.toUInt64 &&& Int64.toUInt64 63)).toInt64) &&& ((6148914691236517205 : Int64)))).toUInt64 >>> (((2 : Int32)).toInt64.toUInt64 &&& Int64.toUInt64 63)).toInt64) &&& ((3689348814741910323 : Int64)))).toUInt64 >>> (((4 : Int32)).toInt64.toUInt64 &&& Int64.toUInt64 63)).toInt64)) &&& ((1085102592571150095 : Int64))).toUInt64 >>> (((8 : Int32)).toInt64.toUInt64 &&& Int64.toUInt64 63)).toInt64)) + ((((((((y0 - (((y0.toUInt64 >>> (((1 : Int32)).toInt64.toUInt64 &&& Int64.toUInt64 63)).toInt64) &&& ((6148914691236517205 : Int64)))) &&& ((3689348814741910323 : Int64))) + ((((y0 - (((y0.toUInt64 >>> (((1 : Int32)).toInt64.toUInt64 &&& Int64.toUInt64 63)).toInt64) &&& ((6148914691236517205 : Int64)))).toUInt64 >>> (((2 : Int32)).toInt64.toUInt64 &&& Int64.toUInt64 63)).toInt64) &&& ((3689348814741910323 : Int64)))) + (((((y0 - (((y0.toUInt64 >>> (((1 : Int32)).toInt64.toUInt64 &&& Int64.toUInt64 63)).toInt64) &&& ((6148914691236517205 : Int64)))) &&& ((3689348814741910323 : Int64))) + ((((y0 - (((y0.toUInt64 >>> (((1 : Int32)).toInt64.toUInt64 &&& Int64.toUInt64 63)).toInt64) &&& ((6148914691236517205 : Int64)))).toUInt64 >>> (((2 : Int32)).toInt64.toUInt64 &&& Int64.toUInt64 63)).toInt64) &&& ((3689348814741910323 : Int64)))).toUInt64 >>> (((4 : Int32)).toInt64.toUInt64 &&& Int64.toUInt64 63)).toInt64)) &&& ((1085102592571150095 : Int64))) + (((((((y0 - (((y0.toUInt64 >>> (((1 : Int32)).toInt64.toUInt64 &&& Int64.toUInt64 63)).toInt64) &&& ((6148914691236517205 : Int64)))) &&& ((3689348814741910323 : Int64))) + ((((y0 - (((y0.toUInt64 >>> (((1 : Int32)).toInt64.toUInt64 &&& Int64.toUInt64 63)).toInt64) &&& ((6148914691236517205 : Int64)))).toUInt64 >>> (((2 : Int32)).toInt64.toUInt64 &&& Int64.toUInt64 63)).toInt64) &&& ((3689348814741910323 : Int64)))) + (((((y0 - (((y0.toUInt64 >>> (((1 : Int32)).toInt64.toUInt64 &&& Int64.toUInt64 63)).toInt64) &&& ((6148914691236517205 : Int64)))) &&& ((3689348814741910323 : Int64))) + ((((y0 - (((y0.toUInt64 >>> (((1 : Int32)).toInt64.toUInt64 &&& Int64.toUInt64 63)).toInt64) &&& ((6148914691236517205 : Int64)))).toUInt64 >>> (((2 : Int32)).toInt64.toUInt64 &&& Int64.toUInt64 63)).toInt64) &&& ((3689348814741910323 : Int64)))).toUInt64 >>> (((4 : Int32)).toInt64.toUInt64 &&& Int64.toUInt64 63)).toInt64)) &&& ((1085102592571150095 : Int64))).toUInt64 >>> (((8 : Int32)).toInt64.toUInt64 &&& Int64.toUInt64 63)).toInt64)).toUInt64 >>> (((16 : Int32)).toInt64.toUInt64 &&& Int64.toUInt64 63)).toInt64)).toUInt64 >>> (((32 : Int32)).toInt64.toUInt64 &&& Int64.toUInt64 63)).toInt64)).toInt32) &&& ((127 : Int32)), t)) = some (r, u) := hf
  refine lv_lload_n hx hb dJ13_bitCount_95d88_0 rfl (lv_at hl 0 rfl) ?_
  refine lv_lload_n hx hb dJ13_bitCount_95d88_1 rfl (lv_at hl 0 rfl) ?_
  refine lv_iconst (v := 1) hx hb dJ13_bitCount_95d88_2 (by decide) ?_
  refine lv_lushr hx hb dJ13_bitCount_95d88_3 rfl ?_
  refine lv_ldc2 (v := (6148914691236517205)) hx hb hown (hts _ kw_619) dJ13_bitCount_95d88_4 ?_
  refine lv_land hx hb dJ13_bitCount_95d88_7 ?_
  refine lv_lsub hx hb dJ13_bitCount_95d88_8 ?_
  refine lv_lstore_n (lv' := [(0, .long (y0 - (((y0.toUInt64 >>> (((1 : Int32)).toInt64.toUInt64 &&& Int64.toUInt64 63)).toInt64) &&& ((6148914691236517205 : Int64)))))]) hx hb dJ13_bitCount_95d88_9 rfl hl (by decide) rfl (fun ls hl => ?_)
  refine lv_lload_n hx hb dJ13_bitCount_95d88_10 rfl (lv_at hl 0 rfl) ?_
  refine lv_ldc2 (v := (3689348814741910323)) hx hb hown (hts _ kw_620) dJ13_bitCount_95d88_11 ?_
  refine lv_land hx hb dJ13_bitCount_95d88_14 ?_
  refine lv_lload_n hx hb dJ13_bitCount_95d88_15 rfl (lv_at hl 0 rfl) ?_
  refine lv_iconst (v := 2) hx hb dJ13_bitCount_95d88_16 (by decide) ?_
  refine lv_lushr hx hb dJ13_bitCount_95d88_17 rfl ?_
  refine lv_ldc2 (v := (3689348814741910323)) hx hb hown (hts _ kw_620) dJ13_bitCount_95d88_18 ?_
  refine lv_land hx hb dJ13_bitCount_95d88_21 ?_
  refine lv_ladd hx hb dJ13_bitCount_95d88_22 ?_
  refine lv_lstore_n (lv' := [(0, .long (((y0 - (((y0.toUInt64 >>> (((1 : Int32)).toInt64.toUInt64 &&& Int64.toUInt64 63)).toInt64) &&& ((6148914691236517205 : Int64)))) &&& ((3689348814741910323 : Int64))) + ((((y0 - (((y0.toUInt64 >>> (((1 : Int32)).toInt64.toUInt64 &&& Int64.toUInt64 63)).toInt64) &&& ((6148914691236517205 : Int64)))).toUInt64 >>> (((2 : Int32)).toInt64.toUInt64 &&& Int64.toUInt64 63)).toInt64) &&& ((3689348814741910323 : Int64)))))]) hx hb dJ13_bitCount_95d88_23 rfl hl (by decide) rfl (fun ls hl => ?_)
  refine lv_lload_n hx hb dJ13_bitCount_95d88_24 rfl (lv_at hl 0 rfl) ?_
  refine lv_lload_n hx hb dJ13_bitCount_95d88_25 rfl (lv_at hl 0 rfl) ?_
  refine lv_iconst (v := 4) hx hb dJ13_bitCount_95d88_26 (by decide) ?_
  refine lv_lushr hx hb dJ13_bitCount_95d88_27 rfl ?_
  refine lv_ladd hx hb dJ13_bitCount_95d88_28 ?_
  refine lv_ldc2 (v := (1085102592571150095)) hx hb hown (hts _ kw_621) dJ13_bitCount_95d88_29 ?_
  refine lv_land hx hb dJ13_bitCount_95d88_32 ?_
  refine lv_lstore_n (lv' := [(0, .long (((((y0 - (((y0.toUInt64 >>> (((1 : Int32)).toInt64.toUInt64 &&& Int64.toUInt64 63)).toInt64) &&& ((6148914691236517205 : Int64)))) &&& ((3689348814741910323 : Int64))) + ((((y0 - (((y0.toUInt64 >>> (((1 : Int32)).toInt64.toUInt64 &&& Int64.toUInt64 63)).toInt64) &&& ((6148914691236517205 : Int64)))).toUInt64 >>> (((2 : Int32)).toInt64.toUInt64 &&& Int64.toUInt64 63)).toInt64) &&& ((3689348814741910323 : Int64)))) + (((((y0 - (((y0.toUInt64 >>> (((1 : Int32)).toInt64.toUInt64 &&& Int64.toUInt64 63)).toInt64) &&& ((6148914691236517205 : Int64)))) &&& ((3689348814741910323 : Int64))) + ((((y0 - (((y0.toUInt64 >>> (((1 : Int32)).toInt64.toUInt64 &&& Int64.toUInt64 63)).toInt64) &&& ((6148914691236517205 : Int64)))).toUInt64 >>> (((2 : Int32)).toInt64.toUInt64 &&& Int64.toUInt64 63)).toInt64) &&& ((3689348814741910323 : Int64)))).toUInt64 >>> (((4 : Int32)).toInt64.toUInt64 &&& Int64.toUInt64 63)).toInt64)) &&& ((1085102592571150095 : Int64))))]) hx hb dJ13_bitCount_95d88_33 rfl hl (by decide) rfl (fun ls hl => ?_)
  refine lv_lload_n hx hb dJ13_bitCount_95d88_34 rfl (lv_at hl 0 rfl) ?_
  refine lv_lload_n hx hb dJ13_bitCount_95d88_35 rfl (lv_at hl 0 rfl) ?_
  refine lv_bipush (v := 8) hx hb dJ13_bitCount_95d88_36 (by decide) ?_
  refine lv_lushr hx hb dJ13_bitCount_95d88_38 rfl ?_
  refine lv_ladd hx hb dJ13_bitCount_95d88_39 ?_
  refine lv_lstore_n (lv' := [(0, .long ((((((y0 - (((y0.toUInt64 >>> (((1 : Int32)).toInt64.toUInt64 &&& Int64.toUInt64 63)).toInt64) &&& ((6148914691236517205 : Int64)))) &&& ((3689348814741910323 : Int64))) + ((((y0 - (((y0.toUInt64 >>> (((1 : Int32)).toInt64.toUInt64 &&& Int64.toUInt64 63)).toInt64) &&& ((6148914691236517205 : Int64)))).toUInt64 >>> (((2 : Int32)).toInt64.toUInt64 &&& Int64.toUInt64 63)).toInt64) &&& ((3689348814741910323 : Int64)))) + (((((y0 - (((y0.toUInt64 >>> (((1 : Int32)).toInt64.toUInt64 &&& Int64.toUInt64 63)).toInt64) &&& ((6148914691236517205 : Int64)))) &&& ((3689348814741910323 : Int64))) + ((((y0 - (((y0.toUInt64 >>> (((1 : Int32)).toInt64.toUInt64 &&& Int64.toUInt64 63)).toInt64) &&& ((6148914691236517205 : Int64)))).toUInt64 >>> (((2 : Int32)).toInt64.toUInt64 &&& Int64.toUInt64 63)).toInt64) &&& ((3689348814741910323 : Int64)))).toUInt64 >>> (((4 : Int32)).toInt64.toUInt64 &&& Int64.toUInt64 63)).toInt64)) &&& ((1085102592571150095 : Int64))) + (((((((y0 - (((y0.toUInt64 >>> (((1 : Int32)).toInt64.toUInt64 &&& Int64.toUInt64 63)).toInt64) &&& ((6148914691236517205 : Int64)))) &&& ((3689348814741910323 : Int64))) + ((((y0 - (((y0.toUInt64 >>> (((1 : Int32)).toInt64.toUInt64 &&& Int64.toUInt64 63)).toInt64) &&& ((6148914691236517205 : Int64)))).toUInt64 >>> (((2 : Int32)).toInt64.toUInt64 &&& Int64.toUInt64 63)).toInt64) &&& ((3689348814741910323 : Int64)))) + (((((y0 - (((y0.toUInt64 >>> (((1 : Int32)).toInt64.toUInt64 &&& Int64.toUInt64 63)).toInt64) &&& ((6148914691236517205 : Int64)))) &&& ((3689348814741910323 : Int64))) + ((((y0 - (((y0.toUInt64 >>> (((1 : Int32)).toInt64.toUInt64 &&& Int64.toUInt64 63)).toInt64) &&& ((6148914691236517205 : Int64)))).toUInt64 >>> (((2 : Int32)).toInt64.toUInt64 &&& Int64.toUInt64 63)).toInt64) &&& ((3689348814741910323 : Int64)))).toUInt64 >>> (((4 : Int32)).toInt64.toUInt64 &&& Int64.toUInt64 63)).toInt64)) &&& ((1085102592571150095 : Int64))).toUInt64 >>> (((8 : Int32)).toInt64.toUInt64 &&& Int64.toUInt64 63)).toInt64)))]) hx hb dJ13_bitCount_95d88_40 rfl hl (by decide) rfl (fun ls hl => ?_)
  refine lv_lload_n hx hb dJ13_bitCount_95d88_41 rfl (lv_at hl 0 rfl) ?_
  refine lv_lload_n hx hb dJ13_bitCount_95d88_42 rfl (lv_at hl 0 rfl) ?_
  refine lv_bipush (v := 16) hx hb dJ13_bitCount_95d88_43 (by decide) ?_
  refine lv_lushr hx hb dJ13_bitCount_95d88_45 rfl ?_
  refine lv_ladd hx hb dJ13_bitCount_95d88_46 ?_
  refine lv_lstore_n (lv' := [(0, .long (((((((y0 - (((y0.toUInt64 >>> (((1 : Int32)).toInt64.toUInt64 &&& Int64.toUInt64 63)).toInt64) &&& ((6148914691236517205 : Int64)))) &&& ((3689348814741910323 : Int64))) + ((((y0 - (((y0.toUInt64 >>> (((1 : Int32)).toInt64.toUInt64 &&& Int64.toUInt64 63)).toInt64) &&& ((6148914691236517205 : Int64)))).toUInt64 >>> (((2 : Int32)).toInt64.toUInt64 &&& Int64.toUInt64 63)).toInt64) &&& ((3689348814741910323 : Int64)))) + (((((y0 - (((y0.toUInt64 >>> (((1 : Int32)).toInt64.toUInt64 &&& Int64.toUInt64 63)).toInt64) &&& ((6148914691236517205 : Int64)))) &&& ((3689348814741910323 : Int64))) + ((((y0 - (((y0.toUInt64 >>> (((1 : Int32)).toInt64.toUInt64 &&& Int64.toUInt64 63)).toInt64) &&& ((6148914691236517205 : Int64)))).toUInt64 >>> (((2 : Int32)).toInt64.toUInt64 &&& Int64.toUInt64 63)).toInt64) &&& ((3689348814741910323 : Int64)))).toUInt64 >>> (((4 : Int32)).toInt64.toUInt64 &&& Int64.toUInt64 63)).toInt64)) &&& ((1085102592571150095 : Int64))) + (((((((y0 - (((y0.toUInt64 >>> (((1 : Int32)).toInt64.toUInt64 &&& Int64.toUInt64 63)).toInt64) &&& ((6148914691236517205 : Int64)))) &&& ((3689348814741910323 : Int64))) + ((((y0 - (((y0.toUInt64 >>> (((1 : Int32)).toInt64.toUInt64 &&& Int64.toUInt64 63)).toInt64) &&& ((6148914691236517205 : Int64)))).toUInt64 >>> (((2 : Int32)).toInt64.toUInt64 &&& Int64.toUInt64 63)).toInt64) &&& ((3689348814741910323 : Int64)))) + (((((y0 - (((y0.toUInt64 >>> (((1 : Int32)).toInt64.toUInt64 &&& Int64.toUInt64 63)).toInt64) &&& ((6148914691236517205 : Int64)))) &&& ((3689348814741910323 : Int64))) + ((((y0 - (((y0.toUInt64 >>> (((1 : Int32)).toInt64.toUInt64 &&& Int64.toUInt64 63)).toInt64) &&& ((6148914691236517205 : Int64)))).toUInt64 >>> (((2 : Int32)).toInt64.toUInt64 &&& Int64.toUInt64 63)).toInt64) &&& ((3689348814741910323 : Int64)))).toUInt64 >>> (((4 : Int32)).toInt64.toUInt64 &&& Int64.toUInt64 63)).toInt64)) &&& ((1085102592571150095 : Int64))).toUInt64 >>> (((8 : Int32)).toInt64.toUInt64 &&& Int64.toUInt64 63)).toInt64)) + ((((((((y0 - (((y0.toUInt64 >>> (((1 : Int32)).toInt64.toUInt64 &&& Int64.toUInt64 63)).toInt64) &&& ((6148914691236517205 : Int64)))) &&& ((3689348814741910323 : Int64))) + ((((y0 - (((y0.toUInt64 >>> (((1 : Int32)).toInt64.toUInt64 &&& Int64.toUInt64 63)).toInt64) &&& ((6148914691236517205 : Int64)))).toUInt64 >>> (((2 : Int32)).toInt64.toUInt64 &&& Int64.toUInt64 63)).toInt64) &&& ((3689348814741910323 : Int64)))) + (((((y0 - (((y0.toUInt64 >>> (((1 : Int32)).toInt64.toUInt64 &&& Int64.toUInt64 63)).toInt64) &&& ((6148914691236517205 : Int64)))) &&& ((3689348814741910323 : Int64))) + ((((y0 - (((y0.toUInt64 >>> (((1 : Int32)).toInt64.toUInt64 &&& Int64.toUInt64 63)).toInt64) &&& ((6148914691236517205 : Int64)))).toUInt64 >>> (((2 : Int32)).toInt64.toUInt64 &&& Int64.toUInt64 63)).toInt64) &&& ((3689348814741910323 : Int64)))).toUInt64 >>> (((4 : Int32)).toInt64.toUInt64 &&& Int64.toUInt64 63)).toInt64)) &&& ((1085102592571150095 : Int64))) + (((((((y0 - (((y0.toUInt64 >>> (((1 : Int32)).toInt64.toUInt64 &&& Int64.toUInt64 63)).toInt64) &&& ((6148914691236517205 : Int64)))) &&& ((3689348814741910323 : Int64))) + ((((y0 - (((y0.toUInt64 >>> (((1 : Int32)).toInt64.toUInt64 &&& Int64.toUInt64 63)).toInt64) &&& ((6148914691236517205 : Int64)))).toUInt64 >>> (((2 : Int32)).toInt64.toUInt64 &&& Int64.toUInt64 63)).toInt64) &&& ((3689348814741910323 : Int64)))) + (((((y0 - (((y0.toUInt64 >>> (((1 : Int32)).toInt64.toUInt64 &&& Int64.toUInt64 63)).toInt64) &&& ((6148914691236517205 : Int64)))) &&& ((3689348814741910323 : Int64))) + ((((y0 - (((y0.toUInt64 >>> (((1 : Int32)).toInt64.toUInt64 &&& Int64.toUInt64 63)).toInt64) &&& ((6148914691236517205 : Int64)))).toUInt64 >>> (((2 : Int32)).toInt64.toUInt64 &&& Int64.toUInt64 63)).toInt64) &&& ((3689348814741910323 : Int64)))).toUInt64 >>> (((4 : Int32)).toInt64.toUInt64 &&& Int64.toUInt64 63)).toInt64)) &&& ((1085102592571150095 : Int64))).toUInt64 >>> (((8 : Int32)).toInt64.toUInt64 &&& Int64.toUInt64 63)).toInt64)).toUInt64 >>> (((16 : Int32)).toInt64.toUInt64 &&& Int64.toUInt64 63)).toInt64)))]) hx hb dJ13_bitCount_95d88_47 rfl hl (by decide) rfl (fun ls hl => ?_)
  refine lv_lload_n hx hb dJ13_bitCount_95d88_48 rfl (lv_at hl 0 rfl) ?_
  refine lv_lload_n hx hb dJ13_bitCount_95d88_49 rfl (lv_at hl 0 rfl) ?_
  refine lv_bipush (v := 32) hx hb dJ13_bitCount_95d88_50 (by decide) ?_
  refine lv_lushr hx hb dJ13_bitCount_95d88_52 rfl ?_
  refine lv_ladd hx hb dJ13_bitCount_95d88_53 ?_
  refine lv_lstore_n (lv' := [(0, .long ((((((((y0 - (((y0.toUInt64 >>> (((1 : Int32)).toInt64.toUInt64 &&& Int64.toUInt64 63)).toInt64) &&& ((6148914691236517205 : Int64)))) &&& ((3689348814741910323 : Int64))) + ((((y0 - (((y0.toUInt64 >>> (((1 : Int32)).toInt64.toUInt64 &&& Int64.toUInt64 63)).toInt64) &&& ((6148914691236517205 : Int64)))).toUInt64 >>> (((2 : Int32)).toInt64.toUInt64 &&& Int64.toUInt64 63)).toInt64) &&& ((3689348814741910323 : Int64)))) + (((((y0 - (((y0.toUInt64 >>> (((1 : Int32)).toInt64.toUInt64 &&& Int64.toUInt64 63)).toInt64) &&& ((6148914691236517205 : Int64)))) &&& ((3689348814741910323 : Int64))) + ((((y0 - (((y0.toUInt64 >>> (((1 : Int32)).toInt64.toUInt64 &&& Int64.toUInt64 63)).toInt64) &&& ((6148914691236517205 : Int64)))).toUInt64 >>> (((2 : Int32)).toInt64.toUInt64 &&& Int64.toUInt64 63)).toInt64) &&& ((3689348814741910323 : Int64)))).toUInt64 >>> (((4 : Int32)).toInt64.toUInt64 &&& Int64.toUInt64 63)).toInt64)) &&& ((1085102592571150095 : Int64))) + (((((((y0 - (((y0.toUInt64 >>> (((1 : Int32)).toInt64.toUInt64 &&& Int64.toUInt64 63)).toInt64) &&& ((6148914691236517205 : Int64)))) &&& ((3689348814741910323 : Int64))) + ((((y0 - (((y0.toUInt64 >>> (((1 : Int32)).toInt64.toUInt64 &&& Int64.toUInt64 63)).toInt64) &&& ((6148914691236517205 : Int64)))).toUInt64 >>> (((2 : Int32)).toInt64.toUInt64 &&& Int64.toUInt64 63)).toInt64) &&& ((3689348814741910323 : Int64)))) + (((((y0 - (((y0.toUInt64 >>> (((1 : Int32)).toInt64.toUInt64 &&& Int64.toUInt64 63)).toInt64) &&& ((6148914691236517205 : Int64)))) &&& ((3689348814741910323 : Int64))) + ((((y0 - (((y0.toUInt64 >>> (((1 : Int32)).toInt64.toUInt64 &&& Int64.toUInt64 63)).toInt64) &&& ((6148914691236517205 : Int64)))).toUInt64 >>> (((2 : Int32)).toInt64.toUInt64 &&& Int64.toUInt64 63)).toInt64) &&& ((3689348814741910323 : Int64)))).toUInt64 >>> (((4 : Int32)).toInt64.toUInt64 &&& Int64.toUInt64 63)).toInt64)) &&& ((1085102592571150095 : Int64))).toUInt64 >>> (((8 : Int32)).toInt64.toUInt64 &&& Int64.toUInt64 63)).toInt64)) + ((((((((y0 - (((y0.toUInt64 >>> (((1 : Int32)).toInt64.toUInt64 &&& Int64.toUInt64 63)).toInt64) &&& ((6148914691236517205 : Int64)))) &&& ((3689348814741910323 : Int64))) + ((((y0 - (((y0.toUInt64 >>> (((1 : Int32)).toInt64.toUInt64 &&& Int64.toUInt64 63)).toInt64) &&& ((6148914691236517205 : Int64)))).toUInt64 >>> (((2 : Int32)).toInt64.toUInt64 &&& Int64.toUInt64 63)).toInt64) &&& ((3689348814741910323 : Int64)))) + (((((y0 - (((y0.toUInt64 >>> (((1 : Int32)).toInt64.toUInt64 &&& Int64.toUInt64 63)).toInt64) &&& ((6148914691236517205 : Int64)))) &&& ((3689348814741910323 : Int64))) + ((((y0 - (((y0.toUInt64 >>> (((1 : Int32)).toInt64.toUInt64 &&& Int64.toUInt64 63)).toInt64) &&& ((6148914691236517205 : Int64)))).toUInt64 >>> (((2 : Int32)).toInt64.toUInt64 &&& Int64.toUInt64 63)).toInt64) &&& ((3689348814741910323 : Int64)))).toUInt64 >>> (((4 : Int32)).toInt64.toUInt64 &&& Int64.toUInt64 63)).toInt64)) &&& ((1085102592571150095 : Int64))) + (((((((y0 - (((y0.toUInt64 >>> (((1 : Int32)).toInt64.toUInt64 &&& Int64.toUInt64 63)).toInt64) &&& ((6148914691236517205 : Int64)))) &&& ((3689348814741910323 : Int64))) + ((((y0 - (((y0.toUInt64 >>> (((1 : Int32)).toInt64.toUInt64 &&& Int64.toUInt64 63)).toInt64) &&& ((6148914691236517205 : Int64)))).toUInt64 >>> (((2 : Int32)).toInt64.toUInt64 &&& Int64.toUInt64 63)).toInt64) &&& ((3689348814741910323 : Int64)))) + (((((y0 - (((y0.toUInt64 >>> (((1 : Int32)).toInt64.toUInt64 &&& Int64.toUInt64 63)).toInt64) &&& ((6148914691236517205 : Int64)))) &&& ((3689348814741910323 : Int64))) + ((((y0 - (((y0.toUInt64 >>> (((1 : Int32)).toInt64.toUInt64 &&& Int64.toUInt64 63)).toInt64) &&& ((6148914691236517205 : Int64)))).toUInt64 >>> (((2 : Int32)).toInt64.toUInt64 &&& Int64.toUInt64 63)).toInt64) &&& ((3689348814741910323 : Int64)))).toUInt64 >>> (((4 : Int32)).toInt64.toUInt64 &&& Int64.toUInt64 63)).toInt64)) &&& ((1085102592571150095 : Int64))).toUInt64 >>> (((8 : Int32)).toInt64.toUInt64 &&& Int64.toUInt64 63)).toInt64)).toUInt64 >>> (((16 : Int32)).toInt64.toUInt64 &&& Int64.toUInt64 63)).toInt64)) + (((((((((y0 - (((y0.toUInt64 >>> (((1 : Int32)).toInt64.toUInt64 &&& Int64.toUInt64 63)).toInt64) &&& ((6148914691236517205 : Int64)))) &&& ((3689348814741910323 : Int64))) + ((((y0 - (((y0.toUInt64 >>> (((1 : Int32)).toInt64.toUInt64 &&& Int64.toUInt64 63)).toInt64) &&& ((6148914691236517205 : Int64)))).toUInt64 >>> (((2 : Int32)).toInt64.toUInt64 &&& Int64.toUInt64 63)).toInt64) &&& ((3689348814741910323 : Int64)))) + (((((y0 - (((y0.toUInt64 >>> (((1 : Int32)).toInt64.toUInt64 &&& Int64.toUInt64 63)).toInt64) &&& ((6148914691236517205 : Int64)))) &&& ((3689348814741910323 : Int64))) + ((((y0 - (((y0.toUInt64 >>> (((1 : Int32)).toInt64.toUInt64 &&& Int64.toUInt64 63)).toInt64) &&& ((6148914691236517205 : Int64)))).toUInt64 >>> (((2 : Int32)).toInt64.toUInt64 &&& Int64.toUInt64 63)).toInt64) &&& ((3689348814741910323 : Int64)))).toUInt64 >>> (((4 : Int32)).toInt64.toUInt64 &&& Int64.toUInt64 63)).toInt64)) &&& ((1085102592571150095 : Int64))) + (((((((y0 - (((y0.toUInt64 >>> (((1 : Int32)).toInt64.toUInt64 &&& Int64.toUInt64 63)).toInt64) &&& ((6148914691236517205 : Int64)))) &&& ((3689348814741910323 : Int64))) + ((((y0 - (((y0.toUInt64 >>> (((1 : Int32)).toInt64.toUInt64 &&& Int64.toUInt64 63)).toInt64) &&& ((6148914691236517205 : Int64)))).toUInt64 >>> (((2 : Int32)).toInt64.toUInt64 &&& Int64.toUInt64 63)).toInt64) &&& ((3689348814741910323 : Int64)))) + (((((y0 - (((y0.toUInt64 >>> (((1 : Int32)).toInt64.toUInt64 &&& Int64.toUInt64 63)).toInt64) &&& ((6148914691236517205 : Int64)))) &&& ((3689348814741910323 : Int64))) + ((((y0 - (((y0.toUInt64 >>> (((1 : Int32)).toInt64.toUInt64 &&& Int64.toUInt64 63)).toInt64) &&& ((6148914691236517205 : Int64)))).toUInt64 >>> (((2 : Int32)).toInt64.toUInt64 &&& Int64.toUInt64 63)).toInt64) &&& ((3689348814741910323 : Int64)))).toUInt64 >>> (((4 : Int32)).toInt64.toUInt64 &&& Int64.toUInt64 63)).toInt64)) &&& ((1085102592571150095 : Int64))).toUInt64 >>> (((8 : Int32)).toInt64.toUInt64 &&& Int64.toUInt64 63)).toInt64)) + ((((((((y0 - (((y0.toUInt64 >>> (((1 : Int32)).toInt64.toUInt64 &&& Int64.toUInt64 63)).toInt64) &&& ((6148914691236517205 : Int64)))) &&& ((3689348814741910323 : Int64))) + ((((y0 - (((y0.toUInt64 >>> (((1 : Int32)).toInt64.toUInt64 &&& Int64.toUInt64 63)).toInt64) &&& ((6148914691236517205 : Int64)))).toUInt64 >>> (((2 : Int32)).toInt64.toUInt64 &&& Int64.toUInt64 63)).toInt64) &&& ((3689348814741910323 : Int64)))) + (((((y0 - (((y0.toUInt64 >>> (((1 : Int32)).toInt64.toUInt64 &&& Int64.toUInt64 63)).toInt64) &&& ((6148914691236517205 : Int64)))) &&& ((3689348814741910323 : Int64))) + ((((y0 - (((y0.toUInt64 >>> (((1 : Int32)).toInt64.toUInt64 &&& Int64.toUInt64 63)).toInt64) &&& ((6148914691236517205 : Int64)))).toUInt64 >>> (((2 : Int32)).toInt64.toUInt64 &&& Int64.toUInt64 63)).toInt64) &&& ((3689348814741910323 : Int64)))).toUInt64 >>> (((4 : Int32)).toInt64.toUInt64 &&& Int64.toUInt64 63)).toInt64)) &&& ((1085102592571150095 : Int64))) + (((((((y0 - (((y0.toUInt64 >>> (((1 : Int32)).toInt64.toUInt64 &&& Int64.toUInt64 63)).toInt64) &&& ((6148914691236517205 : Int64)))) &&& ((3689348814741910323 : Int64))) + ((((y0 - (((y0.toUInt64 >>> (((1 : Int32)).toInt64.toUInt64 &&& Int64.toUInt64 63)).toInt64) &&& ((6148914691236517205 : Int64)))).toUInt64 >>> (((2 : Int32)).toInt64.toUInt64 &&& Int64.toUInt64 63)).toInt64) &&& ((3689348814741910323 : Int64)))) + (((((y0 - (((y0.toUInt64 >>> (((1 : Int32)).toInt64.toUInt64 &&& Int64.toUInt64 63)).toInt64) &&& ((6148914691236517205 : Int64)))) &&& ((3689348814741910323 : Int64))) + ((((y0 - (((y0.toUInt64 >>> (((1 : Int32)).toInt64.toUInt64 &&& Int64.toUInt64 63)).toInt64) &&& ((6148914691236517205 : Int64)))).toUInt64 >>> (((2 : Int32)).toInt64.toUInt64 &&& Int64.toUInt64 63)).toInt64) &&& ((3689348814741910323 : Int64)))).toUInt64 >>> (((4 : Int32)).toInt64.toUInt64 &&& Int64.toUInt64 63)).toInt64)) &&& ((1085102592571150095 : Int64))).toUInt64 >>> (((8 : Int32)).toInt64.toUInt64 &&& Int64.toUInt64 63)).toInt64)).toUInt64 >>> (((16 : Int32)).toInt64.toUInt64 &&& Int64.toUInt64 63)).toInt64)).toUInt64 >>> (((32 : Int32)).toInt64.toUInt64 &&& Int64.toUInt64 63)).toInt64)))]) hx hb dJ13_bitCount_95d88_54 rfl hl (by decide) rfl (fun ls hl => ?_)
  refine lv_lload_n hx hb dJ13_bitCount_95d88_55 rfl (lv_at hl 0 rfl) ?_
  refine lv_l2i hx hb dJ13_bitCount_95d88_56 rfl ?_
  refine lv_bipush (v := 127) hx hb dJ13_bitCount_95d88_57 (by decide) ?_
  refine lv_iand hx hb dJ13_bitCount_95d88_59 ?_
  obtain ⟨e_60, e2_60⟩ := fb_e hf
  subst e_60; subst e2_60
  exact hr trivial _ _ _ _ hP hS dJ13_bitCount_95d88_60
set_option maxRecDepth 20000 in
theorem c_X_J13_bitCount_95d88 {l : Launch} {D : va_G} {ca : Nat → ClassId} {a : Nat → Nat} {t : fw_S} {y0 : Int64} {u : fw_S} {r : Int32} (hf : f_X_J13_bitCount_95d88 t y0 = some (r, u)) : MC (WX ca a) D (tyv ca) l yJ13_bitCount_95d88 (.code yJ13_bitCount_95d88 prog_15_method_50_code 2 (some .int) :: lw_gd) rm_X_J13_bitCount_95d88 [.long y0] (some (.int r)) t u := by
  refine fw_met (okX ca a) (by decide +kernel) rfl rfl (Nat.le_of_ble_eq_true rfl) ?_
  intro p e s m args below meth c A Q ls C hr hk hP hS hl hQ
  exact w_X_J13_bitCount_95d88_0 C (fun _ => fw_ri C hr hk hQ) hf hP hS (lv_sub hl [0] rfl)
/-! ReactiveSheet.Cells.ranCount()I ['x.engine.now'] -/
abbrev rm_X_X0_ranCount__4 : Room := { frames := 1, cells := 0, slots := 0, locals := 21 }
def b_X_X0_ranCount__4_0  (t : fw_S)  : Option (Int32 × fw_S) := fb_b (f_X_J13_bitCount_95d88 t (st_J t 5)) fun v_2 t_1 => (some (v_2, t_1))
def f_X_X0_ranCount__4 (t : fw_S)  : Option (Int32 × fw_S) := b_X_X0_ranCount__4_0 t 
set_option maxRecDepth 20000 in
theorem w_X_X0_ranCount__4_0 {p : Program} {l : Launch} {e : Env} {s : State} {m : MethodId} {args : Array Value} {below : List Frame} {meth : Method} {c : Code} {A : Nat → Prop} {Q : State → Prop} {D : va_G} {ca : Nat → ClassId} {a : Nat → Nat} {u : fw_S} {r : Int32}  (C : CX (WX ca a) D (tyv ca) p s m args c A prog_2_method_31_code 1 RX0) (hr : True → RX (WX ca a) D p l e rm_X_X0_ranCount__4 s m args below meth c A prog_2_method_31_code Q .ireturn [.int r] u) {t : fw_S}  {H : Heap} {locs : List Loc} {ls : Array Slot} (hf : b_X_X0_ranCount__4_0  t  = some (r, u)) (hP : va_P D classes (WX ca a t) H) (hS : va_S A s.heap H locs) (hl : lv_has ls 1 [(0, .ref (a 4))]) : W p l e rm_X_X0_ranCount__4 s m args below meth c H locs 0 0 Q (F0 m 0 ls []) := by
  obtain ⟨hx, hb, hml, hown, hts, hN, hK, hD, hA⟩ := id C
  have hf : (fb_b (f_X_J13_bitCount_95d88 t (st_J t 5)) fun v_2 t_1 => (some (v_2, t_1))) = some (r, u) := hf
  refine lv_aload_n hx hb dX0_ranCount_0 rfl (lv_at hl 0 rfl) ?_
  refine va_get (D := D) (ci := 0) (v := .long (st_J t 5)) (C := RX0) (T := TX0) (N := 12) hx hb hts inX0 hown hK hP 4 (heX_4 ca a t) rfl 11 (by decide) (hts _ kw_198) (fun _ h9 => h9) rfl dX0_ranCount_1 ?_
  obtain ⟨v_2, t_1, g_4, hf⟩ := fb_bs hf
  refine fw_S1 (As := [.long (st_J t 5)]) (rest := []) (n := 1) C (c_X_J13_bitCount_95d88 (l := l) (D := D) (ca := ca) (a := a) g_4) kw_616 kw_617 kw_107 kw_618 hP hS hl rfl rfl (by decide) (by decide +kernel) ⟨Nat.le_of_ble_eq_true rfl, Nat.le_of_ble_eq_true rfl⟩ rfl rfl (Nat.le_of_ble_eq_true rfl) dX0_ranCount_4 (fun H locs hP hS => ?_)
  refine W.eq (g2 := F0 m 7 ls [.int v_2]) rfl ?_
  obtain ⟨e_7, e2_7⟩ := fb_e hf
  subst e_7; subst e2_7
  exact hr trivial _ _ _ _ hP hS dX0_ranCount_7
set_option maxRecDepth 20000 in
theorem c_X_X0_ranCount__4 {l : Launch} {D : va_G} {ca : Nat → ClassId} {a : Nat → Nat} {t : fw_S}  {u : fw_S} {r : Int32} (hf : f_X_X0_ranCount__4 t  = some (r, u)) : MC (WX ca a) D (tyv ca) l yX0_ranCount (.code yX0_ranCount prog_2_method_31_code 1 (some .int) :: lw_gd) rm_X_X0_ranCount__4 [.ref (a 4)] (some (.int r)) t u := by
  refine fw_met (okX ca a) (by decide +kernel) rfl rfl (Nat.le_of_ble_eq_true rfl) ?_
  intro p e s m args below meth c A Q ls C hr hk hP hS hl hQ
  exact w_X_X0_ranCount__4_0 C (fun _ => fw_ri C hr hk hQ) hf hP hS (lv_sub hl [0] rfl)
/-! ReactiveSheet.Engine.go(LReactiveSheet.Telling;)I ['x.engine', 'x.telling'] -/
abbrev rm_X_X1_go__3_6 : Room := { frames := 4, cells := 0, slots := 0, locals := 143 }
def b_X_X1_go__3_6_133  (t : fw_S)  : Option (Int32 × fw_S) := fb_b (f_X_X0_ranCount__4 t) fun v_2 t_1 => (some (v_2, t_1))
def b_X_X1_go__3_6_126  (t : fw_S)  : Option (Int32 × fw_S) := fb_v (f_X_X1_back__3 t) fun t_1 => (some ((-7 : Int32), t_1))
def b_X_X1_go__3_6_119  (t : fw_S)  : Option (Int32 × fw_S) := if (st_I t 8) = 0 then b_X_X1_go__3_6_133 t else b_X_X1_go__3_6_126 t
def b_X_X1_go__3_6_107 (k94 : fw_S → Int32 → Option (Int32 × fw_S)) (t : fw_S) (x2 : Int32) : Option (Int32 × fw_S) := fb_v (f_X_X1_settle__3 t x2 ((0 : Int32))) fun t_1 => (k94 t_1 (x2 + 1))
def b_X_X1_go__3_6_100 (k94 : fw_S → Int32 → Option (Int32 × fw_S)) (t : fw_S) (x2 : Int32) : Option (Int32 × fw_S) := if (st_I t 8) = 0 then b_X_X1_go__3_6_107 k94 t x2 else b_X_X1_go__3_6_119 t
def b_X_X1_go__3_6_94  : Nat → (fw_S → Int32 → Option (Int32 × fw_S))
  | 0 => fun _ _ => none
  | n + 1 => fun t x2 => if ((32 : Int32)) ≤ x2 then b_X_X1_go__3_6_119 t else b_X_X1_go__3_6_100 (b_X_X1_go__3_6_94 n) t x2
def b_X_X1_go__3_6_92  (t : fw_S)  : Option (Int32 × fw_S) := b_X_X1_go__3_6_94 3000 t ((0 : Int32))
def b_X_X1_go__3_6_86 (k57 : fw_S → Int32 → Option (Int32 × fw_S)) (t : fw_S) (x2 : Int32) : Option (Int32 × fw_S) := k57 t (x2 + 1)
def b_X_X1_go__3_6_74 (k57 : fw_S → Int32 → Option (Int32 × fw_S)) (t : fw_S) (x2 : Int32) : Option (Int32 × fw_S) := fb_v (f_X_X0_compare__4_5 t x2) fun t_1 => (b_X_X1_go__3_6_86 k57 t_1 x2)
def b_X_X1_go__3_6_63 (k57 : fw_S → Int32 → Option (Int32 × fw_S)) (t : fw_S) (x2 : Int32) : Option (Int32 × fw_S) := fb_b (f_X_X10_has t (st_J t 1) x2) fun v_2 t_1 => (if v_2 = 0 then b_X_X1_go__3_6_86 k57 t_1 x2 else b_X_X1_go__3_6_74 k57 t_1 x2)
def b_X_X1_go__3_6_57  : Nat → (fw_S → Int32 → Option (Int32 × fw_S))
  | 0 => fun _ _ => none
  | n + 1 => fun t x2 => if ((32 : Int32)) ≤ x2 then b_X_X1_go__3_6_92 t else b_X_X1_go__3_6_63 (b_X_X1_go__3_6_57 n) t x2
def b_X_X1_go__3_6_0  (t : fw_S)  : Option (Int32 × fw_S) := fb_v (f_X_X0_takeFrom__5_4 t) fun t_1 => (fb_v (f_X_X0_startWave__4 t_1) fun t_2 => (fb_v (f_X_X7_tell__6_4 t_2) fun t_3 => (fb_b (f_X_X7_cells__6 t_3) fun v_5 t_4 => (fb_l (up_J t_4 0 v_5) fun t_6 => (fb_b (f_X_X0_plain__4 t_6) fun v_8 t_7 => (fb_l (up_J t_7 1 v_8) fun t_9 => (fb_l (up_J t_9 2 ((0 : Int64))) fun t_10 => (fb_g (((0 : Int32)) = 0 ∨ ((0 : Int32)) = 1) (fb_l (up_I t_10 8 ((0 : Int32))) fun t_11 => (b_X_X1_go__3_6_57 3000 t_11 ((0 : Int32))))))))))))
def f_X_X1_go__3_6 (t : fw_S)  : Option (Int32 × fw_S) := b_X_X1_go__3_6_0 t 
set_option maxRecDepth 20000 in
theorem w_X_X1_go__3_6_133 {p : Program} {l : Launch} {e : Env} {s : State} {m : MethodId} {args : Array Value} {below : List Frame} {meth : Method} {c : Code} {A : Nat → Prop} {Q : State → Prop} {D : va_G} {ca : Nat → ClassId} {a : Nat → Nat} {u : fw_S} {r : Int32}  (C : CX (WX ca a) D (tyv ca) p s m args c A prog_3_method_5_code 3 RX1) (hr : True → RX (WX ca a) D p l e rm_X_X1_go__3_6 s m args below meth c A prog_3_method_5_code Q .ireturn [.int r] u) {t : fw_S}  {H : Heap} {locs : List Loc} {ls : Array Slot} (hf : b_X_X1_go__3_6_133  t  = some (r, u)) (hP : va_P D classes (WX ca a t) H) (hS : va_S A s.heap H locs) (hl : lv_has ls 3 [(0, .ref (a 3))]) : W p l e rm_X_X1_go__3_6 s m args below meth c H locs 0 0 Q (F0 m 133 ls []) := by
  obtain ⟨hx, hb, hml, hown, hts, hN, hK, hD, hA⟩ := id C
  have hf : (fb_b (f_X_X0_ranCount__4 t) fun v_2 t_1 => (some (v_2, t_1))) = some (r, u) := hf
  refine lv_aload_n hx hb dX1_go_133 rfl (lv_at hl 0 rfl) ?_
  refine va_get (D := D) (ci := 1) (v := .ref (a 4)) (C := RX1) (T := TX1) (N := 8) hx hb hts inX1 hown hK hP 3 (heX_3 ca a t) rfl 0 (by decide) (hts _ kw_225) (fun _ h9 => h9) rfl dX1_go_134 ?_
  obtain ⟨v_2, t_1, g_137, hf⟩ := fb_bs hf
  refine fw_V1 (As := []) (rest := []) (n := 0) (q0 := 4) C (c_X_X0_ranCount__4 (l := l) (D := D) (ca := ca) (a := a) g_137) kw_612 kw_613 kw_96 kw_615 kw_614 hP hS hl (heX_4 ca a t) rfl rfl rfl (by decide) (by decide +kernel) ⟨Nat.le_of_ble_eq_true rfl, Nat.le_of_ble_eq_true rfl⟩ rfl rfl (Nat.le_of_ble_eq_true rfl) dX1_go_137 (fun H locs hP hS => ?_)
  refine W.eq (g2 := F0 m 140 ls [.int v_2]) rfl ?_
  obtain ⟨e_140, e2_140⟩ := fb_e hf
  subst e_140; subst e2_140
  exact hr trivial _ _ _ _ hP hS dX1_go_140
set_option maxRecDepth 20000 in
theorem w_X_X1_go__3_6_126 {p : Program} {l : Launch} {e : Env} {s : State} {m : MethodId} {args : Array Value} {below : List Frame} {meth : Method} {c : Code} {A : Nat → Prop} {Q : State → Prop} {D : va_G} {ca : Nat → ClassId} {a : Nat → Nat} {u : fw_S} {r : Int32}  (C : CX (WX ca a) D (tyv ca) p s m args c A prog_3_method_5_code 3 RX1) (hr : True → RX (WX ca a) D p l e rm_X_X1_go__3_6 s m args below meth c A prog_3_method_5_code Q .ireturn [.int r] u) {t : fw_S}  {H : Heap} {locs : List Loc} {ls : Array Slot} (hf : b_X_X1_go__3_6_126  t  = some (r, u)) (hP : va_P D classes (WX ca a t) H) (hS : va_S A s.heap H locs) (hl : lv_has ls 3 [(0, .ref (a 3))]) : W p l e rm_X_X1_go__3_6 s m args below meth c H locs 0 0 Q (F0 m 126 ls []) := by
  obtain ⟨hx, hb, hml, hown, hts, hN, hK, hD, hA⟩ := id C
  have hf : (fb_v (f_X_X1_back__3 t) fun t_1 => (some ((-7 : Int32), t_1))) = some (r, u) := hf
  refine lv_aload_n hx hb dX1_go_126 rfl (lv_at hl 0 rfl) ?_
  obtain ⟨t_1, g_127, hf⟩ := fb_vs hf
  refine fw_V1 (As := []) (rest := []) (n := 0) (q0 := 3) C (c_X_X1_back__3 (l := l) (D := D) (ca := ca) (a := a) g_127) kw_608 kw_609 kw_95 kw_611 kw_610 hP hS hl (heX_3 ca a t) rfl rfl rfl (by decide) (by decide +kernel) ⟨Nat.le_of_ble_eq_true rfl, Nat.le_of_ble_eq_true rfl⟩ rfl rfl (Nat.le_of_ble_eq_true rfl) dX1_go_127 (fun H locs hP hS => ?_)
  refine W.eq (g2 := F0 m 130 ls []) rfl ?_
  refine lv_bipush (v := (-7)) hx hb dX1_go_130 (by decide) ?_
  obtain ⟨e_132, e2_132⟩ := fb_e hf
  subst e_132; subst e2_132
  exact hr trivial _ _ _ _ hP hS dX1_go_132
set_option maxRecDepth 20000 in
theorem w_X_X1_go__3_6_119 {p : Program} {l : Launch} {e : Env} {s : State} {m : MethodId} {args : Array Value} {below : List Frame} {meth : Method} {c : Code} {A : Nat → Prop} {Q : State → Prop} {D : va_G} {ca : Nat → ClassId} {a : Nat → Nat} {u : fw_S} {r : Int32}  (C : CX (WX ca a) D (tyv ca) p s m args c A prog_3_method_5_code 3 RX1) (hr : True → RX (WX ca a) D p l e rm_X_X1_go__3_6 s m args below meth c A prog_3_method_5_code Q .ireturn [.int r] u) {t : fw_S}  {H : Heap} {locs : List Loc} {ls : Array Slot} (hf : b_X_X1_go__3_6_119  t  = some (r, u)) (hP : va_P D classes (WX ca a t) H) (hS : va_S A s.heap H locs) (hl : lv_has ls 3 [(0, .ref (a 3))]) : W p l e rm_X_X1_go__3_6 s m args below meth c H locs 0 0 Q (F0 m 119 ls []) := by
  obtain ⟨hx, hb, hml, hown, hts, hN, hK, hD, hA⟩ := id C
  have hf : (if (st_I t 8) = 0 then b_X_X1_go__3_6_133 t else b_X_X1_go__3_6_126 t) = some (r, u) := hf
  refine lv_aload_n hx hb dX1_go_119 rfl (lv_at hl 0 rfl) ?_
  refine va_get (D := D) (ci := 1) (v := .int (st_I t 8)) (C := RX1) (T := TX1) (N := 8) hx hb hts inX1 hown hK hP 3 (heX_3 ca a t) rfl 6 (by decide) (hts _ kw_231) (fun _ h9 => h9) rfl dX1_go_120 ?_
  refine lv_if_eq (tgt := 133) hx hb dX1_go_123 (by decide) (fun h_123 => ?_) (fun h_123 => ?_)
  · have hf := fb_t h_123 hf
    exact w_X_X1_go__3_6_133 C hr hf hP hS (lv_sub hl [0] rfl)
  · have hf := fb_f h_123 hf
    exact w_X_X1_go__3_6_126 C hr hf hP hS (lv_sub hl [0] rfl)
set_option maxRecDepth 20000 in
theorem w_X_X1_go__3_6_107 {p : Program} {l : Launch} {e : Env} {s : State} {m : MethodId} {args : Array Value} {below : List Frame} {meth : Method} {c : Code} {A : Nat → Prop} {Q : State → Prop} {D : va_G} {ca : Nat → ClassId} {a : Nat → Nat} {u : fw_S} {r : Int32} {k94 : fw_S → Int32 → Option (Int32 × fw_S)} (C : CX (WX ca a) D (tyv ca) p s m args c A prog_3_method_5_code 3 RX1) (hr : True → RX (WX ca a) D p l e rm_X_X1_go__3_6 s m args below meth c A prog_3_method_5_code Q .ireturn [.int r] u) (hk94 : ∀ (t : fw_S) (x2 : Int32) (H : Heap) (locs : List Loc) (ls : Array Slot), k94 t x2 = some (r, u) → va_P D classes (WX ca a t) H → va_S A s.heap H locs → lv_has ls 3 [(0, .ref (a 3)), (2, .int x2)] → W p l e rm_X_X1_go__3_6 s m args below meth c H locs 0 0 Q (F0 m 94 ls [])) {t : fw_S} {x2 : Int32} {H : Heap} {locs : List Loc} {ls : Array Slot} (hf : b_X_X1_go__3_6_107 k94 t x2 = some (r, u)) (hP : va_P D classes (WX ca a t) H) (hS : va_S A s.heap H locs) (hl : lv_has ls 3 [(0, .ref (a 3)), (2, .int x2)]) : W p l e rm_X_X1_go__3_6 s m args below meth c H locs 0 0 Q (F0 m 107 ls []) := by
  obtain ⟨hx, hb, hml, hown, hts, hN, hK, hD, hA⟩ := id C
  have hf : (fb_v (f_X_X1_settle__3 t x2 ((0 : Int32))) fun t_1 => (k94 t_1 (x2 + 1))) = some (r, u) := hf
  refine lv_aload_n hx hb dX1_go_107 rfl (lv_at hl 0 rfl) ?_
  refine lv_iload_n hx hb dX1_go_108 rfl (lv_at hl 1 rfl) ?_
  refine lv_iconst (v := 0) hx hb dX1_go_109 (by decide) ?_
  obtain ⟨t_1, g_110, hf⟩ := fb_vs hf
  refine fw_V1 (As := [.int x2, .int ((0 : Int32))]) (rest := []) (n := 2) (q0 := 3) C (c_X_X1_settle__3 (l := l) (D := D) (ca := ca) (a := a) g_110) kw_462 kw_464 kw_95 kw_465 kw_1 hP hS hl (heX_3 ca a t) rfl rfl rfl (by decide) (by decide +kernel) ⟨Nat.le_of_ble_eq_true rfl, Nat.le_of_ble_eq_true rfl⟩ rfl rfl (Nat.le_of_ble_eq_true rfl) dX1_go_110 (fun H locs hP hS => ?_)
  refine W.eq (g2 := F0 m 113 ls []) rfl ?_
  refine lv_iinc (v := x2 + 1) (lv' := [(2, .int (x2 + 1)), (0, .ref (a 3))]) hx hb dX1_go_113 hl (k := 1) rfl rfl (by decide) rfl (fun ls hl => ?_)
  refine lv_goto (tgt := 94) hx hb dX1_go_116 (by decide) ?_
  exact hk94 t_1 (x2 + 1) _ _ _ hf hP hS (lv_sub hl [1, 0] rfl)
set_option maxRecDepth 20000 in
theorem w_X_X1_go__3_6_100 {p : Program} {l : Launch} {e : Env} {s : State} {m : MethodId} {args : Array Value} {below : List Frame} {meth : Method} {c : Code} {A : Nat → Prop} {Q : State → Prop} {D : va_G} {ca : Nat → ClassId} {a : Nat → Nat} {u : fw_S} {r : Int32} {k94 : fw_S → Int32 → Option (Int32 × fw_S)} (C : CX (WX ca a) D (tyv ca) p s m args c A prog_3_method_5_code 3 RX1) (hr : True → RX (WX ca a) D p l e rm_X_X1_go__3_6 s m args below meth c A prog_3_method_5_code Q .ireturn [.int r] u) (hk94 : ∀ (t : fw_S) (x2 : Int32) (H : Heap) (locs : List Loc) (ls : Array Slot), k94 t x2 = some (r, u) → va_P D classes (WX ca a t) H → va_S A s.heap H locs → lv_has ls 3 [(0, .ref (a 3)), (2, .int x2)] → W p l e rm_X_X1_go__3_6 s m args below meth c H locs 0 0 Q (F0 m 94 ls [])) {t : fw_S} {x2 : Int32} {H : Heap} {locs : List Loc} {ls : Array Slot} (hf : b_X_X1_go__3_6_100 k94 t x2 = some (r, u)) (hP : va_P D classes (WX ca a t) H) (hS : va_S A s.heap H locs) (hl : lv_has ls 3 [(0, .ref (a 3)), (2, .int x2)]) : W p l e rm_X_X1_go__3_6 s m args below meth c H locs 0 0 Q (F0 m 100 ls []) := by
  obtain ⟨hx, hb, hml, hown, hts, hN, hK, hD, hA⟩ := id C
  have hf : (if (st_I t 8) = 0 then b_X_X1_go__3_6_107 k94 t x2 else b_X_X1_go__3_6_119 t) = some (r, u) := hf
  refine lv_aload_n hx hb dX1_go_100 rfl (lv_at hl 0 rfl) ?_
  refine va_get (D := D) (ci := 1) (v := .int (st_I t 8)) (C := RX1) (T := TX1) (N := 8) hx hb hts inX1 hown hK hP 3 (heX_3 ca a t) rfl 6 (by decide) (hts _ kw_231) (fun _ h9 => h9) rfl dX1_go_101 ?_
  refine lv_if_ne (tgt := 119) hx hb dX1_go_104 (by decide) (fun h_104 => ?_) (fun h_104 => ?_)
  · have hf := fb_f h_104 hf
    exact w_X_X1_go__3_6_119 C hr hf hP hS (lv_sub hl [0] rfl)
  · have hf := fb_t h_104 hf
    exact w_X_X1_go__3_6_107 C hr hk94 hf hP hS (lv_sub hl [0, 1] rfl)
set_option maxRecDepth 20000 in
theorem w_X_X1_go__3_6_94 {p : Program} {l : Launch} {e : Env} {s : State} {m : MethodId} {args : Array Value} {below : List Frame} {meth : Method} {c : Code} {A : Nat → Prop} {Q : State → Prop} {D : va_G} {ca : Nat → ClassId} {a : Nat → Nat} {u : fw_S} {r : Int32}  (C : CX (WX ca a) D (tyv ca) p s m args c A prog_3_method_5_code 3 RX1) (hr : True → RX (WX ca a) D p l e rm_X_X1_go__3_6 s m args below meth c A prog_3_method_5_code Q .ireturn [.int r] u) : ∀ (n : Nat) (t : fw_S) (x2 : Int32) (H : Heap) (locs : List Loc) (ls : Array Slot), b_X_X1_go__3_6_94  n t x2 = some (r, u) → va_P D classes (WX ca a t) H → va_S A s.heap H locs → lv_has ls 3 [(0, .ref (a 3)), (2, .int x2)] → W p l e rm_X_X1_go__3_6 s m args below meth c H locs 0 0 Q (F0 m 94 ls []) := by
  obtain ⟨hx, hb, hml, hown, hts, hN, hK, hD, hA⟩ := id C
  intro n
  induction n with
  | zero => intro t x2 H locs ls hf; cases hf
  | succ n hk94 =>
    intro t x2 H locs ls hf hP hS hl
    have hf : (if ((32 : Int32)) ≤ x2 then b_X_X1_go__3_6_119 t else b_X_X1_go__3_6_100 (b_X_X1_go__3_6_94 n) t x2) = some (r, u) := hf
    refine lv_iload_n hx hb dX1_go_94 rfl (lv_at hl 1 rfl) ?_
    refine lv_bipush (v := 32) hx hb dX1_go_95 (by decide) ?_
    refine lv_icmp_ge (tgt := 119) hx hb dX1_go_97 (by decide) (fun h_97 => ?_) (fun h_97 => ?_)
    · have hf := fb_t h_97 hf
      exact w_X_X1_go__3_6_119 C hr hf hP hS (lv_sub hl [0] rfl)
    · have hf := fb_f h_97 hf
      exact w_X_X1_go__3_6_100 C hr hk94 hf hP hS (lv_sub hl [0, 1] rfl)
set_option maxRecDepth 20000 in
theorem w_X_X1_go__3_6_92 {p : Program} {l : Launch} {e : Env} {s : State} {m : MethodId} {args : Array Value} {below : List Frame} {meth : Method} {c : Code} {A : Nat → Prop} {Q : State → Prop} {D : va_G} {ca : Nat → ClassId} {a : Nat → Nat} {u : fw_S} {r : Int32}  (C : CX (WX ca a) D (tyv ca) p s m args c A prog_3_method_5_code 3 RX1) (hr : True → RX (WX ca a) D p l e rm_X_X1_go__3_6 s m args below meth c A prog_3_method_5_code Q .ireturn [.int r] u) {t : fw_S}  {H : Heap} {locs : List Loc} {ls : Array Slot} (hf : b_X_X1_go__3_6_92  t  = some (r, u)) (hP : va_P D classes (WX ca a t) H) (hS : va_S A s.heap H locs) (hl : lv_has ls 3 [(0, .ref (a 3))]) : W p l e rm_X_X1_go__3_6 s m args below meth c H locs 0 0 Q (F0 m 92 ls []) := by
  obtain ⟨hx, hb, hml, hown, hts, hN, hK, hD, hA⟩ := id C
  have hf : (b_X_X1_go__3_6_94 3000 t ((0 : Int32))) = some (r, u) := hf
  refine lv_iconst (v := 0) hx hb dX1_go_92 (by decide) ?_
  refine lv_istore_n (lv' := [(2, .int ((0 : Int32))), (0, .ref (a 3))]) hx hb dX1_go_93 rfl hl (by decide) rfl (fun ls hl => ?_)
  exact w_X_X1_go__3_6_94 C hr 3000 t ((0 : Int32)) _ _ _ hf hP hS (lv_sub hl [1, 0] rfl)
set_option maxRecDepth 20000 in
theorem w_X_X1_go__3_6_86 {p : Program} {l : Launch} {e : Env} {s : State} {m : MethodId} {args : Array Value} {below : List Frame} {meth : Method} {c : Code} {A : Nat → Prop} {Q : State → Prop} {D : va_G} {ca : Nat → ClassId} {a : Nat → Nat} {u : fw_S} {r : Int32} {k57 : fw_S → Int32 → Option (Int32 × fw_S)} (C : CX (WX ca a) D (tyv ca) p s m args c A prog_3_method_5_code 3 RX1) (hr : True → RX (WX ca a) D p l e rm_X_X1_go__3_6 s m args below meth c A prog_3_method_5_code Q .ireturn [.int r] u) (hk57 : ∀ (t : fw_S) (x2 : Int32) (H : Heap) (locs : List Loc) (ls : Array Slot), k57 t x2 = some (r, u) → va_P D classes (WX ca a t) H → va_S A s.heap H locs → lv_has ls 3 [(0, .ref (a 3)), (2, .int x2)] → W p l e rm_X_X1_go__3_6 s m args below meth c H locs 0 0 Q (F0 m 57 ls [])) {t : fw_S} {x2 : Int32} {H : Heap} {locs : List Loc} {ls : Array Slot} (hf : b_X_X1_go__3_6_86 k57 t x2 = some (r, u)) (hP : va_P D classes (WX ca a t) H) (hS : va_S A s.heap H locs) (hl : lv_has ls 3 [(0, .ref (a 3)), (2, .int x2)]) : W p l e rm_X_X1_go__3_6 s m args below meth c H locs 0 0 Q (F0 m 86 ls []) := by
  obtain ⟨hx, hb, hml, hown, hts, hN, hK, hD, hA⟩ := id C
  have hf : (k57 t (x2 + 1)) = some (r, u) := hf
  refine lv_iinc (v := x2 + 1) (lv' := [(2, .int (x2 + 1)), (0, .ref (a 3))]) hx hb dX1_go_86 hl (k := 1) rfl rfl (by decide) rfl (fun ls hl => ?_)
  refine lv_goto (tgt := 57) hx hb dX1_go_89 (by decide) ?_
  exact hk57 t (x2 + 1) _ _ _ hf hP hS (lv_sub hl [1, 0] rfl)
set_option maxRecDepth 20000 in
theorem w_X_X1_go__3_6_74 {p : Program} {l : Launch} {e : Env} {s : State} {m : MethodId} {args : Array Value} {below : List Frame} {meth : Method} {c : Code} {A : Nat → Prop} {Q : State → Prop} {D : va_G} {ca : Nat → ClassId} {a : Nat → Nat} {u : fw_S} {r : Int32} {k57 : fw_S → Int32 → Option (Int32 × fw_S)} (C : CX (WX ca a) D (tyv ca) p s m args c A prog_3_method_5_code 3 RX1) (hr : True → RX (WX ca a) D p l e rm_X_X1_go__3_6 s m args below meth c A prog_3_method_5_code Q .ireturn [.int r] u) (hk57 : ∀ (t : fw_S) (x2 : Int32) (H : Heap) (locs : List Loc) (ls : Array Slot), k57 t x2 = some (r, u) → va_P D classes (WX ca a t) H → va_S A s.heap H locs → lv_has ls 3 [(0, .ref (a 3)), (2, .int x2)] → W p l e rm_X_X1_go__3_6 s m args below meth c H locs 0 0 Q (F0 m 57 ls [])) {t : fw_S} {x2 : Int32} {H : Heap} {locs : List Loc} {ls : Array Slot} (hf : b_X_X1_go__3_6_74 k57 t x2 = some (r, u)) (hP : va_P D classes (WX ca a t) H) (hS : va_S A s.heap H locs) (hl : lv_has ls 3 [(0, .ref (a 3)), (2, .int x2)]) : W p l e rm_X_X1_go__3_6 s m args below meth c H locs 0 0 Q (F0 m 74 ls []) := by
  obtain ⟨hx, hb, hml, hown, hts, hN, hK, hD, hA⟩ := id C
  have hf : (fb_v (f_X_X0_compare__4_5 t x2) fun t_1 => (b_X_X1_go__3_6_86 k57 t_1 x2)) = some (r, u) := hf
  refine lv_aload_n hx hb dX1_go_74 rfl (lv_at hl 0 rfl) ?_
  refine va_get (D := D) (ci := 1) (v := .ref (a 4)) (C := RX1) (T := TX1) (N := 8) hx hb hts inX1 hown hK hP 3 (heX_3 ca a t) rfl 0 (by decide) (hts _ kw_225) (fun _ h9 => h9) rfl dX1_go_75 ?_
  refine lv_iload_n hx hb dX1_go_78 rfl (lv_at hl 1 rfl) ?_
  refine lv_aload_n hx hb dX1_go_79 rfl (lv_at hl 0 rfl) ?_
  refine va_get (D := D) (ci := 1) (v := .ref (a 5)) (C := RX1) (T := TX1) (N := 8) hx hb hts inX1 hown hK hP 3 (heX_3 ca a t) rfl 1 (by decide) (hts _ kw_226) (fun _ h9 => h9) rfl dX1_go_80 ?_
  obtain ⟨t_1, g_83, hf⟩ := fb_vs hf
  refine fw_V1 (As := [.int x2, .ref (a 5)]) (rest := []) (n := 2) (q0 := 4) C (c_X_X0_compare__4_5 (l := l) (D := D) (ca := ca) (a := a) g_83) kw_458 kw_459 kw_96 kw_461 kw_460 hP hS hl (heX_4 ca a t) rfl rfl rfl (by decide) (by decide +kernel) ⟨Nat.le_of_ble_eq_true rfl, Nat.le_of_ble_eq_true rfl⟩ rfl rfl (Nat.le_of_ble_eq_true rfl) dX1_go_83 (fun H locs hP hS => ?_)
  refine W.eq (g2 := F0 m 86 ls []) rfl ?_
  exact w_X_X1_go__3_6_86 C hr hk57 hf hP hS (lv_sub hl [0, 1] rfl)
set_option maxRecDepth 20000 in
theorem w_X_X1_go__3_6_63 {p : Program} {l : Launch} {e : Env} {s : State} {m : MethodId} {args : Array Value} {below : List Frame} {meth : Method} {c : Code} {A : Nat → Prop} {Q : State → Prop} {D : va_G} {ca : Nat → ClassId} {a : Nat → Nat} {u : fw_S} {r : Int32} {k57 : fw_S → Int32 → Option (Int32 × fw_S)} (C : CX (WX ca a) D (tyv ca) p s m args c A prog_3_method_5_code 3 RX1) (hr : True → RX (WX ca a) D p l e rm_X_X1_go__3_6 s m args below meth c A prog_3_method_5_code Q .ireturn [.int r] u) (hk57 : ∀ (t : fw_S) (x2 : Int32) (H : Heap) (locs : List Loc) (ls : Array Slot), k57 t x2 = some (r, u) → va_P D classes (WX ca a t) H → va_S A s.heap H locs → lv_has ls 3 [(0, .ref (a 3)), (2, .int x2)] → W p l e rm_X_X1_go__3_6 s m args below meth c H locs 0 0 Q (F0 m 57 ls [])) {t : fw_S} {x2 : Int32} {H : Heap} {locs : List Loc} {ls : Array Slot} (hf : b_X_X1_go__3_6_63 k57 t x2 = some (r, u)) (hP : va_P D classes (WX ca a t) H) (hS : va_S A s.heap H locs) (hl : lv_has ls 3 [(0, .ref (a 3)), (2, .int x2)]) : W p l e rm_X_X1_go__3_6 s m args below meth c H locs 0 0 Q (F0 m 63 ls []) := by
  obtain ⟨hx, hb, hml, hown, hts, hN, hK, hD, hA⟩ := id C
  have hf : (fb_b (f_X_X10_has t (st_J t 1) x2) fun v_2 t_1 => (if v_2 = 0 then b_X_X1_go__3_6_86 k57 t_1 x2 else b_X_X1_go__3_6_74 k57 t_1 x2)) = some (r, u) := hf
  refine lv_aload_n hx hb dX1_go_63 rfl (lv_at hl 0 rfl) ?_
  refine va_get (D := D) (ci := 1) (v := .long (st_J t 1)) (C := RX1) (T := TX1) (N := 8) hx hb hts inX1 hown hK hP 3 (heX_3 ca a t) rfl 4 (by decide) (hts _ kw_229) (fun _ h9 => h9) rfl dX1_go_64 ?_
  refine lv_iload_n hx hb dX1_go_67 rfl (lv_at hl 1 rfl) ?_
  obtain ⟨v_2, t_1, g_68, hf⟩ := fb_bs hf
  refine fw_S2 (As := [.long (st_J t 1), .int x2]) (rest := []) (n := 2) C (c_X_X10_has (l := l) (D := D) (ca := ca) (a := a) g_68) kw_457 kw_442 kw_92 kw_443 hP hS hl rfl rfl (by decide) (by decide +kernel) ⟨Nat.le_of_ble_eq_true rfl, Nat.le_of_ble_eq_true rfl⟩ rfl rfl (Nat.le_of_ble_eq_true rfl) dX1_go_68 (fun H locs hP hS => ?_)
  refine W.eq (g2 := F0 m 71 ls [.int v_2]) rfl ?_
  refine lv_if_eq (tgt := 86) hx hb dX1_go_71 (by decide) (fun h_71 => ?_) (fun h_71 => ?_)
  · have hf := fb_t h_71 hf
    exact w_X_X1_go__3_6_86 C hr hk57 hf hP hS (lv_sub hl [0, 1] rfl)
  · have hf := fb_f h_71 hf
    exact w_X_X1_go__3_6_74 C hr hk57 hf hP hS (lv_sub hl [0, 1] rfl)
set_option maxRecDepth 20000 in
theorem w_X_X1_go__3_6_57 {p : Program} {l : Launch} {e : Env} {s : State} {m : MethodId} {args : Array Value} {below : List Frame} {meth : Method} {c : Code} {A : Nat → Prop} {Q : State → Prop} {D : va_G} {ca : Nat → ClassId} {a : Nat → Nat} {u : fw_S} {r : Int32}  (C : CX (WX ca a) D (tyv ca) p s m args c A prog_3_method_5_code 3 RX1) (hr : True → RX (WX ca a) D p l e rm_X_X1_go__3_6 s m args below meth c A prog_3_method_5_code Q .ireturn [.int r] u) : ∀ (n : Nat) (t : fw_S) (x2 : Int32) (H : Heap) (locs : List Loc) (ls : Array Slot), b_X_X1_go__3_6_57  n t x2 = some (r, u) → va_P D classes (WX ca a t) H → va_S A s.heap H locs → lv_has ls 3 [(0, .ref (a 3)), (2, .int x2)] → W p l e rm_X_X1_go__3_6 s m args below meth c H locs 0 0 Q (F0 m 57 ls []) := by
  obtain ⟨hx, hb, hml, hown, hts, hN, hK, hD, hA⟩ := id C
  intro n
  induction n with
  | zero => intro t x2 H locs ls hf; cases hf
  | succ n hk57 =>
    intro t x2 H locs ls hf hP hS hl
    have hf : (if ((32 : Int32)) ≤ x2 then b_X_X1_go__3_6_92 t else b_X_X1_go__3_6_63 (b_X_X1_go__3_6_57 n) t x2) = some (r, u) := hf
    refine lv_iload_n hx hb dX1_go_57 rfl (lv_at hl 1 rfl) ?_
    refine lv_bipush (v := 32) hx hb dX1_go_58 (by decide) ?_
    refine lv_icmp_ge (tgt := 92) hx hb dX1_go_60 (by decide) (fun h_60 => ?_) (fun h_60 => ?_)
    · have hf := fb_t h_60 hf
      exact w_X_X1_go__3_6_92 C hr hf hP hS (lv_sub hl [0] rfl)
    · have hf := fb_f h_60 hf
      exact w_X_X1_go__3_6_63 C hr hk57 hf hP hS (lv_sub hl [0, 1] rfl)
set_option maxRecDepth 20000 in
theorem w_X_X1_go__3_6_0 {p : Program} {l : Launch} {e : Env} {s : State} {m : MethodId} {args : Array Value} {below : List Frame} {meth : Method} {c : Code} {A : Nat → Prop} {Q : State → Prop} {D : va_G} {ca : Nat → ClassId} {a : Nat → Nat} {u : fw_S} {r : Int32}  (C : CX (WX ca a) D (tyv ca) p s m args c A prog_3_method_5_code 3 RX1) (hr : True → RX (WX ca a) D p l e rm_X_X1_go__3_6 s m args below meth c A prog_3_method_5_code Q .ireturn [.int r] u) {t : fw_S}  {H : Heap} {locs : List Loc} {ls : Array Slot} (hf : b_X_X1_go__3_6_0  t  = some (r, u)) (hP : va_P D classes (WX ca a t) H) (hS : va_S A s.heap H locs) (hl : lv_has ls 3 [(0, .ref (a 3)), (1, .ref (a 6))]) : W p l e rm_X_X1_go__3_6 s m args below meth c H locs 0 0 Q (F0 m 0 ls []) := by
  obtain ⟨hx, hb, hml, hown, hts, hN, hK, hD, hA⟩ := id C
  have hf : (fb_v (f_X_X0_takeFrom__5_4 t) fun t_1 => (fb_v (f_X_X0_startWave__4 t_1) fun t_2 => (fb_v (f_X_X7_tell__6_4 t_2) fun t_3 => (fb_b (f_X_X7_cells__6 t_3) fun v_5 t_4 => (fb_l (up_J t_4 0 v_5) fun t_6 => (fb_b (f_X_X0_plain__4 t_6) fun v_8 t_7 => (fb_l (up_J t_7 1 v_8) fun t_9 => (fb_l (up_J t_9 2 ((0 : Int64))) fun t_10 => (fb_g (((0 : Int32)) = 0 ∨ ((0 : Int32)) = 1) (fb_l (up_I t_10 8 ((0 : Int32))) fun t_11 => (b_X_X1_go__3_6_57 3000 t_11 ((0 : Int32))))))))))))) = some (r, u) := hf
  refine lv_aload_n hx hb dX1_go_0 rfl (lv_at hl 0 rfl) ?_
  refine va_get (D := D) (ci := 1) (v := .ref (a 5)) (C := RX1) (T := TX1) (N := 8) hx hb hts inX1 hown hK hP 3 (heX_3 ca a t) rfl 1 (by decide) (hts _ kw_226) (fun _ h9 => h9) rfl dX1_go_1 ?_
  refine lv_aload_n hx hb dX1_go_4 rfl (lv_at hl 0 rfl) ?_
  refine va_get (D := D) (ci := 1) (v := .ref (a 4)) (C := RX1) (T := TX1) (N := 8) hx hb hts inX1 hown hK hP 3 (heX_3 ca a t) rfl 0 (by decide) (hts _ kw_225) (fun _ h9 => h9) rfl dX1_go_5 ?_
  obtain ⟨t_1, g_8, hf⟩ := fb_vs hf
  refine fw_V1 (As := [.ref (a 4)]) (rest := []) (n := 1) (q0 := 5) C (c_X_X0_takeFrom__5_4 (l := l) (D := D) (ca := ca) (a := a) g_8) kw_418 kw_419 kw_96 kw_421 kw_420 hP hS hl (heX_5 ca a t) rfl rfl rfl (by decide) (by decide +kernel) ⟨Nat.le_of_ble_eq_true rfl, Nat.le_of_ble_eq_true rfl⟩ rfl rfl (Nat.le_of_ble_eq_true rfl) dX1_go_8 (fun H locs hP hS => ?_)
  refine W.eq (g2 := F0 m 11 ls []) rfl ?_
  refine lv_aload_n hx hb dX1_go_11 rfl (lv_at hl 0 rfl) ?_
  refine va_get (D := D) (ci := 1) (v := .ref (a 4)) (C := RX1) (T := TX1) (N := 8) hx hb hts inX1 hown hK hP 3 (heX_3 ca a t_1) rfl 0 (by decide) (hts _ kw_225) (fun _ h9 => h9) rfl dX1_go_12 ?_
  obtain ⟨t_2, g_15, hf⟩ := fb_vs hf
  refine fw_V1 (As := []) (rest := []) (n := 0) (q0 := 4) C (c_X_X0_startWave__4 (l := l) (D := D) (ca := ca) (a := a) g_15) kw_430 kw_431 kw_96 kw_433 kw_432 hP hS hl (heX_4 ca a t_1) rfl rfl rfl (by decide) (by decide +kernel) ⟨Nat.le_of_ble_eq_true rfl, Nat.le_of_ble_eq_true rfl⟩ rfl rfl (Nat.le_of_ble_eq_true rfl) dX1_go_15 (fun H locs hP hS => ?_)
  refine W.eq (g2 := F0 m 18 ls []) rfl ?_
  refine lv_aload_n hx hb dX1_go_18 rfl (lv_at hl 1 rfl) ?_
  refine lv_aload_n hx hb dX1_go_19 rfl (lv_at hl 0 rfl) ?_
  refine va_get (D := D) (ci := 1) (v := .ref (a 4)) (C := RX1) (T := TX1) (N := 8) hx hb hts inX1 hown hK hP 3 (heX_3 ca a t_2) rfl 0 (by decide) (hts _ kw_225) (fun _ h9 => h9) rfl dX1_go_20 ?_
  obtain ⟨t_3, g_23, hf⟩ := fb_vs hf
  refine fw_V1 (As := [.ref (a 4)]) (rest := []) (n := 1) (q0 := 6) C (c_X_X7_tell__6_4 (l := l) (D := D) (ca := ca) (a := a) g_23) kw_437 kw_438 kw_97 kw_440 kw_439 hP hS hl (heX_6 ca a t_2) rfl rfl rfl (by decide) (by decide +kernel) ⟨Nat.le_of_ble_eq_true rfl, Nat.le_of_ble_eq_true rfl⟩ rfl rfl (Nat.le_of_ble_eq_true rfl) dX1_go_23 (fun H locs hP hS => ?_)
  refine W.eq (g2 := F0 m 26 ls []) rfl ?_
  refine lv_aload_n hx hb dX1_go_26 rfl (lv_at hl 0 rfl) ?_
  refine lv_aload_n hx hb dX1_go_27 rfl (lv_at hl 1 rfl) ?_
  obtain ⟨v_5, t_4, g_28, hf⟩ := fb_bs hf
  refine fw_V1 (As := []) (rest := [.ref (a 3)]) (n := 0) (q0 := 6) C (c_X_X7_cells__6 (l := l) (D := D) (ca := ca) (a := a) g_28) kw_448 kw_449 kw_97 kw_451 kw_450 hP hS hl (heX_6 ca a t_3) rfl rfl rfl (by decide) (by decide +kernel) ⟨Nat.le_of_ble_eq_true rfl, Nat.le_of_ble_eq_true rfl⟩ rfl rfl (Nat.le_of_ble_eq_true rfl) dX1_go_28 (fun H locs hP hS => ?_)
  refine W.eq (g2 := F0 m 31 ls [.long v_5, .ref (a 3)]) rfl ?_
  refine va_put (D := D) (ci := 1) (v := .long v_5) (ty := .long) (C := RX1) (T := TX1) (N := 8) hx hb hts inX1 tyX1 tyX1_ok nmX1 hown hK hP (hD t_4) hS 3 (heX_3 ca a t_4) rfl 3 (by decide) (hts _ kw_228) (fun _ h9 => h9) rfl (by decide +kernel) rfl rfl (Nat.le_of_ble_eq_true rfl) dX1_go_31 (fun H locs hP _ hS => ?_)
  rw [suX_3_3] at hP
  obtain ⟨t_6, e_31, hf⟩ := fb_ls hf
  rw [← e_31] at hP
  refine lv_aload_n hx hb dX1_go_34 rfl (lv_at hl 0 rfl) ?_
  refine lv_aload_n hx hb dX1_go_35 rfl (lv_at hl 0 rfl) ?_
  refine va_get (D := D) (ci := 1) (v := .ref (a 4)) (C := RX1) (T := TX1) (N := 8) hx hb hts inX1 hown hK hP 3 (heX_3 ca a t_6) rfl 0 (by decide) (hts _ kw_225) (fun _ h9 => h9) rfl dX1_go_36 ?_
  obtain ⟨v_8, t_7, g_39, hf⟩ := fb_bs hf
  refine fw_V1 (As := []) (rest := [.ref (a 3)]) (n := 0) (q0 := 4) C (c_X_X0_plain__4 (l := l) (D := D) (ca := ca) (a := a) g_39) kw_452 kw_453 kw_96 kw_455 kw_454 hP hS hl (heX_4 ca a t_6) rfl rfl rfl (by decide) (by decide +kernel) ⟨Nat.le_of_ble_eq_true rfl, Nat.le_of_ble_eq_true rfl⟩ rfl rfl (Nat.le_of_ble_eq_true rfl) dX1_go_39 (fun H locs hP hS => ?_)
  refine W.eq (g2 := F0 m 42 ls [.long v_8, .ref (a 3)]) rfl ?_
  refine va_put (D := D) (ci := 1) (v := .long v_8) (ty := .long) (C := RX1) (T := TX1) (N := 8) hx hb hts inX1 tyX1 tyX1_ok nmX1 hown hK hP (hD t_7) hS 3 (heX_3 ca a t_7) rfl 4 (by decide) (hts _ kw_229) (fun _ h9 => h9) rfl (by decide +kernel) rfl rfl (Nat.le_of_ble_eq_true rfl) dX1_go_42 (fun H locs hP _ hS => ?_)
  rw [suX_3_4] at hP
  obtain ⟨t_9, e_42, hf⟩ := fb_ls hf
  rw [← e_42] at hP
  refine lv_aload_n hx hb dX1_go_45 rfl (lv_at hl 0 rfl) ?_
  refine lv_lconst (v := 0) hx hb dX1_go_46 (by decide) ?_
  refine va_put (D := D) (ci := 1) (v := .long ((0 : Int64))) (ty := .long) (C := RX1) (T := TX1) (N := 8) hx hb hts inX1 tyX1 tyX1_ok nmX1 hown hK hP (hD t_9) hS 3 (heX_3 ca a t_9) rfl 5 (by decide) (hts _ kw_230) (fun _ h9 => h9) rfl (by decide +kernel) rfl rfl (Nat.le_of_ble_eq_true rfl) dX1_go_47 (fun H locs hP _ hS => ?_)
  rw [suX_3_5] at hP
  obtain ⟨t_10, e_47, hf⟩ := fb_ls hf
  rw [← e_47] at hP
  refine lv_aload_n hx hb dX1_go_50 rfl (lv_at hl 0 rfl) ?_
  refine lv_iconst (v := 0) hx hb dX1_go_51 (by decide) ?_
  obtain ⟨h_52, hf⟩ := fb_if hf
  refine va_put (D := D) (ci := 1) (v := .int ((0 : Int32))) (ty := .boolean) (C := RX1) (T := TX1) (N := 8) hx hb hts inX1 tyX1 tyX1_ok nmX1 hown hK hP (hD t_10) hS 3 (heX_3 ca a t_10) rfl 6 (by decide) (hts _ kw_231) (fun _ h9 => h9) rfl (by decide +kernel) (fb_z h_52).1 (fb_z h_52).2 (Nat.le_of_ble_eq_true rfl) dX1_go_52 (fun H locs hP _ hS => ?_)
  rw [suX_3_6] at hP
  obtain ⟨t_11, e_52, hf⟩ := fb_ls hf
  rw [← e_52] at hP
  refine lv_iconst (v := 0) hx hb dX1_go_55 (by decide) ?_
  refine lv_istore_n (lv' := [(2, .int ((0 : Int32))), (0, .ref (a 3)), (1, .ref (a 6))]) hx hb dX1_go_56 rfl hl (by decide) rfl (fun ls hl => ?_)
  exact w_X_X1_go__3_6_57 C hr 3000 t_11 ((0 : Int32)) _ _ _ hf hP hS (lv_sub hl [1, 0] rfl)
set_option maxRecDepth 20000 in
theorem c_X_X1_go__3_6 {l : Launch} {D : va_G} {ca : Nat → ClassId} {a : Nat → Nat} {t : fw_S}  {u : fw_S} {r : Int32} (hf : f_X_X1_go__3_6 t  = some (r, u)) : MC (WX ca a) D (tyv ca) l yX1_go (.code yX1_go prog_3_method_5_code 3 (some .int) :: lw_gd) rm_X_X1_go__3_6 [.ref (a 3), .ref (a 6)] (some (.int r)) t u := by
  refine fw_met (okX ca a) (by decide +kernel) rfl rfl (Nat.le_of_ble_eq_true rfl) ?_
  intro p e s m args below meth c A Q ls C hr hk hP hS hl hQ
  exact w_X_X1_go__3_6_0 C (fun _ => fw_ri C hr hk hQ) hf hP hS (lv_sub hl [0, 1] rfl)
/-! ReactiveSheet.Engine.before()LReactiveSheet.Cells; ['x.engine'] -/
abbrev rm_X_X1_before__3 : Room := { frames := 0, cells := 0, slots := 0, locals := 0 }
def b_X_X1_before__3_0  (t : fw_S)  : Option fw_S := some t
def f_X_X1_before__3 (t : fw_S)  : Option fw_S := b_X_X1_before__3_0 t 
set_option maxRecDepth 20000 in
theorem w_X_X1_before__3_0 {p : Program} {l : Launch} {e : Env} {s : State} {m : MethodId} {args : Array Value} {below : List Frame} {meth : Method} {c : Code} {A : Nat → Prop} {Q : State → Prop} {D : va_G} {ca : Nat → ClassId} {a : Nat → Nat} {u : fw_S}  (C : CX (WX ca a) D (tyv ca) p s m args c A prog_3_method_3_code 1 RX1) (hr : True → RX (WX ca a) D p l e rm_X_X1_before__3 s m args below meth c A prog_3_method_3_code Q .areturn [.ref (a 5)] u) {t : fw_S}  {H : Heap} {locs : List Loc} {ls : Array Slot} (hf : b_X_X1_before__3_0  t  = some u) (hP : va_P D classes (WX ca a t) H) (hS : va_S A s.heap H locs) (hl : lv_has ls 1 [(0, .ref (a 3))]) : W p l e rm_X_X1_before__3 s m args below meth c H locs 0 0 Q (F0 m 0 ls []) := by
  obtain ⟨hx, hb, hml, hown, hts, hN, hK, hD, hA⟩ := id C
  have hf : (some t) = some u := hf
  refine lv_aload_n hx hb dX1_before_0 rfl (lv_at hl 0 rfl) ?_
  refine va_get (D := D) (ci := 1) (v := .ref (a 5)) (C := RX1) (T := TX1) (N := 8) hx hb hts inX1 hown hK hP 3 (heX_3 ca a t) rfl 1 (by decide) (hts _ kw_226) (fun _ h9 => h9) rfl dX1_before_1 ?_
  have e_4 := fb_ev hf
  subst e_4
  exact hr trivial _ _ _ _ hP hS dX1_before_4
set_option maxRecDepth 20000 in
theorem c_X_X1_before__3 {l : Launch} {D : va_G} {ca : Nat → ClassId} {a : Nat → Nat} {t : fw_S}  {u : fw_S} (hf : f_X_X1_before__3 t  = some u) : MC (WX ca a) D (tyv ca) l yX1_before (.code yX1_before prog_3_method_3_code 1 (some (.object "ReactiveSheet$Cells")) :: lw_gd) rm_X_X1_before__3 [.ref (a 3)] (some (.ref (a 5))) t u := by
  refine fw_met (okX ca a) (by decide +kernel) rfl rfl (Nat.le_of_ble_eq_true rfl) ?_
  intro p e s m args below meth c A Q ls C hr hk hP hS hl hQ
  exact w_X_X1_before__3_0 C (fun _ => fw_ra C hr hk (Or.inr ⟨_, rfl⟩) hQ) hf hP hS (lv_sub hl [0] rfl)
/-! ReactiveSheet.Engine.now()LReactiveSheet.Cells; ['x.engine'] -/
abbrev rm_X_X1_now__3 : Room := { frames := 0, cells := 0, slots := 0, locals := 0 }
def b_X_X1_now__3_0  (t : fw_S)  : Option fw_S := some t
def f_X_X1_now__3 (t : fw_S)  : Option fw_S := b_X_X1_now__3_0 t 
set_option maxRecDepth 20000 in
theorem w_X_X1_now__3_0 {p : Program} {l : Launch} {e : Env} {s : State} {m : MethodId} {args : Array Value} {below : List Frame} {meth : Method} {c : Code} {A : Nat → Prop} {Q : State → Prop} {D : va_G} {ca : Nat → ClassId} {a : Nat → Nat} {u : fw_S}  (C : CX (WX ca a) D (tyv ca) p s m args c A prog_3_method_2_code 1 RX1) (hr : True → RX (WX ca a) D p l e rm_X_X1_now__3 s m args below meth c A prog_3_method_2_code Q .areturn [.ref (a 4)] u) {t : fw_S}  {H : Heap} {locs : List Loc} {ls : Array Slot} (hf : b_X_X1_now__3_0  t  = some u) (hP : va_P D classes (WX ca a t) H) (hS : va_S A s.heap H locs) (hl : lv_has ls 1 [(0, .ref (a 3))]) : W p l e rm_X_X1_now__3 s m args below meth c H locs 0 0 Q (F0 m 0 ls []) := by
  obtain ⟨hx, hb, hml, hown, hts, hN, hK, hD, hA⟩ := id C
  have hf : (some t) = some u := hf
  refine lv_aload_n hx hb dX1_now_0 rfl (lv_at hl 0 rfl) ?_
  refine va_get (D := D) (ci := 1) (v := .ref (a 4)) (C := RX1) (T := TX1) (N := 8) hx hb hts inX1 hown hK hP 3 (heX_3 ca a t) rfl 0 (by decide) (hts _ kw_225) (fun _ h9 => h9) rfl dX1_now_1 ?_
  have e_4 := fb_ev hf
  subst e_4
  exact hr trivial _ _ _ _ hP hS dX1_now_4
set_option maxRecDepth 20000 in
theorem c_X_X1_now__3 {l : Launch} {D : va_G} {ca : Nat → ClassId} {a : Nat → Nat} {t : fw_S}  {u : fw_S} (hf : f_X_X1_now__3 t  = some u) : MC (WX ca a) D (tyv ca) l yX1_now (.code yX1_now prog_3_method_2_code 1 (some (.object "ReactiveSheet$Cells")) :: lw_gd) rm_X_X1_now__3 [.ref (a 3)] (some (.ref (a 4))) t u := by
  refine fw_met (okX ca a) (by decide +kernel) rfl rfl (Nat.le_of_ble_eq_true rfl) ?_
  intro p e s m args below meth c A Q ls C hr hk hP hS hl hQ
  exact w_X_X1_now__3_0 C (fun _ => fw_ra C hr hk (Or.inr ⟨_, rfl⟩) hQ) hf hP hS (lv_sub hl [0] rfl)
/-! ReactiveSheet.Cells.isChanged(I)Z ['x.engine.now'] -/
abbrev rm_X_X0_isChanged__4 : Room := { frames := 1, cells := 0, slots := 0, locals := 22 }
def b_X_X0_isChanged__4_24  (t : fw_S) (z0 : Int32) : Option (Int32 × fw_S) := fb_g (z0 = 0 ∨ z0 = 1) (some (z0, t))
def b_X_X0_isChanged__4_23  (t : fw_S)  : Option (Int32 × fw_S) := b_X_X0_isChanged__4_24 t ((0 : Int32))
def b_X_X0_isChanged__4_19  (t : fw_S)  : Option (Int32 × fw_S) := b_X_X0_isChanged__4_24 t ((1 : Int32))
def b_X_X0_isChanged__4_8  (t : fw_S) (x1 : Int32) : Option (Int32 × fw_S) := fb_b (f_X_X10_has t (st_J t 4) x1) fun v_2 t_1 => (if v_2 = 0 then b_X_X0_isChanged__4_23 t_1 else b_X_X0_isChanged__4_19 t_1)
def b_X_X0_isChanged__4_0  (t : fw_S) (x1 : Int32) : Option (Int32 × fw_S) := fb_b (f_X_X10_isCell t x1.toInt64) fun v_2 t_1 => (if v_2 = 0 then b_X_X0_isChanged__4_23 t_1 else b_X_X0_isChanged__4_8 t_1 x1)
def f_X_X0_isChanged__4 (t : fw_S) (x1 : Int32) : Option (Int32 × fw_S) := b_X_X0_isChanged__4_0 t x1
set_option maxRecDepth 20000 in
theorem w_X_X0_isChanged__4_24 {p : Program} {l : Launch} {e : Env} {s : State} {m : MethodId} {args : Array Value} {below : List Frame} {meth : Method} {c : Code} {A : Nat → Prop} {Q : State → Prop} {D : va_G} {ca : Nat → ClassId} {a : Nat → Nat} {u : fw_S} {r : Int32}  (C : CX (WX ca a) D (tyv ca) p s m args c A prog_2_method_17_code 2 RX0) (hr : (r = 0 ∨ r = 1) → RX (WX ca a) D p l e rm_X_X0_isChanged__4 s m args below meth c A prog_2_method_17_code Q .ireturn [.int r] u) {t : fw_S} {z0 : Int32} {H : Heap} {locs : List Loc} {ls : Array Slot} (hf : b_X_X0_isChanged__4_24  t z0 = some (r, u)) (hP : va_P D classes (WX ca a t) H) (hS : va_S A s.heap H locs) (hl : lv_has ls 2 []) : W p l e rm_X_X0_isChanged__4 s m args below meth c H locs 0 0 Q (F0 m 24 ls [.int z0]) := by
  obtain ⟨hx, hb, hml, hown, hts, hN, hK, hD, hA⟩ := id C
  have hf : (fb_g (z0 = 0 ∨ z0 = 1) (some (z0, t))) = some (r, u) := hf
  obtain ⟨h_24, hf⟩ := fb_if hf
  obtain ⟨e_24, e2_24⟩ := fb_e hf
  subst e_24; subst e2_24
  exact hr h_24 _ _ _ _ hP hS dX0_isChanged_24
set_option maxRecDepth 20000 in
theorem w_X_X0_isChanged__4_23 {p : Program} {l : Launch} {e : Env} {s : State} {m : MethodId} {args : Array Value} {below : List Frame} {meth : Method} {c : Code} {A : Nat → Prop} {Q : State → Prop} {D : va_G} {ca : Nat → ClassId} {a : Nat → Nat} {u : fw_S} {r : Int32}  (C : CX (WX ca a) D (tyv ca) p s m args c A prog_2_method_17_code 2 RX0) (hr : (r = 0 ∨ r = 1) → RX (WX ca a) D p l e rm_X_X0_isChanged__4 s m args below meth c A prog_2_method_17_code Q .ireturn [.int r] u) {t : fw_S}  {H : Heap} {locs : List Loc} {ls : Array Slot} (hf : b_X_X0_isChanged__4_23  t  = some (r, u)) (hP : va_P D classes (WX ca a t) H) (hS : va_S A s.heap H locs) (hl : lv_has ls 2 []) : W p l e rm_X_X0_isChanged__4 s m args below meth c H locs 0 0 Q (F0 m 23 ls []) := by
  obtain ⟨hx, hb, hml, hown, hts, hN, hK, hD, hA⟩ := id C
  have hf : (b_X_X0_isChanged__4_24 t ((0 : Int32))) = some (r, u) := hf
  refine lv_iconst (v := 0) hx hb dX0_isChanged_23 (by decide) ?_
  exact w_X_X0_isChanged__4_24 C hr hf hP hS (lv_sub hl [] rfl)
set_option maxRecDepth 20000 in
theorem w_X_X0_isChanged__4_19 {p : Program} {l : Launch} {e : Env} {s : State} {m : MethodId} {args : Array Value} {below : List Frame} {meth : Method} {c : Code} {A : Nat → Prop} {Q : State → Prop} {D : va_G} {ca : Nat → ClassId} {a : Nat → Nat} {u : fw_S} {r : Int32}  (C : CX (WX ca a) D (tyv ca) p s m args c A prog_2_method_17_code 2 RX0) (hr : (r = 0 ∨ r = 1) → RX (WX ca a) D p l e rm_X_X0_isChanged__4 s m args below meth c A prog_2_method_17_code Q .ireturn [.int r] u) {t : fw_S}  {H : Heap} {locs : List Loc} {ls : Array Slot} (hf : b_X_X0_isChanged__4_19  t  = some (r, u)) (hP : va_P D classes (WX ca a t) H) (hS : va_S A s.heap H locs) (hl : lv_has ls 2 []) : W p l e rm_X_X0_isChanged__4 s m args below meth c H locs 0 0 Q (F0 m 19 ls []) := by
  obtain ⟨hx, hb, hml, hown, hts, hN, hK, hD, hA⟩ := id C
  have hf : (b_X_X0_isChanged__4_24 t ((1 : Int32))) = some (r, u) := hf
  refine lv_iconst (v := 1) hx hb dX0_isChanged_19 (by decide) ?_
  refine lv_goto (tgt := 24) hx hb dX0_isChanged_20 (by decide) ?_
  exact w_X_X0_isChanged__4_24 C hr hf hP hS (lv_sub hl [] rfl)
set_option maxRecDepth 20000 in
theorem w_X_X0_isChanged__4_8 {p : Program} {l : Launch} {e : Env} {s : State} {m : MethodId} {args : Array Value} {below : List Frame} {meth : Method} {c : Code} {A : Nat → Prop} {Q : State → Prop} {D : va_G} {ca : Nat → ClassId} {a : Nat → Nat} {u : fw_S} {r : Int32}  (C : CX (WX ca a) D (tyv ca) p s m args c A prog_2_method_17_code 2 RX0) (hr : (r = 0 ∨ r = 1) → RX (WX ca a) D p l e rm_X_X0_isChanged__4 s m args below meth c A prog_2_method_17_code Q .ireturn [.int r] u) {t : fw_S} {x1 : Int32} {H : Heap} {locs : List Loc} {ls : Array Slot} (hf : b_X_X0_isChanged__4_8  t x1 = some (r, u)) (hP : va_P D classes (WX ca a t) H) (hS : va_S A s.heap H locs) (hl : lv_has ls 2 [(0, .ref (a 4)), (1, .int x1)]) : W p l e rm_X_X0_isChanged__4 s m args below meth c H locs 0 0 Q (F0 m 8 ls []) := by
  obtain ⟨hx, hb, hml, hown, hts, hN, hK, hD, hA⟩ := id C
  have hf : (fb_b (f_X_X10_has t (st_J t 4) x1) fun v_2 t_1 => (if v_2 = 0 then b_X_X0_isChanged__4_23 t_1 else b_X_X0_isChanged__4_19 t_1)) = some (r, u) := hf
  refine lv_aload_n hx hb dX0_isChanged_8 rfl (lv_at hl 0 rfl) ?_
  refine va_get (D := D) (ci := 0) (v := .long (st_J t 4)) (C := RX0) (T := TX0) (N := 12) hx hb hts inX0 hown hK hP 4 (heX_4 ca a t) rfl 10 (by decide) (hts _ kw_197) (fun _ h9 => h9) rfl dX0_isChanged_9 ?_
  refine lv_iload_n hx hb dX0_isChanged_12 rfl (lv_at hl 1 rfl) ?_
  obtain ⟨v_2, t_1, g_13, hf⟩ := fb_bs hf
  refine fw_S2 (As := [.long (st_J t 4), .int x1]) (rest := []) (n := 2) C (c_X_X10_has (l := l) (D := D) (ca := ca) (a := a) g_13) kw_480 kw_442 kw_92 kw_443 hP hS hl rfl rfl (by decide) (by decide +kernel) ⟨Nat.le_of_ble_eq_true rfl, Nat.le_of_ble_eq_true rfl⟩ rfl rfl (Nat.le_of_ble_eq_true rfl) dX0_isChanged_13 (fun H locs hP hS => ?_)
  refine W.eq (g2 := F0 m 16 ls [.int v_2]) rfl ?_
  refine lv_if_eq (tgt := 23) hx hb dX0_isChanged_16 (by decide) (fun h_16 => ?_) (fun h_16 => ?_)
  · have hf := fb_t h_16 hf
    exact w_X_X0_isChanged__4_23 C hr hf hP hS (lv_sub hl [] rfl)
  · have hf := fb_f h_16 hf
    exact w_X_X0_isChanged__4_19 C hr hf hP hS (lv_sub hl [] rfl)
set_option maxRecDepth 20000 in
theorem w_X_X0_isChanged__4_0 {p : Program} {l : Launch} {e : Env} {s : State} {m : MethodId} {args : Array Value} {below : List Frame} {meth : Method} {c : Code} {A : Nat → Prop} {Q : State → Prop} {D : va_G} {ca : Nat → ClassId} {a : Nat → Nat} {u : fw_S} {r : Int32}  (C : CX (WX ca a) D (tyv ca) p s m args c A prog_2_method_17_code 2 RX0) (hr : (r = 0 ∨ r = 1) → RX (WX ca a) D p l e rm_X_X0_isChanged__4 s m args below meth c A prog_2_method_17_code Q .ireturn [.int r] u) {t : fw_S} {x1 : Int32} {H : Heap} {locs : List Loc} {ls : Array Slot} (hf : b_X_X0_isChanged__4_0  t x1 = some (r, u)) (hP : va_P D classes (WX ca a t) H) (hS : va_S A s.heap H locs) (hl : lv_has ls 2 [(0, .ref (a 4)), (1, .int x1)]) : W p l e rm_X_X0_isChanged__4 s m args below meth c H locs 0 0 Q (F0 m 0 ls []) := by
  obtain ⟨hx, hb, hml, hown, hts, hN, hK, hD, hA⟩ := id C
  have hf : (fb_b (f_X_X10_isCell t x1.toInt64) fun v_2 t_1 => (if v_2 = 0 then b_X_X0_isChanged__4_23 t_1 else b_X_X0_isChanged__4_8 t_1 x1)) = some (r, u) := hf
  refine lv_iload_n hx hb dX0_isChanged_0 rfl (lv_at hl 1 rfl) ?_
  refine lv_i2l hx hb dX0_isChanged_1 rfl ?_
  obtain ⟨v_2, t_1, g_2, hf⟩ := fb_bs hf
  refine fw_S2 (As := [.long x1.toInt64]) (rest := []) (n := 1) C (c_X_X10_isCell (l := l) (D := D) (ca := ca) (a := a) g_2) kw_429 kw_399 kw_92 kw_400 hP hS hl rfl rfl (by decide) (by decide +kernel) ⟨Nat.le_of_ble_eq_true rfl, Nat.le_of_ble_eq_true rfl⟩ rfl rfl (Nat.le_of_ble_eq_true rfl) dX0_isChanged_2 (fun H locs hP hS => ?_)
  refine W.eq (g2 := F0 m 5 ls [.int v_2]) rfl ?_
  refine lv_if_eq (tgt := 23) hx hb dX0_isChanged_5 (by decide) (fun h_5 => ?_) (fun h_5 => ?_)
  · have hf := fb_t h_5 hf
    exact w_X_X0_isChanged__4_23 C hr hf hP hS (lv_sub hl [] rfl)
  · have hf := fb_f h_5 hf
    exact w_X_X0_isChanged__4_8 C hr hf hP hS (lv_sub hl [0, 1] rfl)
set_option maxRecDepth 20000 in
theorem c_X_X0_isChanged__4 {l : Launch} {D : va_G} {ca : Nat → ClassId} {a : Nat → Nat} {t : fw_S} {x1 : Int32} {u : fw_S} {r : Int32} (hf : f_X_X0_isChanged__4 t x1 = some (r, u)) : MC (WX ca a) D (tyv ca) l yX0_isChanged (.code yX0_isChanged prog_2_method_17_code 2 (some .boolean) :: lw_gd) rm_X_X0_isChanged__4 [.ref (a 4), .int x1] (some (.int r)) t u := by
  refine fw_met (okX ca a) (by decide +kernel) rfl rfl (Nat.le_of_ble_eq_true rfl) ?_
  intro p e s m args below meth c A Q ls C hr hk hP hS hl hQ
  exact w_X_X0_isChanged__4_0 C (fun hz => fw_rz C hr hk hz hQ) hf hP hS (lv_sub hl [0, 1] rfl)
/-! ReactiveSheet.Cells.errorOf(I)I ['x.engine.before'] -/
abbrev rm_X_X0_errorOf__5 : Room := { frames := 1, cells := 0, slots := 0, locals := 21 }
def b_X_X0_errorOf__5_18  (t : fw_S) (z0 : Int32) : Option (Int32 × fw_S) := some (z0, t)
def b_X_X0_errorOf__5_17  (t : fw_S)  : Option (Int32 × fw_S) := b_X_X0_errorOf__5_18 t ((3 : Int32))
def b_X_X0_errorOf__5_8  (t : fw_S) (x1 : Int32) : Option (Int32 × fw_S) := fb_g (¬ (x1 < 0 ∨ 32 ≤ x1.toNatClampNeg)) (b_X_X0_errorOf__5_18 t (st_F t 16 x1.toNatClampNeg))
def b_X_X0_errorOf__5_0  (t : fw_S) (x1 : Int32) : Option (Int32 × fw_S) := fb_b (f_X_X10_isCell t x1.toInt64) fun v_2 t_1 => (if v_2 = 0 then b_X_X0_errorOf__5_17 t_1 else b_X_X0_errorOf__5_8 t_1 x1)
def f_X_X0_errorOf__5 (t : fw_S) (x1 : Int32) : Option (Int32 × fw_S) := b_X_X0_errorOf__5_0 t x1
set_option maxRecDepth 20000 in
theorem w_X_X0_errorOf__5_18 {p : Program} {l : Launch} {e : Env} {s : State} {m : MethodId} {args : Array Value} {below : List Frame} {meth : Method} {c : Code} {A : Nat → Prop} {Q : State → Prop} {D : va_G} {ca : Nat → ClassId} {a : Nat → Nat} {u : fw_S} {r : Int32}  (C : CX (WX ca a) D (tyv ca) p s m args c A prog_2_method_11_code 2 RX0) (hr : True → RX (WX ca a) D p l e rm_X_X0_errorOf__5 s m args below meth c A prog_2_method_11_code Q .ireturn [.int r] u) {t : fw_S} {z0 : Int32} {H : Heap} {locs : List Loc} {ls : Array Slot} (hf : b_X_X0_errorOf__5_18  t z0 = some (r, u)) (hP : va_P D classes (WX ca a t) H) (hS : va_S A s.heap H locs) (hl : lv_has ls 2 []) : W p l e rm_X_X0_errorOf__5 s m args below meth c H locs 0 0 Q (F0 m 18 ls [.int z0]) := by
  obtain ⟨hx, hb, hml, hown, hts, hN, hK, hD, hA⟩ := id C
  have hf : (some (z0, t)) = some (r, u) := hf
  obtain ⟨e_18, e2_18⟩ := fb_e hf
  subst e_18; subst e2_18
  exact hr trivial _ _ _ _ hP hS dX0_errorOf_18
set_option maxRecDepth 20000 in
theorem w_X_X0_errorOf__5_17 {p : Program} {l : Launch} {e : Env} {s : State} {m : MethodId} {args : Array Value} {below : List Frame} {meth : Method} {c : Code} {A : Nat → Prop} {Q : State → Prop} {D : va_G} {ca : Nat → ClassId} {a : Nat → Nat} {u : fw_S} {r : Int32}  (C : CX (WX ca a) D (tyv ca) p s m args c A prog_2_method_11_code 2 RX0) (hr : True → RX (WX ca a) D p l e rm_X_X0_errorOf__5 s m args below meth c A prog_2_method_11_code Q .ireturn [.int r] u) {t : fw_S}  {H : Heap} {locs : List Loc} {ls : Array Slot} (hf : b_X_X0_errorOf__5_17  t  = some (r, u)) (hP : va_P D classes (WX ca a t) H) (hS : va_S A s.heap H locs) (hl : lv_has ls 2 []) : W p l e rm_X_X0_errorOf__5 s m args below meth c H locs 0 0 Q (F0 m 17 ls []) := by
  obtain ⟨hx, hb, hml, hown, hts, hN, hK, hD, hA⟩ := id C
  have hf : (b_X_X0_errorOf__5_18 t ((3 : Int32))) = some (r, u) := hf
  refine lv_iconst (v := 3) hx hb dX0_errorOf_17 (by decide) ?_
  exact w_X_X0_errorOf__5_18 C hr hf hP hS (lv_sub hl [] rfl)
set_option maxRecDepth 20000 in
theorem w_X_X0_errorOf__5_8 {p : Program} {l : Launch} {e : Env} {s : State} {m : MethodId} {args : Array Value} {below : List Frame} {meth : Method} {c : Code} {A : Nat → Prop} {Q : State → Prop} {D : va_G} {ca : Nat → ClassId} {a : Nat → Nat} {u : fw_S} {r : Int32}  (C : CX (WX ca a) D (tyv ca) p s m args c A prog_2_method_11_code 2 RX0) (hr : True → RX (WX ca a) D p l e rm_X_X0_errorOf__5 s m args below meth c A prog_2_method_11_code Q .ireturn [.int r] u) {t : fw_S} {x1 : Int32} {H : Heap} {locs : List Loc} {ls : Array Slot} (hf : b_X_X0_errorOf__5_8  t x1 = some (r, u)) (hP : va_P D classes (WX ca a t) H) (hS : va_S A s.heap H locs) (hl : lv_has ls 2 [(0, .ref (a 5)), (1, .int x1)]) : W p l e rm_X_X0_errorOf__5 s m args below meth c H locs 0 0 Q (F0 m 8 ls []) := by
  obtain ⟨hx, hb, hml, hown, hts, hN, hK, hD, hA⟩ := id C
  have hf : (fb_g (¬ (x1 < 0 ∨ 32 ≤ x1.toNatClampNeg)) (b_X_X0_errorOf__5_18 t (st_F t 16 x1.toNatClampNeg))) = some (r, u) := hf
  refine lv_aload_n hx hb dX0_errorOf_8 rfl (lv_at hl 0 rfl) ?_
  refine va_get (D := D) (ci := 0) (v := .ref (a 34)) (C := RX0) (T := TX0) (N := 12) hx hb hts inX0 hown hK hP 5 (heX_5 ca a t) rfl 2 (by decide) (hts _ kw_189) (fun _ h9 => h9) rfl dX0_errorOf_9 ?_
  refine lv_iload_n hx hb dX0_errorOf_12 rfl (lv_at hl 1 rfl) ?_
  obtain ⟨h_13, hf⟩ := fb_if hf
  refine va_iald hx hb hK hP 34 0 (haX_34 ca a t) rfl h_13 dX0_errorOf_13 ?_
  refine lv_goto (tgt := 18) hx hb dX0_errorOf_14 (by decide) ?_
  exact w_X_X0_errorOf__5_18 C hr hf hP hS (lv_sub hl [] rfl)
set_option maxRecDepth 20000 in
theorem w_X_X0_errorOf__5_0 {p : Program} {l : Launch} {e : Env} {s : State} {m : MethodId} {args : Array Value} {below : List Frame} {meth : Method} {c : Code} {A : Nat → Prop} {Q : State → Prop} {D : va_G} {ca : Nat → ClassId} {a : Nat → Nat} {u : fw_S} {r : Int32}  (C : CX (WX ca a) D (tyv ca) p s m args c A prog_2_method_11_code 2 RX0) (hr : True → RX (WX ca a) D p l e rm_X_X0_errorOf__5 s m args below meth c A prog_2_method_11_code Q .ireturn [.int r] u) {t : fw_S} {x1 : Int32} {H : Heap} {locs : List Loc} {ls : Array Slot} (hf : b_X_X0_errorOf__5_0  t x1 = some (r, u)) (hP : va_P D classes (WX ca a t) H) (hS : va_S A s.heap H locs) (hl : lv_has ls 2 [(0, .ref (a 5)), (1, .int x1)]) : W p l e rm_X_X0_errorOf__5 s m args below meth c H locs 0 0 Q (F0 m 0 ls []) := by
  obtain ⟨hx, hb, hml, hown, hts, hN, hK, hD, hA⟩ := id C
  have hf : (fb_b (f_X_X10_isCell t x1.toInt64) fun v_2 t_1 => (if v_2 = 0 then b_X_X0_errorOf__5_17 t_1 else b_X_X0_errorOf__5_8 t_1 x1)) = some (r, u) := hf
  refine lv_iload_n hx hb dX0_errorOf_0 rfl (lv_at hl 1 rfl) ?_
  refine lv_i2l hx hb dX0_errorOf_1 rfl ?_
  obtain ⟨v_2, t_1, g_2, hf⟩ := fb_bs hf
  refine fw_S2 (As := [.long x1.toInt64]) (rest := []) (n := 1) C (c_X_X10_isCell (l := l) (D := D) (ca := ca) (a := a) g_2) kw_429 kw_399 kw_92 kw_400 hP hS hl rfl rfl (by decide) (by decide +kernel) ⟨Nat.le_of_ble_eq_true rfl, Nat.le_of_ble_eq_true rfl⟩ rfl rfl (Nat.le_of_ble_eq_true rfl) dX0_errorOf_2 (fun H locs hP hS => ?_)
  refine W.eq (g2 := F0 m 5 ls [.int v_2]) rfl ?_
  refine lv_if_eq (tgt := 17) hx hb dX0_errorOf_5 (by decide) (fun h_5 => ?_) (fun h_5 => ?_)
  · have hf := fb_t h_5 hf
    exact w_X_X0_errorOf__5_17 C hr hf hP hS (lv_sub hl [] rfl)
  · have hf := fb_f h_5 hf
    exact w_X_X0_errorOf__5_8 C hr hf hP hS (lv_sub hl [0, 1] rfl)
set_option maxRecDepth 20000 in
theorem c_X_X0_errorOf__5 {l : Launch} {D : va_G} {ca : Nat → ClassId} {a : Nat → Nat} {t : fw_S} {x1 : Int32} {u : fw_S} {r : Int32} (hf : f_X_X0_errorOf__5 t x1 = some (r, u)) : MC (WX ca a) D (tyv ca) l yX0_errorOf (.code yX0_errorOf prog_2_method_11_code 2 (some .int) :: lw_gd) rm_X_X0_errorOf__5 [.ref (a 5), .int x1] (some (.int r)) t u := by
  refine fw_met (okX ca a) (by decide +kernel) rfl rfl (Nat.le_of_ble_eq_true rfl) ?_
  intro p e s m args below meth c A Q ls C hr hk hP hS hl hQ
  exact w_X_X0_errorOf__5_0 C (fun _ => fw_ri C hr hk hQ) hf hP hS (lv_sub hl [0, 1] rfl)
/-! ReactiveSheet.Cells.errorOf(I)I ['x.engine.now'] -/
abbrev rm_X_X0_errorOf__4 : Room := { frames := 1, cells := 0, slots := 0, locals := 21 }
def b_X_X0_errorOf__4_18  (t : fw_S) (z0 : Int32) : Option (Int32 × fw_S) := some (z0, t)
def b_X_X0_errorOf__4_17  (t : fw_S)  : Option (Int32 × fw_S) := b_X_X0_errorOf__4_18 t ((3 : Int32))
def b_X_X0_errorOf__4_8  (t : fw_S) (x1 : Int32) : Option (Int32 × fw_S) := fb_g (¬ (x1 < 0 ∨ 32 ≤ x1.toNatClampNeg)) (b_X_X0_errorOf__4_18 t (st_F t 9 x1.toNatClampNeg))
def b_X_X0_errorOf__4_0  (t : fw_S) (x1 : Int32) : Option (Int32 × fw_S) := fb_b (f_X_X10_isCell t x1.toInt64) fun v_2 t_1 => (if v_2 = 0 then b_X_X0_errorOf__4_17 t_1 else b_X_X0_errorOf__4_8 t_1 x1)
def f_X_X0_errorOf__4 (t : fw_S) (x1 : Int32) : Option (Int32 × fw_S) := b_X_X0_errorOf__4_0 t x1
set_option maxRecDepth 20000 in
theorem w_X_X0_errorOf__4_18 {p : Program} {l : Launch} {e : Env} {s : State} {m : MethodId} {args : Array Value} {below : List Frame} {meth : Method} {c : Code} {A : Nat → Prop} {Q : State → Prop} {D : va_G} {ca : Nat → ClassId} {a : Nat → Nat} {u : fw_S} {r : Int32}  (C : CX (WX ca a) D (tyv ca) p s m args c A prog_2_method_11_code 2 RX0) (hr : True → RX (WX ca a) D p l e rm_X_X0_errorOf__4 s m args below meth c A prog_2_method_11_code Q .ireturn [.int r] u) {t : fw_S} {z0 : Int32} {H : Heap} {locs : List Loc} {ls : Array Slot} (hf : b_X_X0_errorOf__4_18  t z0 = some (r, u)) (hP : va_P D classes (WX ca a t) H) (hS : va_S A s.heap H locs) (hl : lv_has ls 2 []) : W p l e rm_X_X0_errorOf__4 s m args below meth c H locs 0 0 Q (F0 m 18 ls [.int z0]) := by
  obtain ⟨hx, hb, hml, hown, hts, hN, hK, hD, hA⟩ := id C
  have hf : (some (z0, t)) = some (r, u) := hf
  obtain ⟨e_18, e2_18⟩ := fb_e hf
  subst e_18; subst e2_18
  exact hr trivial _ _ _ _ hP hS dX0_errorOf_18
set_option maxRecDepth 20000 in
theorem w_X_X0_errorOf__4_17 {p : Program} {l : Launch} {e : Env} {s : State} {m : MethodId} {args : Array Value} {below : List Frame} {meth : Method} {c : Code} {A : Nat → Prop} {Q : State → Prop} {D : va_G} {ca : Nat → ClassId} {a : Nat → Nat} {u : fw_S} {r : Int32}  (C : CX (WX ca a) D (tyv ca) p s m args c A prog_2_method_11_code 2 RX0) (hr : True → RX (WX ca a) D p l e rm_X_X0_errorOf__4 s m args below meth c A prog_2_method_11_code Q .ireturn [.int r] u) {t : fw_S}  {H : Heap} {locs : List Loc} {ls : Array Slot} (hf : b_X_X0_errorOf__4_17  t  = some (r, u)) (hP : va_P D classes (WX ca a t) H) (hS : va_S A s.heap H locs) (hl : lv_has ls 2 []) : W p l e rm_X_X0_errorOf__4 s m args below meth c H locs 0 0 Q (F0 m 17 ls []) := by
  obtain ⟨hx, hb, hml, hown, hts, hN, hK, hD, hA⟩ := id C
  have hf : (b_X_X0_errorOf__4_18 t ((3 : Int32))) = some (r, u) := hf
  refine lv_iconst (v := 3) hx hb dX0_errorOf_17 (by decide) ?_
  exact w_X_X0_errorOf__4_18 C hr hf hP hS (lv_sub hl [] rfl)
set_option maxRecDepth 20000 in
theorem w_X_X0_errorOf__4_8 {p : Program} {l : Launch} {e : Env} {s : State} {m : MethodId} {args : Array Value} {below : List Frame} {meth : Method} {c : Code} {A : Nat → Prop} {Q : State → Prop} {D : va_G} {ca : Nat → ClassId} {a : Nat → Nat} {u : fw_S} {r : Int32}  (C : CX (WX ca a) D (tyv ca) p s m args c A prog_2_method_11_code 2 RX0) (hr : True → RX (WX ca a) D p l e rm_X_X0_errorOf__4 s m args below meth c A prog_2_method_11_code Q .ireturn [.int r] u) {t : fw_S} {x1 : Int32} {H : Heap} {locs : List Loc} {ls : Array Slot} (hf : b_X_X0_errorOf__4_8  t x1 = some (r, u)) (hP : va_P D classes (WX ca a t) H) (hS : va_S A s.heap H locs) (hl : lv_has ls 2 [(0, .ref (a 4)), (1, .int x1)]) : W p l e rm_X_X0_errorOf__4 s m args below meth c H locs 0 0 Q (F0 m 8 ls []) := by
  obtain ⟨hx, hb, hml, hown, hts, hN, hK, hD, hA⟩ := id C
  have hf : (fb_g (¬ (x1 < 0 ∨ 32 ≤ x1.toNatClampNeg)) (b_X_X0_errorOf__4_18 t (st_F t 9 x1.toNatClampNeg))) = some (r, u) := hf
  refine lv_aload_n hx hb dX0_errorOf_8 rfl (lv_at hl 0 rfl) ?_
  refine va_get (D := D) (ci := 0) (v := .ref (a 24)) (C := RX0) (T := TX0) (N := 12) hx hb hts inX0 hown hK hP 4 (heX_4 ca a t) rfl 2 (by decide) (hts _ kw_189) (fun _ h9 => h9) rfl dX0_errorOf_9 ?_
  refine lv_iload_n hx hb dX0_errorOf_12 rfl (lv_at hl 1 rfl) ?_
  obtain ⟨h_13, hf⟩ := fb_if hf
  refine va_iald hx hb hK hP 24 0 (haX_24 ca a t) rfl h_13 dX0_errorOf_13 ?_
  refine lv_goto (tgt := 18) hx hb dX0_errorOf_14 (by decide) ?_
  exact w_X_X0_errorOf__4_18 C hr hf hP hS (lv_sub hl [] rfl)
set_option maxRecDepth 20000 in
theorem w_X_X0_errorOf__4_0 {p : Program} {l : Launch} {e : Env} {s : State} {m : MethodId} {args : Array Value} {below : List Frame} {meth : Method} {c : Code} {A : Nat → Prop} {Q : State → Prop} {D : va_G} {ca : Nat → ClassId} {a : Nat → Nat} {u : fw_S} {r : Int32}  (C : CX (WX ca a) D (tyv ca) p s m args c A prog_2_method_11_code 2 RX0) (hr : True → RX (WX ca a) D p l e rm_X_X0_errorOf__4 s m args below meth c A prog_2_method_11_code Q .ireturn [.int r] u) {t : fw_S} {x1 : Int32} {H : Heap} {locs : List Loc} {ls : Array Slot} (hf : b_X_X0_errorOf__4_0  t x1 = some (r, u)) (hP : va_P D classes (WX ca a t) H) (hS : va_S A s.heap H locs) (hl : lv_has ls 2 [(0, .ref (a 4)), (1, .int x1)]) : W p l e rm_X_X0_errorOf__4 s m args below meth c H locs 0 0 Q (F0 m 0 ls []) := by
  obtain ⟨hx, hb, hml, hown, hts, hN, hK, hD, hA⟩ := id C
  have hf : (fb_b (f_X_X10_isCell t x1.toInt64) fun v_2 t_1 => (if v_2 = 0 then b_X_X0_errorOf__4_17 t_1 else b_X_X0_errorOf__4_8 t_1 x1)) = some (r, u) := hf
  refine lv_iload_n hx hb dX0_errorOf_0 rfl (lv_at hl 1 rfl) ?_
  refine lv_i2l hx hb dX0_errorOf_1 rfl ?_
  obtain ⟨v_2, t_1, g_2, hf⟩ := fb_bs hf
  refine fw_S2 (As := [.long x1.toInt64]) (rest := []) (n := 1) C (c_X_X10_isCell (l := l) (D := D) (ca := ca) (a := a) g_2) kw_429 kw_399 kw_92 kw_400 hP hS hl rfl rfl (by decide) (by decide +kernel) ⟨Nat.le_of_ble_eq_true rfl, Nat.le_of_ble_eq_true rfl⟩ rfl rfl (Nat.le_of_ble_eq_true rfl) dX0_errorOf_2 (fun H locs hP hS => ?_)
  refine W.eq (g2 := F0 m 5 ls [.int v_2]) rfl ?_
  refine lv_if_eq (tgt := 17) hx hb dX0_errorOf_5 (by decide) (fun h_5 => ?_) (fun h_5 => ?_)
  · have hf := fb_t h_5 hf
    exact w_X_X0_errorOf__4_17 C hr hf hP hS (lv_sub hl [] rfl)
  · have hf := fb_f h_5 hf
    exact w_X_X0_errorOf__4_8 C hr hf hP hS (lv_sub hl [0, 1] rfl)
set_option maxRecDepth 20000 in
theorem c_X_X0_errorOf__4 {l : Launch} {D : va_G} {ca : Nat → ClassId} {a : Nat → Nat} {t : fw_S} {x1 : Int32} {u : fw_S} {r : Int32} (hf : f_X_X0_errorOf__4 t x1 = some (r, u)) : MC (WX ca a) D (tyv ca) l yX0_errorOf (.code yX0_errorOf prog_2_method_11_code 2 (some .int) :: lw_gd) rm_X_X0_errorOf__4 [.ref (a 4), .int x1] (some (.int r)) t u := by
  refine fw_met (okX ca a) (by decide +kernel) rfl rfl (Nat.le_of_ble_eq_true rfl) ?_
  intro p e s m args below meth c A Q ls C hr hk hP hS hl hQ
  exact w_X_X0_errorOf__4_0 C (fun _ => fw_ri C hr hk hQ) hf hP hS (lv_sub hl [0, 1] rfl)
/-! ReactiveSheet.Cells.numberOf(I)J ['x.engine.before'] -/
abbrev rm_X_X0_numberOf__5 : Room := { frames := 1, cells := 0, slots := 0, locals := 21 }
def b_X_X0_numberOf__5_18  (t : fw_S) (w0 : Int64) : Option (Int64 × fw_S) := some (w0, t)
def b_X_X0_numberOf__5_17  (t : fw_S)  : Option (Int64 × fw_S) := b_X_X0_numberOf__5_18 t ((0 : Int64))
def b_X_X0_numberOf__5_8  (t : fw_S) (x1 : Int32) : Option (Int64 × fw_S) := fb_g (¬ (x1 < 0 ∨ 32 ≤ x1.toNatClampNeg)) (b_X_X0_numberOf__5_18 t (st_G t 2 x1.toNatClampNeg))
def b_X_X0_numberOf__5_0  (t : fw_S) (x1 : Int32) : Option (Int64 × fw_S) := fb_b (f_X_X10_isCell t x1.toInt64) fun v_2 t_1 => (if v_2 = 0 then b_X_X0_numberOf__5_17 t_1 else b_X_X0_numberOf__5_8 t_1 x1)
def f_X_X0_numberOf__5 (t : fw_S) (x1 : Int32) : Option (Int64 × fw_S) := b_X_X0_numberOf__5_0 t x1
set_option maxRecDepth 20000 in
theorem w_X_X0_numberOf__5_18 {p : Program} {l : Launch} {e : Env} {s : State} {m : MethodId} {args : Array Value} {below : List Frame} {meth : Method} {c : Code} {A : Nat → Prop} {Q : State → Prop} {D : va_G} {ca : Nat → ClassId} {a : Nat → Nat} {u : fw_S} {r : Int64}  (C : CX (WX ca a) D (tyv ca) p s m args c A prog_2_method_12_code 2 RX0) (hr : True → RX (WX ca a) D p l e rm_X_X0_numberOf__5 s m args below meth c A prog_2_method_12_code Q .lreturn [.long r] u) {t : fw_S} {w0 : Int64} {H : Heap} {locs : List Loc} {ls : Array Slot} (hf : b_X_X0_numberOf__5_18  t w0 = some (r, u)) (hP : va_P D classes (WX ca a t) H) (hS : va_S A s.heap H locs) (hl : lv_has ls 2 []) : W p l e rm_X_X0_numberOf__5 s m args below meth c H locs 0 0 Q (F0 m 18 ls [.long w0]) := by
  obtain ⟨hx, hb, hml, hown, hts, hN, hK, hD, hA⟩ := id C
  have hf : (some (w0, t)) = some (r, u) := hf
  obtain ⟨e_18, e2_18⟩ := fb_e hf
  subst e_18; subst e2_18
  exact hr trivial _ _ _ _ hP hS dX0_numberOf_18
set_option maxRecDepth 20000 in
theorem w_X_X0_numberOf__5_17 {p : Program} {l : Launch} {e : Env} {s : State} {m : MethodId} {args : Array Value} {below : List Frame} {meth : Method} {c : Code} {A : Nat → Prop} {Q : State → Prop} {D : va_G} {ca : Nat → ClassId} {a : Nat → Nat} {u : fw_S} {r : Int64}  (C : CX (WX ca a) D (tyv ca) p s m args c A prog_2_method_12_code 2 RX0) (hr : True → RX (WX ca a) D p l e rm_X_X0_numberOf__5 s m args below meth c A prog_2_method_12_code Q .lreturn [.long r] u) {t : fw_S}  {H : Heap} {locs : List Loc} {ls : Array Slot} (hf : b_X_X0_numberOf__5_17  t  = some (r, u)) (hP : va_P D classes (WX ca a t) H) (hS : va_S A s.heap H locs) (hl : lv_has ls 2 []) : W p l e rm_X_X0_numberOf__5 s m args below meth c H locs 0 0 Q (F0 m 17 ls []) := by
  obtain ⟨hx, hb, hml, hown, hts, hN, hK, hD, hA⟩ := id C
  have hf : (b_X_X0_numberOf__5_18 t ((0 : Int64))) = some (r, u) := hf
  refine lv_lconst (v := 0) hx hb dX0_numberOf_17 (by decide) ?_
  exact w_X_X0_numberOf__5_18 C hr hf hP hS (lv_sub hl [] rfl)
set_option maxRecDepth 20000 in
theorem w_X_X0_numberOf__5_8 {p : Program} {l : Launch} {e : Env} {s : State} {m : MethodId} {args : Array Value} {below : List Frame} {meth : Method} {c : Code} {A : Nat → Prop} {Q : State → Prop} {D : va_G} {ca : Nat → ClassId} {a : Nat → Nat} {u : fw_S} {r : Int64}  (C : CX (WX ca a) D (tyv ca) p s m args c A prog_2_method_12_code 2 RX0) (hr : True → RX (WX ca a) D p l e rm_X_X0_numberOf__5 s m args below meth c A prog_2_method_12_code Q .lreturn [.long r] u) {t : fw_S} {x1 : Int32} {H : Heap} {locs : List Loc} {ls : Array Slot} (hf : b_X_X0_numberOf__5_8  t x1 = some (r, u)) (hP : va_P D classes (WX ca a t) H) (hS : va_S A s.heap H locs) (hl : lv_has ls 2 [(0, .ref (a 5)), (1, .int x1)]) : W p l e rm_X_X0_numberOf__5 s m args below meth c H locs 0 0 Q (F0 m 8 ls []) := by
  obtain ⟨hx, hb, hml, hown, hts, hN, hK, hD, hA⟩ := id C
  have hf : (fb_g (¬ (x1 < 0 ∨ 32 ≤ x1.toNatClampNeg)) (b_X_X0_numberOf__5_18 t (st_G t 2 x1.toNatClampNeg))) = some (r, u) := hf
  refine lv_aload_n hx hb dX0_numberOf_8 rfl (lv_at hl 0 rfl) ?_
  refine va_get (D := D) (ci := 0) (v := .ref (a 33)) (C := RX0) (T := TX0) (N := 12) hx hb hts inX0 hown hK hP 5 (heX_5 ca a t) rfl 1 (by decide) (hts _ kw_188) (fun _ h9 => h9) rfl dX0_numberOf_9 ?_
  refine lv_iload_n hx hb dX0_numberOf_12 rfl (lv_at hl 1 rfl) ?_
  obtain ⟨h_13, hf⟩ := fb_if hf
  refine va_lald hx hb hK hP 33 1 (haX_33 ca a t) rfl h_13 dX0_numberOf_13 ?_
  refine lv_goto (tgt := 18) hx hb dX0_numberOf_14 (by decide) ?_
  exact w_X_X0_numberOf__5_18 C hr hf hP hS (lv_sub hl [] rfl)
set_option maxRecDepth 20000 in
theorem w_X_X0_numberOf__5_0 {p : Program} {l : Launch} {e : Env} {s : State} {m : MethodId} {args : Array Value} {below : List Frame} {meth : Method} {c : Code} {A : Nat → Prop} {Q : State → Prop} {D : va_G} {ca : Nat → ClassId} {a : Nat → Nat} {u : fw_S} {r : Int64}  (C : CX (WX ca a) D (tyv ca) p s m args c A prog_2_method_12_code 2 RX0) (hr : True → RX (WX ca a) D p l e rm_X_X0_numberOf__5 s m args below meth c A prog_2_method_12_code Q .lreturn [.long r] u) {t : fw_S} {x1 : Int32} {H : Heap} {locs : List Loc} {ls : Array Slot} (hf : b_X_X0_numberOf__5_0  t x1 = some (r, u)) (hP : va_P D classes (WX ca a t) H) (hS : va_S A s.heap H locs) (hl : lv_has ls 2 [(0, .ref (a 5)), (1, .int x1)]) : W p l e rm_X_X0_numberOf__5 s m args below meth c H locs 0 0 Q (F0 m 0 ls []) := by
  obtain ⟨hx, hb, hml, hown, hts, hN, hK, hD, hA⟩ := id C
  have hf : (fb_b (f_X_X10_isCell t x1.toInt64) fun v_2 t_1 => (if v_2 = 0 then b_X_X0_numberOf__5_17 t_1 else b_X_X0_numberOf__5_8 t_1 x1)) = some (r, u) := hf
  refine lv_iload_n hx hb dX0_numberOf_0 rfl (lv_at hl 1 rfl) ?_
  refine lv_i2l hx hb dX0_numberOf_1 rfl ?_
  obtain ⟨v_2, t_1, g_2, hf⟩ := fb_bs hf
  refine fw_S2 (As := [.long x1.toInt64]) (rest := []) (n := 1) C (c_X_X10_isCell (l := l) (D := D) (ca := ca) (a := a) g_2) kw_429 kw_399 kw_92 kw_400 hP hS hl rfl rfl (by decide) (by decide +kernel) ⟨Nat.le_of_ble_eq_true rfl, Nat.le_of_ble_eq_true rfl⟩ rfl rfl (Nat.le_of_ble_eq_true rfl) dX0_numberOf_2 (fun H locs hP hS => ?_)
  refine W.eq (g2 := F0 m 5 ls [.int v_2]) rfl ?_
  refine lv_if_eq (tgt := 17) hx hb dX0_numberOf_5 (by decide) (fun h_5 => ?_) (fun h_5 => ?_)
  · have hf := fb_t h_5 hf
    exact w_X_X0_numberOf__5_17 C hr hf hP hS (lv_sub hl [] rfl)
  · have hf := fb_f h_5 hf
    exact w_X_X0_numberOf__5_8 C hr hf hP hS (lv_sub hl [0, 1] rfl)
set_option maxRecDepth 20000 in
theorem c_X_X0_numberOf__5 {l : Launch} {D : va_G} {ca : Nat → ClassId} {a : Nat → Nat} {t : fw_S} {x1 : Int32} {u : fw_S} {r : Int64} (hf : f_X_X0_numberOf__5 t x1 = some (r, u)) : MC (WX ca a) D (tyv ca) l yX0_numberOf (.code yX0_numberOf prog_2_method_12_code 2 (some .long) :: lw_gd) rm_X_X0_numberOf__5 [.ref (a 5), .int x1] (some (.long r)) t u := by
  refine fw_met (okX ca a) (by decide +kernel) rfl rfl (Nat.le_of_ble_eq_true rfl) ?_
  intro p e s m args below meth c A Q ls C hr hk hP hS hl hQ
  exact w_X_X0_numberOf__5_0 C (fun _ => fw_rl C hr hk hQ) hf hP hS (lv_sub hl [0, 1] rfl)
/-! ReactiveSheet.Cells.numberOf(I)J ['x.engine.now'] -/
abbrev rm_X_X0_numberOf__4 : Room := { frames := 1, cells := 0, slots := 0, locals := 21 }
def b_X_X0_numberOf__4_18  (t : fw_S) (w0 : Int64) : Option (Int64 × fw_S) := some (w0, t)
def b_X_X0_numberOf__4_17  (t : fw_S)  : Option (Int64 × fw_S) := b_X_X0_numberOf__4_18 t ((0 : Int64))
def b_X_X0_numberOf__4_8  (t : fw_S) (x1 : Int32) : Option (Int64 × fw_S) := fb_g (¬ (x1 < 0 ∨ 32 ≤ x1.toNatClampNeg)) (b_X_X0_numberOf__4_18 t (st_G t 0 x1.toNatClampNeg))
def b_X_X0_numberOf__4_0  (t : fw_S) (x1 : Int32) : Option (Int64 × fw_S) := fb_b (f_X_X10_isCell t x1.toInt64) fun v_2 t_1 => (if v_2 = 0 then b_X_X0_numberOf__4_17 t_1 else b_X_X0_numberOf__4_8 t_1 x1)
def f_X_X0_numberOf__4 (t : fw_S) (x1 : Int32) : Option (Int64 × fw_S) := b_X_X0_numberOf__4_0 t x1
set_option maxRecDepth 20000 in
theorem w_X_X0_numberOf__4_18 {p : Program} {l : Launch} {e : Env} {s : State} {m : MethodId} {args : Array Value} {below : List Frame} {meth : Method} {c : Code} {A : Nat → Prop} {Q : State → Prop} {D : va_G} {ca : Nat → ClassId} {a : Nat → Nat} {u : fw_S} {r : Int64}  (C : CX (WX ca a) D (tyv ca) p s m args c A prog_2_method_12_code 2 RX0) (hr : True → RX (WX ca a) D p l e rm_X_X0_numberOf__4 s m args below meth c A prog_2_method_12_code Q .lreturn [.long r] u) {t : fw_S} {w0 : Int64} {H : Heap} {locs : List Loc} {ls : Array Slot} (hf : b_X_X0_numberOf__4_18  t w0 = some (r, u)) (hP : va_P D classes (WX ca a t) H) (hS : va_S A s.heap H locs) (hl : lv_has ls 2 []) : W p l e rm_X_X0_numberOf__4 s m args below meth c H locs 0 0 Q (F0 m 18 ls [.long w0]) := by
  obtain ⟨hx, hb, hml, hown, hts, hN, hK, hD, hA⟩ := id C
  have hf : (some (w0, t)) = some (r, u) := hf
  obtain ⟨e_18, e2_18⟩ := fb_e hf
  subst e_18; subst e2_18
  exact hr trivial _ _ _ _ hP hS dX0_numberOf_18
set_option maxRecDepth 20000 in
theorem w_X_X0_numberOf__4_17 {p : Program} {l : Launch} {e : Env} {s : State} {m : MethodId} {args : Array Value} {below : List Frame} {meth : Method} {c : Code} {A : Nat → Prop} {Q : State → Prop} {D : va_G} {ca : Nat → ClassId} {a : Nat → Nat} {u : fw_S} {r : Int64}  (C : CX (WX ca a) D (tyv ca) p s m args c A prog_2_method_12_code 2 RX0) (hr : True → RX (WX ca a) D p l e rm_X_X0_numberOf__4 s m args below meth c A prog_2_method_12_code Q .lreturn [.long r] u) {t : fw_S}  {H : Heap} {locs : List Loc} {ls : Array Slot} (hf : b_X_X0_numberOf__4_17  t  = some (r, u)) (hP : va_P D classes (WX ca a t) H) (hS : va_S A s.heap H locs) (hl : lv_has ls 2 []) : W p l e rm_X_X0_numberOf__4 s m args below meth c H locs 0 0 Q (F0 m 17 ls []) := by
  obtain ⟨hx, hb, hml, hown, hts, hN, hK, hD, hA⟩ := id C
  have hf : (b_X_X0_numberOf__4_18 t ((0 : Int64))) = some (r, u) := hf
  refine lv_lconst (v := 0) hx hb dX0_numberOf_17 (by decide) ?_
  exact w_X_X0_numberOf__4_18 C hr hf hP hS (lv_sub hl [] rfl)
set_option maxRecDepth 20000 in
theorem w_X_X0_numberOf__4_8 {p : Program} {l : Launch} {e : Env} {s : State} {m : MethodId} {args : Array Value} {below : List Frame} {meth : Method} {c : Code} {A : Nat → Prop} {Q : State → Prop} {D : va_G} {ca : Nat → ClassId} {a : Nat → Nat} {u : fw_S} {r : Int64}  (C : CX (WX ca a) D (tyv ca) p s m args c A prog_2_method_12_code 2 RX0) (hr : True → RX (WX ca a) D p l e rm_X_X0_numberOf__4 s m args below meth c A prog_2_method_12_code Q .lreturn [.long r] u) {t : fw_S} {x1 : Int32} {H : Heap} {locs : List Loc} {ls : Array Slot} (hf : b_X_X0_numberOf__4_8  t x1 = some (r, u)) (hP : va_P D classes (WX ca a t) H) (hS : va_S A s.heap H locs) (hl : lv_has ls 2 [(0, .ref (a 4)), (1, .int x1)]) : W p l e rm_X_X0_numberOf__4 s m args below meth c H locs 0 0 Q (F0 m 8 ls []) := by
  obtain ⟨hx, hb, hml, hown, hts, hN, hK, hD, hA⟩ := id C
  have hf : (fb_g (¬ (x1 < 0 ∨ 32 ≤ x1.toNatClampNeg)) (b_X_X0_numberOf__4_18 t (st_G t 0 x1.toNatClampNeg))) = some (r, u) := hf
  refine lv_aload_n hx hb dX0_numberOf_8 rfl (lv_at hl 0 rfl) ?_
  refine va_get (D := D) (ci := 0) (v := .ref (a 23)) (C := RX0) (T := TX0) (N := 12) hx hb hts inX0 hown hK hP 4 (heX_4 ca a t) rfl 1 (by decide) (hts _ kw_188) (fun _ h9 => h9) rfl dX0_numberOf_9 ?_
  refine lv_iload_n hx hb dX0_numberOf_12 rfl (lv_at hl 1 rfl) ?_
  obtain ⟨h_13, hf⟩ := fb_if hf
  refine va_lald hx hb hK hP 23 1 (haX_23 ca a t) rfl h_13 dX0_numberOf_13 ?_
  refine lv_goto (tgt := 18) hx hb dX0_numberOf_14 (by decide) ?_
  exact w_X_X0_numberOf__4_18 C hr hf hP hS (lv_sub hl [] rfl)
set_option maxRecDepth 20000 in
theorem w_X_X0_numberOf__4_0 {p : Program} {l : Launch} {e : Env} {s : State} {m : MethodId} {args : Array Value} {below : List Frame} {meth : Method} {c : Code} {A : Nat → Prop} {Q : State → Prop} {D : va_G} {ca : Nat → ClassId} {a : Nat → Nat} {u : fw_S} {r : Int64}  (C : CX (WX ca a) D (tyv ca) p s m args c A prog_2_method_12_code 2 RX0) (hr : True → RX (WX ca a) D p l e rm_X_X0_numberOf__4 s m args below meth c A prog_2_method_12_code Q .lreturn [.long r] u) {t : fw_S} {x1 : Int32} {H : Heap} {locs : List Loc} {ls : Array Slot} (hf : b_X_X0_numberOf__4_0  t x1 = some (r, u)) (hP : va_P D classes (WX ca a t) H) (hS : va_S A s.heap H locs) (hl : lv_has ls 2 [(0, .ref (a 4)), (1, .int x1)]) : W p l e rm_X_X0_numberOf__4 s m args below meth c H locs 0 0 Q (F0 m 0 ls []) := by
  obtain ⟨hx, hb, hml, hown, hts, hN, hK, hD, hA⟩ := id C
  have hf : (fb_b (f_X_X10_isCell t x1.toInt64) fun v_2 t_1 => (if v_2 = 0 then b_X_X0_numberOf__4_17 t_1 else b_X_X0_numberOf__4_8 t_1 x1)) = some (r, u) := hf
  refine lv_iload_n hx hb dX0_numberOf_0 rfl (lv_at hl 1 rfl) ?_
  refine lv_i2l hx hb dX0_numberOf_1 rfl ?_
  obtain ⟨v_2, t_1, g_2, hf⟩ := fb_bs hf
  refine fw_S2 (As := [.long x1.toInt64]) (rest := []) (n := 1) C (c_X_X10_isCell (l := l) (D := D) (ca := ca) (a := a) g_2) kw_429 kw_399 kw_92 kw_400 hP hS hl rfl rfl (by decide) (by decide +kernel) ⟨Nat.le_of_ble_eq_true rfl, Nat.le_of_ble_eq_true rfl⟩ rfl rfl (Nat.le_of_ble_eq_true rfl) dX0_numberOf_2 (fun H locs hP hS => ?_)
  refine W.eq (g2 := F0 m 5 ls [.int v_2]) rfl ?_
  refine lv_if_eq (tgt := 17) hx hb dX0_numberOf_5 (by decide) (fun h_5 => ?_) (fun h_5 => ?_)
  · have hf := fb_t h_5 hf
    exact w_X_X0_numberOf__4_17 C hr hf hP hS (lv_sub hl [] rfl)
  · have hf := fb_f h_5 hf
    exact w_X_X0_numberOf__4_8 C hr hf hP hS (lv_sub hl [0, 1] rfl)
set_option maxRecDepth 20000 in
theorem c_X_X0_numberOf__4 {l : Launch} {D : va_G} {ca : Nat → ClassId} {a : Nat → Nat} {t : fw_S} {x1 : Int32} {u : fw_S} {r : Int64} (hf : f_X_X0_numberOf__4 t x1 = some (r, u)) : MC (WX ca a) D (tyv ca) l yX0_numberOf (.code yX0_numberOf prog_2_method_12_code 2 (some .long) :: lw_gd) rm_X_X0_numberOf__4 [.ref (a 4), .int x1] (some (.long r)) t u := by
  refine fw_met (okX ca a) (by decide +kernel) rfl rfl (Nat.le_of_ble_eq_true rfl) ?_
  intro p e s m args below meth c A Q ls C hr hk hP hS hl hQ
  exact w_X_X0_numberOf__4_0 C (fun _ => fw_rl C hr hk hQ) hf hP hS (lv_sub hl [0, 1] rfl)
/-! ReactiveSheet.Watching.stirs(ILReactiveSheet.Cells;LReactiveSheet.Cells;)Z ['x.watching', 'x.engine.before', 'x.engine.now'] -/
abbrev rm_X_X9_stirs__8_5_4 : Room := { frames := 2, cells := 0, slots := 0, locals := 42 }
def b_X_X9_stirs__8_5_4_88  (t : fw_S)  : Option (Int32 × fw_S) := fb_g (((1 : Int32)) = 0 ∨ ((1 : Int32)) = 1) (some ((1 : Int32), t))
def b_X_X9_stirs__8_5_4_113  (t : fw_S) (z0 : Int32) : Option (Int32 × fw_S) := fb_g (z0 = 0 ∨ z0 = 1) (some (z0, t))
def b_X_X9_stirs__8_5_4_112  (t : fw_S)  : Option (Int32 × fw_S) := b_X_X9_stirs__8_5_4_113 t ((0 : Int32))
def b_X_X9_stirs__8_5_4_108  (t : fw_S)  : Option (Int32 × fw_S) := b_X_X9_stirs__8_5_4_113 t ((1 : Int32))
def b_X_X9_stirs__8_5_4_100  (t : fw_S) (y7 : Int64) (y9 : Int64) : Option (Int32 × fw_S) := if (lg_cmp y9 y7) ≤ 0 then b_X_X9_stirs__8_5_4_112 t else b_X_X9_stirs__8_5_4_108 t
def b_X_X9_stirs__8_5_4_95  (t : fw_S) (x6 : Int32) (y7 : Int64) (y9 : Int64) : Option (Int32 × fw_S) := if x6 = 0 then b_X_X9_stirs__8_5_4_112 t else b_X_X9_stirs__8_5_4_100 t y7 y9
def b_X_X9_stirs__8_5_4_90  (t : fw_S) (x5 : Int32) (x6 : Int32) (y7 : Int64) (y9 : Int64) : Option (Int32 × fw_S) := if x5 = 0 then b_X_X9_stirs__8_5_4_112 t else b_X_X9_stirs__8_5_4_95 t x6 y7 y9
def b_X_X9_stirs__8_5_4_166  (t : fw_S) (z0 : Int32) : Option (Int32 × fw_S) := fb_g (z0 = 0 ∨ z0 = 1) (some (z0, t))
def b_X_X9_stirs__8_5_4_165  (t : fw_S)  : Option (Int32 × fw_S) := b_X_X9_stirs__8_5_4_166 t ((0 : Int32))
def b_X_X9_stirs__8_5_4_161  (t : fw_S)  : Option (Int32 × fw_S) := b_X_X9_stirs__8_5_4_166 t ((1 : Int32))
def b_X_X9_stirs__8_5_4_158  (t : fw_S) (z0 : Int32) (z1 : Int32) : Option (Int32 × fw_S) := if z0 = z1 then b_X_X9_stirs__8_5_4_165 t else b_X_X9_stirs__8_5_4_161 t
def b_X_X9_stirs__8_5_4_157  (t : fw_S) (z0 : Int32) : Option (Int32 × fw_S) := b_X_X9_stirs__8_5_4_158 t z0 ((0 : Int32))
def b_X_X9_stirs__8_5_4_153  (t : fw_S) (z0 : Int32) : Option (Int32 × fw_S) := b_X_X9_stirs__8_5_4_158 t z0 ((1 : Int32))
def b_X_X9_stirs__8_5_4_141  (t : fw_S) (x1 : Int32) (y9 : Int64) (z0 : Int32) : Option (Int32 × fw_S) := fb_g (¬ (x1 < 0 ∨ 8 ≤ x1.toNatClampNeg)) (if 0 ≤ (lg_cmp y9 (st_G t 7 x1.toNatClampNeg)) then b_X_X9_stirs__8_5_4_157 t z0 else b_X_X9_stirs__8_5_4_153 t z0)
def b_X_X9_stirs__8_5_4_140  (t : fw_S) (x1 : Int32) (y9 : Int64) : Option (Int32 × fw_S) := b_X_X9_stirs__8_5_4_141 t x1 y9 ((0 : Int32))
def b_X_X9_stirs__8_5_4_136  (t : fw_S) (x1 : Int32) (y9 : Int64) : Option (Int32 × fw_S) := b_X_X9_stirs__8_5_4_141 t x1 y9 ((1 : Int32))
def b_X_X9_stirs__8_5_4_124  (t : fw_S) (x1 : Int32) (y7 : Int64) (y9 : Int64) : Option (Int32 × fw_S) := fb_g (¬ (x1 < 0 ∨ 8 ≤ x1.toNatClampNeg)) (if 0 ≤ (lg_cmp y7 (st_G t 7 x1.toNatClampNeg)) then b_X_X9_stirs__8_5_4_140 t x1 y9 else b_X_X9_stirs__8_5_4_136 t x1 y9)
def b_X_X9_stirs__8_5_4_119  (t : fw_S) (x1 : Int32) (x6 : Int32) (y7 : Int64) (y9 : Int64) : Option (Int32 × fw_S) := if x6 = 0 then b_X_X9_stirs__8_5_4_165 t else b_X_X9_stirs__8_5_4_124 t x1 y7 y9
def b_X_X9_stirs__8_5_4_114  (t : fw_S) (x1 : Int32) (x5 : Int32) (x6 : Int32) (y7 : Int64) (y9 : Int64) : Option (Int32 × fw_S) := if x5 = 0 then b_X_X9_stirs__8_5_4_165 t else b_X_X9_stirs__8_5_4_119 t x1 x6 y7 y9
def b_X_X9_stirs__8_5_4_179  (t : fw_S) (z0 : Int32) : Option (Int32 × fw_S) := fb_g (z0 = 0 ∨ z0 = 1) (some (z0, t))
def b_X_X9_stirs__8_5_4_178  (t : fw_S)  : Option (Int32 × fw_S) := b_X_X9_stirs__8_5_4_179 t ((0 : Int32))
def b_X_X9_stirs__8_5_4_174  (t : fw_S)  : Option (Int32 × fw_S) := b_X_X9_stirs__8_5_4_179 t ((1 : Int32))
def b_X_X9_stirs__8_5_4_167  (t : fw_S) (x5 : Int32) (x6 : Int32) : Option (Int32 × fw_S) := if x5 = x6 then b_X_X9_stirs__8_5_4_178 t else b_X_X9_stirs__8_5_4_174 t
def b_X_X9_stirs__8_5_4_38  (t : fw_S) (x1 : Int32) (x4 : Int32) (x5 : Int32) (z0 : Int32) : Option (Int32 × fw_S) := fb_b (f_X_X0_numberOf__5 t x4) fun v_2 t_1 => (fb_b (f_X_X0_numberOf__4 t_1 x4) fun v_4 t_3 => (fb_g (¬ (x1 < 0 ∨ 8 ≤ x1.toNatClampNeg)) (if (st_F t_3 25 x1.toNatClampNeg) = 0 then b_X_X9_stirs__8_5_4_88 t_3 else if (st_F t_3 25 x1.toNatClampNeg) = 1 then b_X_X9_stirs__8_5_4_90 t_3 x5 z0 v_2 v_4 else if (st_F t_3 25 x1.toNatClampNeg) = 2 then b_X_X9_stirs__8_5_4_114 t_3 x1 x5 z0 v_2 v_4 else b_X_X9_stirs__8_5_4_167 t_3 x5 z0)))
def b_X_X9_stirs__8_5_4_37  (t : fw_S) (x1 : Int32) (x4 : Int32) (x5 : Int32) : Option (Int32 × fw_S) := b_X_X9_stirs__8_5_4_38 t x1 x4 x5 ((0 : Int32))
def b_X_X9_stirs__8_5_4_33  (t : fw_S) (x1 : Int32) (x4 : Int32) (x5 : Int32) : Option (Int32 × fw_S) := b_X_X9_stirs__8_5_4_38 t x1 x4 x5 ((1 : Int32))
def b_X_X9_stirs__8_5_4_22  (t : fw_S) (x1 : Int32) (x4 : Int32) (z0 : Int32) : Option (Int32 × fw_S) := fb_b (f_X_X0_errorOf__4 t x4) fun v_2 t_1 => (if v_2 = 0 then b_X_X9_stirs__8_5_4_33 t_1 x1 x4 z0 else b_X_X9_stirs__8_5_4_37 t_1 x1 x4 z0)
def b_X_X9_stirs__8_5_4_21  (t : fw_S) (x1 : Int32) (x4 : Int32) : Option (Int32 × fw_S) := b_X_X9_stirs__8_5_4_22 t x1 x4 ((0 : Int32))
def b_X_X9_stirs__8_5_4_17  (t : fw_S) (x1 : Int32) (x4 : Int32) : Option (Int32 × fw_S) := b_X_X9_stirs__8_5_4_22 t x1 x4 ((1 : Int32))
def b_X_X9_stirs__8_5_4_0  (t : fw_S) (x1 : Int32) : Option (Int32 × fw_S) := fb_g (¬ (x1 < 0 ∨ 8 ≤ x1.toNatClampNeg)) (fb_b (f_X_X0_errorOf__5 t (st_F t 24 x1.toNatClampNeg)) fun v_2 t_1 => (if v_2 = 0 then b_X_X9_stirs__8_5_4_17 t_1 x1 (st_F t 24 x1.toNatClampNeg) else b_X_X9_stirs__8_5_4_21 t_1 x1 (st_F t 24 x1.toNatClampNeg)))
def f_X_X9_stirs__8_5_4 (t : fw_S) (x1 : Int32) : Option (Int32 × fw_S) := b_X_X9_stirs__8_5_4_0 t x1
set_option maxRecDepth 20000 in
theorem w_X_X9_stirs__8_5_4_88 {p : Program} {l : Launch} {e : Env} {s : State} {m : MethodId} {args : Array Value} {below : List Frame} {meth : Method} {c : Code} {A : Nat → Prop} {Q : State → Prop} {D : va_G} {ca : Nat → ClassId} {a : Nat → Nat} {u : fw_S} {r : Int32}  (C : CX (WX ca a) D (tyv ca) p s m args c A prog_11_method_8_code 11 RX9) (hr : (r = 0 ∨ r = 1) → RX (WX ca a) D p l e rm_X_X9_stirs__8_5_4 s m args below meth c A prog_11_method_8_code Q .ireturn [.int r] u) {t : fw_S}  {H : Heap} {locs : List Loc} {ls : Array Slot} (hf : b_X_X9_stirs__8_5_4_88  t  = some (r, u)) (hP : va_P D classes (WX ca a t) H) (hS : va_S A s.heap H locs) (hl : lv_has ls 11 []) : W p l e rm_X_X9_stirs__8_5_4 s m args below meth c H locs 0 0 Q (F0 m 88 ls []) := by
  obtain ⟨hx, hb, hml, hown, hts, hN, hK, hD, hA⟩ := id C
  have hf : (fb_g (((1 : Int32)) = 0 ∨ ((1 : Int32)) = 1) (some ((1 : Int32), t))) = some (r, u) := hf
  refine lv_iconst (v := 1) hx hb dX9_stirs_88 (by decide) ?_
  obtain ⟨h_89, hf⟩ := fb_if hf
  obtain ⟨e_89, e2_89⟩ := fb_e hf
  subst e_89; subst e2_89
  exact hr h_89 _ _ _ _ hP hS dX9_stirs_89
set_option maxRecDepth 20000 in
theorem w_X_X9_stirs__8_5_4_113 {p : Program} {l : Launch} {e : Env} {s : State} {m : MethodId} {args : Array Value} {below : List Frame} {meth : Method} {c : Code} {A : Nat → Prop} {Q : State → Prop} {D : va_G} {ca : Nat → ClassId} {a : Nat → Nat} {u : fw_S} {r : Int32}  (C : CX (WX ca a) D (tyv ca) p s m args c A prog_11_method_8_code 11 RX9) (hr : (r = 0 ∨ r = 1) → RX (WX ca a) D p l e rm_X_X9_stirs__8_5_4 s m args below meth c A prog_11_method_8_code Q .ireturn [.int r] u) {t : fw_S} {z0 : Int32} {H : Heap} {locs : List Loc} {ls : Array Slot} (hf : b_X_X9_stirs__8_5_4_113  t z0 = some (r, u)) (hP : va_P D classes (WX ca a t) H) (hS : va_S A s.heap H locs) (hl : lv_has ls 11 []) : W p l e rm_X_X9_stirs__8_5_4 s m args below meth c H locs 0 0 Q (F0 m 113 ls [.int z0]) := by
  obtain ⟨hx, hb, hml, hown, hts, hN, hK, hD, hA⟩ := id C
  have hf : (fb_g (z0 = 0 ∨ z0 = 1) (some (z0, t))) = some (r, u) := hf
  obtain ⟨h_113, hf⟩ := fb_if hf
  obtain ⟨e_113, e2_113⟩ := fb_e hf
  subst e_113; subst e2_113
  exact hr h_113 _ _ _ _ hP hS dX9_stirs_113
set_option maxRecDepth 20000 in
theorem w_X_X9_stirs__8_5_4_112 {p : Program} {l : Launch} {e : Env} {s : State} {m : MethodId} {args : Array Value} {below : List Frame} {meth : Method} {c : Code} {A : Nat → Prop} {Q : State → Prop} {D : va_G} {ca : Nat → ClassId} {a : Nat → Nat} {u : fw_S} {r : Int32}  (C : CX (WX ca a) D (tyv ca) p s m args c A prog_11_method_8_code 11 RX9) (hr : (r = 0 ∨ r = 1) → RX (WX ca a) D p l e rm_X_X9_stirs__8_5_4 s m args below meth c A prog_11_method_8_code Q .ireturn [.int r] u) {t : fw_S}  {H : Heap} {locs : List Loc} {ls : Array Slot} (hf : b_X_X9_stirs__8_5_4_112  t  = some (r, u)) (hP : va_P D classes (WX ca a t) H) (hS : va_S A s.heap H locs) (hl : lv_has ls 11 []) : W p l e rm_X_X9_stirs__8_5_4 s m args below meth c H locs 0 0 Q (F0 m 112 ls []) := by
  obtain ⟨hx, hb, hml, hown, hts, hN, hK, hD, hA⟩ := id C
  have hf : (b_X_X9_stirs__8_5_4_113 t ((0 : Int32))) = some (r, u) := hf
  refine lv_iconst (v := 0) hx hb dX9_stirs_112 (by decide) ?_
  exact w_X_X9_stirs__8_5_4_113 C hr hf hP hS (lv_sub hl [] rfl)
set_option maxRecDepth 20000 in
theorem w_X_X9_stirs__8_5_4_108 {p : Program} {l : Launch} {e : Env} {s : State} {m : MethodId} {args : Array Value} {below : List Frame} {meth : Method} {c : Code} {A : Nat → Prop} {Q : State → Prop} {D : va_G} {ca : Nat → ClassId} {a : Nat → Nat} {u : fw_S} {r : Int32}  (C : CX (WX ca a) D (tyv ca) p s m args c A prog_11_method_8_code 11 RX9) (hr : (r = 0 ∨ r = 1) → RX (WX ca a) D p l e rm_X_X9_stirs__8_5_4 s m args below meth c A prog_11_method_8_code Q .ireturn [.int r] u) {t : fw_S}  {H : Heap} {locs : List Loc} {ls : Array Slot} (hf : b_X_X9_stirs__8_5_4_108  t  = some (r, u)) (hP : va_P D classes (WX ca a t) H) (hS : va_S A s.heap H locs) (hl : lv_has ls 11 []) : W p l e rm_X_X9_stirs__8_5_4 s m args below meth c H locs 0 0 Q (F0 m 108 ls []) := by
  obtain ⟨hx, hb, hml, hown, hts, hN, hK, hD, hA⟩ := id C
  have hf : (b_X_X9_stirs__8_5_4_113 t ((1 : Int32))) = some (r, u) := hf
  refine lv_iconst (v := 1) hx hb dX9_stirs_108 (by decide) ?_
  refine lv_goto (tgt := 113) hx hb dX9_stirs_109 (by decide) ?_
  exact w_X_X9_stirs__8_5_4_113 C hr hf hP hS (lv_sub hl [] rfl)
set_option maxRecDepth 20000 in
theorem w_X_X9_stirs__8_5_4_100 {p : Program} {l : Launch} {e : Env} {s : State} {m : MethodId} {args : Array Value} {below : List Frame} {meth : Method} {c : Code} {A : Nat → Prop} {Q : State → Prop} {D : va_G} {ca : Nat → ClassId} {a : Nat → Nat} {u : fw_S} {r : Int32}  (C : CX (WX ca a) D (tyv ca) p s m args c A prog_11_method_8_code 11 RX9) (hr : (r = 0 ∨ r = 1) → RX (WX ca a) D p l e rm_X_X9_stirs__8_5_4 s m args below meth c A prog_11_method_8_code Q .ireturn [.int r] u) {t : fw_S} {y7 : Int64} {y9 : Int64} {H : Heap} {locs : List Loc} {ls : Array Slot} (hf : b_X_X9_stirs__8_5_4_100  t y7 y9 = some (r, u)) (hP : va_P D classes (WX ca a t) H) (hS : va_S A s.heap H locs) (hl : lv_has ls 11 [(7, .long y7), (9, .long y9)]) : W p l e rm_X_X9_stirs__8_5_4 s m args below meth c H locs 0 0 Q (F0 m 100 ls []) := by
  obtain ⟨hx, hb, hml, hown, hts, hN, hK, hD, hA⟩ := id C
  have hf : (if (lg_cmp y9 y7) ≤ 0 then b_X_X9_stirs__8_5_4_112 t else b_X_X9_stirs__8_5_4_108 t) = some (r, u) := hf
  refine lv_lload hx hb dX9_stirs_100 (lv_at hl 1 rfl) ?_
  refine lv_lload hx hb dX9_stirs_102 (lv_at hl 0 rfl) ?_
  refine W.lcmp hx hb dX9_stirs_104 ?_
  refine lv_if_le (tgt := 112) hx hb dX9_stirs_105 (by decide) (fun h_105 => ?_) (fun h_105 => ?_)
  · have hf := fb_t h_105 hf
    exact w_X_X9_stirs__8_5_4_112 C hr hf hP hS (lv_sub hl [] rfl)
  · have hf := fb_f h_105 hf
    exact w_X_X9_stirs__8_5_4_108 C hr hf hP hS (lv_sub hl [] rfl)
set_option maxRecDepth 20000 in
theorem w_X_X9_stirs__8_5_4_95 {p : Program} {l : Launch} {e : Env} {s : State} {m : MethodId} {args : Array Value} {below : List Frame} {meth : Method} {c : Code} {A : Nat → Prop} {Q : State → Prop} {D : va_G} {ca : Nat → ClassId} {a : Nat → Nat} {u : fw_S} {r : Int32}  (C : CX (WX ca a) D (tyv ca) p s m args c A prog_11_method_8_code 11 RX9) (hr : (r = 0 ∨ r = 1) → RX (WX ca a) D p l e rm_X_X9_stirs__8_5_4 s m args below meth c A prog_11_method_8_code Q .ireturn [.int r] u) {t : fw_S} {x6 : Int32} {y7 : Int64} {y9 : Int64} {H : Heap} {locs : List Loc} {ls : Array Slot} (hf : b_X_X9_stirs__8_5_4_95  t x6 y7 y9 = some (r, u)) (hP : va_P D classes (WX ca a t) H) (hS : va_S A s.heap H locs) (hl : lv_has ls 11 [(6, .int x6), (7, .long y7), (9, .long y9)]) : W p l e rm_X_X9_stirs__8_5_4 s m args below meth c H locs 0 0 Q (F0 m 95 ls []) := by
  obtain ⟨hx, hb, hml, hown, hts, hN, hK, hD, hA⟩ := id C
  have hf : (if x6 = 0 then b_X_X9_stirs__8_5_4_112 t else b_X_X9_stirs__8_5_4_100 t y7 y9) = some (r, u) := hf
  refine lv_iload hx hb dX9_stirs_95 (lv_at hl 0 rfl) ?_
  refine lv_if_eq (tgt := 112) hx hb dX9_stirs_97 (by decide) (fun h_97 => ?_) (fun h_97 => ?_)
  · have hf := fb_t h_97 hf
    exact w_X_X9_stirs__8_5_4_112 C hr hf hP hS (lv_sub hl [] rfl)
  · have hf := fb_f h_97 hf
    exact w_X_X9_stirs__8_5_4_100 C hr hf hP hS (lv_sub hl [1, 2] rfl)
set_option maxRecDepth 20000 in
theorem w_X_X9_stirs__8_5_4_90 {p : Program} {l : Launch} {e : Env} {s : State} {m : MethodId} {args : Array Value} {below : List Frame} {meth : Method} {c : Code} {A : Nat → Prop} {Q : State → Prop} {D : va_G} {ca : Nat → ClassId} {a : Nat → Nat} {u : fw_S} {r : Int32}  (C : CX (WX ca a) D (tyv ca) p s m args c A prog_11_method_8_code 11 RX9) (hr : (r = 0 ∨ r = 1) → RX (WX ca a) D p l e rm_X_X9_stirs__8_5_4 s m args below meth c A prog_11_method_8_code Q .ireturn [.int r] u) {t : fw_S} {x5 : Int32} {x6 : Int32} {y7 : Int64} {y9 : Int64} {H : Heap} {locs : List Loc} {ls : Array Slot} (hf : b_X_X9_stirs__8_5_4_90  t x5 x6 y7 y9 = some (r, u)) (hP : va_P D classes (WX ca a t) H) (hS : va_S A s.heap H locs) (hl : lv_has ls 11 [(5, .int x5), (6, .int x6), (7, .long y7), (9, .long y9)]) : W p l e rm_X_X9_stirs__8_5_4 s m args below meth c H locs 0 0 Q (F0 m 90 ls []) := by
  obtain ⟨hx, hb, hml, hown, hts, hN, hK, hD, hA⟩ := id C
  have hf : (if x5 = 0 then b_X_X9_stirs__8_5_4_112 t else b_X_X9_stirs__8_5_4_95 t x6 y7 y9) = some (r, u) := hf
  refine lv_iload hx hb dX9_stirs_90 (lv_at hl 0 rfl) ?_
  refine lv_if_eq (tgt := 112) hx hb dX9_stirs_92 (by decide) (fun h_92 => ?_) (fun h_92 => ?_)
  · have hf := fb_t h_92 hf
    exact w_X_X9_stirs__8_5_4_112 C hr hf hP hS (lv_sub hl [] rfl)
  · have hf := fb_f h_92 hf
    exact w_X_X9_stirs__8_5_4_95 C hr hf hP hS (lv_sub hl [1, 2, 3] rfl)
set_option maxRecDepth 20000 in
theorem w_X_X9_stirs__8_5_4_166 {p : Program} {l : Launch} {e : Env} {s : State} {m : MethodId} {args : Array Value} {below : List Frame} {meth : Method} {c : Code} {A : Nat → Prop} {Q : State → Prop} {D : va_G} {ca : Nat → ClassId} {a : Nat → Nat} {u : fw_S} {r : Int32}  (C : CX (WX ca a) D (tyv ca) p s m args c A prog_11_method_8_code 11 RX9) (hr : (r = 0 ∨ r = 1) → RX (WX ca a) D p l e rm_X_X9_stirs__8_5_4 s m args below meth c A prog_11_method_8_code Q .ireturn [.int r] u) {t : fw_S} {z0 : Int32} {H : Heap} {locs : List Loc} {ls : Array Slot} (hf : b_X_X9_stirs__8_5_4_166  t z0 = some (r, u)) (hP : va_P D classes (WX ca a t) H) (hS : va_S A s.heap H locs) (hl : lv_has ls 11 []) : W p l e rm_X_X9_stirs__8_5_4 s m args below meth c H locs 0 0 Q (F0 m 166 ls [.int z0]) := by
  obtain ⟨hx, hb, hml, hown, hts, hN, hK, hD, hA⟩ := id C
  have hf : (fb_g (z0 = 0 ∨ z0 = 1) (some (z0, t))) = some (r, u) := hf
  obtain ⟨h_166, hf⟩ := fb_if hf
  obtain ⟨e_166, e2_166⟩ := fb_e hf
  subst e_166; subst e2_166
  exact hr h_166 _ _ _ _ hP hS dX9_stirs_166
set_option maxRecDepth 20000 in
theorem w_X_X9_stirs__8_5_4_165 {p : Program} {l : Launch} {e : Env} {s : State} {m : MethodId} {args : Array Value} {below : List Frame} {meth : Method} {c : Code} {A : Nat → Prop} {Q : State → Prop} {D : va_G} {ca : Nat → ClassId} {a : Nat → Nat} {u : fw_S} {r : Int32}  (C : CX (WX ca a) D (tyv ca) p s m args c A prog_11_method_8_code 11 RX9) (hr : (r = 0 ∨ r = 1) → RX (WX ca a) D p l e rm_X_X9_stirs__8_5_4 s m args below meth c A prog_11_method_8_code Q .ireturn [.int r] u) {t : fw_S}  {H : Heap} {locs : List Loc} {ls : Array Slot} (hf : b_X_X9_stirs__8_5_4_165  t  = some (r, u)) (hP : va_P D classes (WX ca a t) H) (hS : va_S A s.heap H locs) (hl : lv_has ls 11 []) : W p l e rm_X_X9_stirs__8_5_4 s m args below meth c H locs 0 0 Q (F0 m 165 ls []) := by
  obtain ⟨hx, hb, hml, hown, hts, hN, hK, hD, hA⟩ := id C
  have hf : (b_X_X9_stirs__8_5_4_166 t ((0 : Int32))) = some (r, u) := hf
  refine lv_iconst (v := 0) hx hb dX9_stirs_165 (by decide) ?_
  exact w_X_X9_stirs__8_5_4_166 C hr hf hP hS (lv_sub hl [] rfl)
set_option maxRecDepth 20000 in
theorem w_X_X9_stirs__8_5_4_161 {p : Program} {l : Launch} {e : Env} {s : State} {m : MethodId} {args : Array Value} {below : List Frame} {meth : Method} {c : Code} {A : Nat → Prop} {Q : State → Prop} {D : va_G} {ca : Nat → ClassId} {a : Nat → Nat} {u : fw_S} {r : Int32}  (C : CX (WX ca a) D (tyv ca) p s m args c A prog_11_method_8_code 11 RX9) (hr : (r = 0 ∨ r = 1) → RX (WX ca a) D p l e rm_X_X9_stirs__8_5_4 s m args below meth c A prog_11_method_8_code Q .ireturn [.int r] u) {t : fw_S}  {H : Heap} {locs : List Loc} {ls : Array Slot} (hf : b_X_X9_stirs__8_5_4_161  t  = some (r, u)) (hP : va_P D classes (WX ca a t) H) (hS : va_S A s.heap H locs) (hl : lv_has ls 11 []) : W p l e rm_X_X9_stirs__8_5_4 s m args below meth c H locs 0 0 Q (F0 m 161 ls []) := by
  obtain ⟨hx, hb, hml, hown, hts, hN, hK, hD, hA⟩ := id C
  have hf : (b_X_X9_stirs__8_5_4_166 t ((1 : Int32))) = some (r, u) := hf
  refine lv_iconst (v := 1) hx hb dX9_stirs_161 (by decide) ?_
  refine lv_goto (tgt := 166) hx hb dX9_stirs_162 (by decide) ?_
  exact w_X_X9_stirs__8_5_4_166 C hr hf hP hS (lv_sub hl [] rfl)
set_option maxRecDepth 20000 in
theorem w_X_X9_stirs__8_5_4_158 {p : Program} {l : Launch} {e : Env} {s : State} {m : MethodId} {args : Array Value} {below : List Frame} {meth : Method} {c : Code} {A : Nat → Prop} {Q : State → Prop} {D : va_G} {ca : Nat → ClassId} {a : Nat → Nat} {u : fw_S} {r : Int32}  (C : CX (WX ca a) D (tyv ca) p s m args c A prog_11_method_8_code 11 RX9) (hr : (r = 0 ∨ r = 1) → RX (WX ca a) D p l e rm_X_X9_stirs__8_5_4 s m args below meth c A prog_11_method_8_code Q .ireturn [.int r] u) {t : fw_S} {z0 : Int32} {z1 : Int32} {H : Heap} {locs : List Loc} {ls : Array Slot} (hf : b_X_X9_stirs__8_5_4_158  t z0 z1 = some (r, u)) (hP : va_P D classes (WX ca a t) H) (hS : va_S A s.heap H locs) (hl : lv_has ls 11 []) : W p l e rm_X_X9_stirs__8_5_4 s m args below meth c H locs 0 0 Q (F0 m 158 ls [.int z1, .int z0]) := by
  obtain ⟨hx, hb, hml, hown, hts, hN, hK, hD, hA⟩ := id C
  have hf : (if z0 = z1 then b_X_X9_stirs__8_5_4_165 t else b_X_X9_stirs__8_5_4_161 t) = some (r, u) := hf
  refine lv_icmp_eq (tgt := 165) hx hb dX9_stirs_158 (by decide) (fun h_158 => ?_) (fun h_158 => ?_)
  · have hf := fb_t h_158 hf
    exact w_X_X9_stirs__8_5_4_165 C hr hf hP hS (lv_sub hl [] rfl)
  · have hf := fb_f h_158 hf
    exact w_X_X9_stirs__8_5_4_161 C hr hf hP hS (lv_sub hl [] rfl)
set_option maxRecDepth 20000 in
theorem w_X_X9_stirs__8_5_4_157 {p : Program} {l : Launch} {e : Env} {s : State} {m : MethodId} {args : Array Value} {below : List Frame} {meth : Method} {c : Code} {A : Nat → Prop} {Q : State → Prop} {D : va_G} {ca : Nat → ClassId} {a : Nat → Nat} {u : fw_S} {r : Int32}  (C : CX (WX ca a) D (tyv ca) p s m args c A prog_11_method_8_code 11 RX9) (hr : (r = 0 ∨ r = 1) → RX (WX ca a) D p l e rm_X_X9_stirs__8_5_4 s m args below meth c A prog_11_method_8_code Q .ireturn [.int r] u) {t : fw_S} {z0 : Int32} {H : Heap} {locs : List Loc} {ls : Array Slot} (hf : b_X_X9_stirs__8_5_4_157  t z0 = some (r, u)) (hP : va_P D classes (WX ca a t) H) (hS : va_S A s.heap H locs) (hl : lv_has ls 11 []) : W p l e rm_X_X9_stirs__8_5_4 s m args below meth c H locs 0 0 Q (F0 m 157 ls [.int z0]) := by
  obtain ⟨hx, hb, hml, hown, hts, hN, hK, hD, hA⟩ := id C
  have hf : (b_X_X9_stirs__8_5_4_158 t z0 ((0 : Int32))) = some (r, u) := hf
  refine lv_iconst (v := 0) hx hb dX9_stirs_157 (by decide) ?_
  exact w_X_X9_stirs__8_5_4_158 C hr hf hP hS (lv_sub hl [] rfl)
set_option maxRecDepth 20000 in
theorem w_X_X9_stirs__8_5_4_153 {p : Program} {l : Launch} {e : Env} {s : State} {m : MethodId} {args : Array Value} {below : List Frame} {meth : Method} {c : Code} {A : Nat → Prop} {Q : State → Prop} {D : va_G} {ca : Nat → ClassId} {a : Nat → Nat} {u : fw_S} {r : Int32}  (C : CX (WX ca a) D (tyv ca) p s m args c A prog_11_method_8_code 11 RX9) (hr : (r = 0 ∨ r = 1) → RX (WX ca a) D p l e rm_X_X9_stirs__8_5_4 s m args below meth c A prog_11_method_8_code Q .ireturn [.int r] u) {t : fw_S} {z0 : Int32} {H : Heap} {locs : List Loc} {ls : Array Slot} (hf : b_X_X9_stirs__8_5_4_153  t z0 = some (r, u)) (hP : va_P D classes (WX ca a t) H) (hS : va_S A s.heap H locs) (hl : lv_has ls 11 []) : W p l e rm_X_X9_stirs__8_5_4 s m args below meth c H locs 0 0 Q (F0 m 153 ls [.int z0]) := by
  obtain ⟨hx, hb, hml, hown, hts, hN, hK, hD, hA⟩ := id C
  have hf : (b_X_X9_stirs__8_5_4_158 t z0 ((1 : Int32))) = some (r, u) := hf
  refine lv_iconst (v := 1) hx hb dX9_stirs_153 (by decide) ?_
  refine lv_goto (tgt := 158) hx hb dX9_stirs_154 (by decide) ?_
  exact w_X_X9_stirs__8_5_4_158 C hr hf hP hS (lv_sub hl [] rfl)
set_option maxRecDepth 20000 in
theorem w_X_X9_stirs__8_5_4_141 {p : Program} {l : Launch} {e : Env} {s : State} {m : MethodId} {args : Array Value} {below : List Frame} {meth : Method} {c : Code} {A : Nat → Prop} {Q : State → Prop} {D : va_G} {ca : Nat → ClassId} {a : Nat → Nat} {u : fw_S} {r : Int32}  (C : CX (WX ca a) D (tyv ca) p s m args c A prog_11_method_8_code 11 RX9) (hr : (r = 0 ∨ r = 1) → RX (WX ca a) D p l e rm_X_X9_stirs__8_5_4 s m args below meth c A prog_11_method_8_code Q .ireturn [.int r] u) {t : fw_S} {x1 : Int32} {y9 : Int64} {z0 : Int32} {H : Heap} {locs : List Loc} {ls : Array Slot} (hf : b_X_X9_stirs__8_5_4_141  t x1 y9 z0 = some (r, u)) (hP : va_P D classes (WX ca a t) H) (hS : va_S A s.heap H locs) (hl : lv_has ls 11 [(0, .ref (a 8)), (1, .int x1), (9, .long y9)]) : W p l e rm_X_X9_stirs__8_5_4 s m args below meth c H locs 0 0 Q (F0 m 141 ls [.int z0]) := by
  obtain ⟨hx, hb, hml, hown, hts, hN, hK, hD, hA⟩ := id C
  have hf : (fb_g (¬ (x1 < 0 ∨ 8 ≤ x1.toNatClampNeg)) (if 0 ≤ (lg_cmp y9 (st_G t 7 x1.toNatClampNeg)) then b_X_X9_stirs__8_5_4_157 t z0 else b_X_X9_stirs__8_5_4_153 t z0)) = some (r, u) := hf
  refine lv_lload hx hb dX9_stirs_141 (lv_at hl 2 rfl) ?_
  refine lv_aload_n hx hb dX9_stirs_143 rfl (lv_at hl 0 rfl) ?_
  refine va_get (D := D) (ci := 9) (v := .ref (a 51)) (C := RX9) (T := TX9) (N := 12) hx hb hts inX9 hown hK hP 8 (heX_8 ca a t) rfl 2 (by decide) (hts _ kw_278) (fun _ h9 => h9) rfl dX9_stirs_144 ?_
  refine lv_iload_n hx hb dX9_stirs_147 rfl (lv_at hl 1 rfl) ?_
  obtain ⟨h_148, hf⟩ := fb_if hf
  refine va_lald hx hb hK hP 51 1 (haX_51 ca a t) rfl h_148 dX9_stirs_148 ?_
  refine W.lcmp hx hb dX9_stirs_149 ?_
  refine lv_if_ge (tgt := 157) hx hb dX9_stirs_150 (by decide) (fun h_150 => ?_) (fun h_150 => ?_)
  · have hf := fb_t h_150 hf
    exact w_X_X9_stirs__8_5_4_157 C hr hf hP hS (lv_sub hl [] rfl)
  · have hf := fb_f h_150 hf
    exact w_X_X9_stirs__8_5_4_153 C hr hf hP hS (lv_sub hl [] rfl)
set_option maxRecDepth 20000 in
theorem w_X_X9_stirs__8_5_4_140 {p : Program} {l : Launch} {e : Env} {s : State} {m : MethodId} {args : Array Value} {below : List Frame} {meth : Method} {c : Code} {A : Nat → Prop} {Q : State → Prop} {D : va_G} {ca : Nat → ClassId} {a : Nat → Nat} {u : fw_S} {r : Int32}  (C : CX (WX ca a) D (tyv ca) p s m args c A prog_11_method_8_code 11 RX9) (hr : (r = 0 ∨ r = 1) → RX (WX ca a) D p l e rm_X_X9_stirs__8_5_4 s m args below meth c A prog_11_method_8_code Q .ireturn [.int r] u) {t : fw_S} {x1 : Int32} {y9 : Int64} {H : Heap} {locs : List Loc} {ls : Array Slot} (hf : b_X_X9_stirs__8_5_4_140  t x1 y9 = some (r, u)) (hP : va_P D classes (WX ca a t) H) (hS : va_S A s.heap H locs) (hl : lv_has ls 11 [(0, .ref (a 8)), (1, .int x1), (9, .long y9)]) : W p l e rm_X_X9_stirs__8_5_4 s m args below meth c H locs 0 0 Q (F0 m 140 ls []) := by
  obtain ⟨hx, hb, hml, hown, hts, hN, hK, hD, hA⟩ := id C
  have hf : (b_X_X9_stirs__8_5_4_141 t x1 y9 ((0 : Int32))) = some (r, u) := hf
  refine lv_iconst (v := 0) hx hb dX9_stirs_140 (by decide) ?_
  exact w_X_X9_stirs__8_5_4_141 C hr hf hP hS (lv_sub hl [0, 1, 2] rfl)
set_option maxRecDepth 20000 in
theorem w_X_X9_stirs__8_5_4_136 {p : Program} {l : Launch} {e : Env} {s : State} {m : MethodId} {args : Array Value} {below : List Frame} {meth : Method} {c : Code} {A : Nat → Prop} {Q : State → Prop} {D : va_G} {ca : Nat → ClassId} {a : Nat → Nat} {u : fw_S} {r : Int32}  (C : CX (WX ca a) D (tyv ca) p s m args c A prog_11_method_8_code 11 RX9) (hr : (r = 0 ∨ r = 1) → RX (WX ca a) D p l e rm_X_X9_stirs__8_5_4 s m args below meth c A prog_11_method_8_code Q .ireturn [.int r] u) {t : fw_S} {x1 : Int32} {y9 : Int64} {H : Heap} {locs : List Loc} {ls : Array Slot} (hf : b_X_X9_stirs__8_5_4_136  t x1 y9 = some (r, u)) (hP : va_P D classes (WX ca a t) H) (hS : va_S A s.heap H locs) (hl : lv_has ls 11 [(0, .ref (a 8)), (1, .int x1), (9, .long y9)]) : W p l e rm_X_X9_stirs__8_5_4 s m args below meth c H locs 0 0 Q (F0 m 136 ls []) := by
  obtain ⟨hx, hb, hml, hown, hts, hN, hK, hD, hA⟩ := id C
  have hf : (b_X_X9_stirs__8_5_4_141 t x1 y9 ((1 : Int32))) = some (r, u) := hf
  refine lv_iconst (v := 1) hx hb dX9_stirs_136 (by decide) ?_
  refine lv_goto (tgt := 141) hx hb dX9_stirs_137 (by decide) ?_
  exact w_X_X9_stirs__8_5_4_141 C hr hf hP hS (lv_sub hl [0, 1, 2] rfl)
set_option maxRecDepth 20000 in
theorem w_X_X9_stirs__8_5_4_124 {p : Program} {l : Launch} {e : Env} {s : State} {m : MethodId} {args : Array Value} {below : List Frame} {meth : Method} {c : Code} {A : Nat → Prop} {Q : State → Prop} {D : va_G} {ca : Nat → ClassId} {a : Nat → Nat} {u : fw_S} {r : Int32}  (C : CX (WX ca a) D (tyv ca) p s m args c A prog_11_method_8_code 11 RX9) (hr : (r = 0 ∨ r = 1) → RX (WX ca a) D p l e rm_X_X9_stirs__8_5_4 s m args below meth c A prog_11_method_8_code Q .ireturn [.int r] u) {t : fw_S} {x1 : Int32} {y7 : Int64} {y9 : Int64} {H : Heap} {locs : List Loc} {ls : Array Slot} (hf : b_X_X9_stirs__8_5_4_124  t x1 y7 y9 = some (r, u)) (hP : va_P D classes (WX ca a t) H) (hS : va_S A s.heap H locs) (hl : lv_has ls 11 [(0, .ref (a 8)), (1, .int x1), (7, .long y7), (9, .long y9)]) : W p l e rm_X_X9_stirs__8_5_4 s m args below meth c H locs 0 0 Q (F0 m 124 ls []) := by
  obtain ⟨hx, hb, hml, hown, hts, hN, hK, hD, hA⟩ := id C
  have hf : (fb_g (¬ (x1 < 0 ∨ 8 ≤ x1.toNatClampNeg)) (if 0 ≤ (lg_cmp y7 (st_G t 7 x1.toNatClampNeg)) then b_X_X9_stirs__8_5_4_140 t x1 y9 else b_X_X9_stirs__8_5_4_136 t x1 y9)) = some (r, u) := hf
  refine lv_lload hx hb dX9_stirs_124 (lv_at hl 2 rfl) ?_
  refine lv_aload_n hx hb dX9_stirs_126 rfl (lv_at hl 0 rfl) ?_
  refine va_get (D := D) (ci := 9) (v := .ref (a 51)) (C := RX9) (T := TX9) (N := 12) hx hb hts inX9 hown hK hP 8 (heX_8 ca a t) rfl 2 (by decide) (hts _ kw_278) (fun _ h9 => h9) rfl dX9_stirs_127 ?_
  refine lv_iload_n hx hb dX9_stirs_130 rfl (lv_at hl 1 rfl) ?_
  obtain ⟨h_131, hf⟩ := fb_if hf
  refine va_lald hx hb hK hP 51 1 (haX_51 ca a t) rfl h_131 dX9_stirs_131 ?_
  refine W.lcmp hx hb dX9_stirs_132 ?_
  refine lv_if_ge (tgt := 140) hx hb dX9_stirs_133 (by decide) (fun h_133 => ?_) (fun h_133 => ?_)
  · have hf := fb_t h_133 hf
    exact w_X_X9_stirs__8_5_4_140 C hr hf hP hS (lv_sub hl [0, 1, 3] rfl)
  · have hf := fb_f h_133 hf
    exact w_X_X9_stirs__8_5_4_136 C hr hf hP hS (lv_sub hl [0, 1, 3] rfl)
set_option maxRecDepth 20000 in
theorem w_X_X9_stirs__8_5_4_119 {p : Program} {l : Launch} {e : Env} {s : State} {m : MethodId} {args : Array Value} {below : List Frame} {meth : Method} {c : Code} {A : Nat → Prop} {Q : State → Prop} {D : va_G} {ca : Nat → ClassId} {a : Nat → Nat} {u : fw_S} {r : Int32}  (C : CX (WX ca a) D (tyv ca) p s m args c A prog_11_method_8_code 11 RX9) (hr : (r = 0 ∨ r = 1) → RX (WX ca a) D p l e rm_X_X9_stirs__8_5_4 s m args below meth c A prog_11_method_8_code Q .ireturn [.int r] u) {t : fw_S} {x1 : Int32} {x6 : Int32} {y7 : Int64} {y9 : Int64} {H : Heap} {locs : List Loc} {ls : Array Slot} (hf : b_X_X9_stirs__8_5_4_119  t x1 x6 y7 y9 = some (r, u)) (hP : va_P D classes (WX ca a t) H) (hS : va_S A s.heap H locs) (hl : lv_has ls 11 [(0, .ref (a 8)), (1, .int x1), (6, .int x6), (7, .long y7), (9, .long y9)]) : W p l e rm_X_X9_stirs__8_5_4 s m args below meth c H locs 0 0 Q (F0 m 119 ls []) := by
  obtain ⟨hx, hb, hml, hown, hts, hN, hK, hD, hA⟩ := id C
  have hf : (if x6 = 0 then b_X_X9_stirs__8_5_4_165 t else b_X_X9_stirs__8_5_4_124 t x1 y7 y9) = some (r, u) := hf
  refine lv_iload hx hb dX9_stirs_119 (lv_at hl 2 rfl) ?_
  refine lv_if_eq (tgt := 165) hx hb dX9_stirs_121 (by decide) (fun h_121 => ?_) (fun h_121 => ?_)
  · have hf := fb_t h_121 hf
    exact w_X_X9_stirs__8_5_4_165 C hr hf hP hS (lv_sub hl [] rfl)
  · have hf := fb_f h_121 hf
    exact w_X_X9_stirs__8_5_4_124 C hr hf hP hS (lv_sub hl [0, 1, 3, 4] rfl)
set_option maxRecDepth 20000 in
theorem w_X_X9_stirs__8_5_4_114 {p : Program} {l : Launch} {e : Env} {s : State} {m : MethodId} {args : Array Value} {below : List Frame} {meth : Method} {c : Code} {A : Nat → Prop} {Q : State → Prop} {D : va_G} {ca : Nat → ClassId} {a : Nat → Nat} {u : fw_S} {r : Int32}  (C : CX (WX ca a) D (tyv ca) p s m args c A prog_11_method_8_code 11 RX9) (hr : (r = 0 ∨ r = 1) → RX (WX ca a) D p l e rm_X_X9_stirs__8_5_4 s m args below meth c A prog_11_method_8_code Q .ireturn [.int r] u) {t : fw_S} {x1 : Int32} {x5 : Int32} {x6 : Int32} {y7 : Int64} {y9 : Int64} {H : Heap} {locs : List Loc} {ls : Array Slot} (hf : b_X_X9_stirs__8_5_4_114  t x1 x5 x6 y7 y9 = some (r, u)) (hP : va_P D classes (WX ca a t) H) (hS : va_S A s.heap H locs) (hl : lv_has ls 11 [(0, .ref (a 8)), (1, .int x1), (5, .int x5), (6, .int x6), (7, .long y7), (9, .long y9)]) : W p l e rm_X_X9_stirs__8_5_4 s m args below meth c H locs 0 0 Q (F0 m 114 ls []) := by
  obtain ⟨hx, hb, hml, hown, hts, hN, hK, hD, hA⟩ := id C
  have hf : (if x5 = 0 then b_X_X9_stirs__8_5_4_165 t else b_X_X9_stirs__8_5_4_119 t x1 x6 y7 y9) = some (r, u) := hf
  refine lv_iload hx hb dX9_stirs_114 (lv_at hl 2 rfl) ?_
  refine lv_if_eq (tgt := 165) hx hb dX9_stirs_116 (by decide) (fun h_116 => ?_) (fun h_116 => ?_)
  · have hf := fb_t h_116 hf
    exact w_X_X9_stirs__8_5_4_165 C hr hf hP hS (lv_sub hl [] rfl)
  · have hf := fb_f h_116 hf
    exact w_X_X9_stirs__8_5_4_119 C hr hf hP hS (lv_sub hl [0, 1, 3, 4, 5] rfl)
set_option maxRecDepth 20000 in
theorem w_X_X9_stirs__8_5_4_179 {p : Program} {l : Launch} {e : Env} {s : State} {m : MethodId} {args : Array Value} {below : List Frame} {meth : Method} {c : Code} {A : Nat → Prop} {Q : State → Prop} {D : va_G} {ca : Nat → ClassId} {a : Nat → Nat} {u : fw_S} {r : Int32}  (C : CX (WX ca a) D (tyv ca) p s m args c A prog_11_method_8_code 11 RX9) (hr : (r = 0 ∨ r = 1) → RX (WX ca a) D p l e rm_X_X9_stirs__8_5_4 s m args below meth c A prog_11_method_8_code Q .ireturn [.int r] u) {t : fw_S} {z0 : Int32} {H : Heap} {locs : List Loc} {ls : Array Slot} (hf : b_X_X9_stirs__8_5_4_179  t z0 = some (r, u)) (hP : va_P D classes (WX ca a t) H) (hS : va_S A s.heap H locs) (hl : lv_has ls 11 []) : W p l e rm_X_X9_stirs__8_5_4 s m args below meth c H locs 0 0 Q (F0 m 179 ls [.int z0]) := by
  obtain ⟨hx, hb, hml, hown, hts, hN, hK, hD, hA⟩ := id C
  have hf : (fb_g (z0 = 0 ∨ z0 = 1) (some (z0, t))) = some (r, u) := hf
  obtain ⟨h_179, hf⟩ := fb_if hf
  obtain ⟨e_179, e2_179⟩ := fb_e hf
  subst e_179; subst e2_179
  exact hr h_179 _ _ _ _ hP hS dX9_stirs_179
set_option maxRecDepth 20000 in
theorem w_X_X9_stirs__8_5_4_178 {p : Program} {l : Launch} {e : Env} {s : State} {m : MethodId} {args : Array Value} {below : List Frame} {meth : Method} {c : Code} {A : Nat → Prop} {Q : State → Prop} {D : va_G} {ca : Nat → ClassId} {a : Nat → Nat} {u : fw_S} {r : Int32}  (C : CX (WX ca a) D (tyv ca) p s m args c A prog_11_method_8_code 11 RX9) (hr : (r = 0 ∨ r = 1) → RX (WX ca a) D p l e rm_X_X9_stirs__8_5_4 s m args below meth c A prog_11_method_8_code Q .ireturn [.int r] u) {t : fw_S}  {H : Heap} {locs : List Loc} {ls : Array Slot} (hf : b_X_X9_stirs__8_5_4_178  t  = some (r, u)) (hP : va_P D classes (WX ca a t) H) (hS : va_S A s.heap H locs) (hl : lv_has ls 11 []) : W p l e rm_X_X9_stirs__8_5_4 s m args below meth c H locs 0 0 Q (F0 m 178 ls []) := by
  obtain ⟨hx, hb, hml, hown, hts, hN, hK, hD, hA⟩ := id C
  have hf : (b_X_X9_stirs__8_5_4_179 t ((0 : Int32))) = some (r, u) := hf
  refine lv_iconst (v := 0) hx hb dX9_stirs_178 (by decide) ?_
  exact w_X_X9_stirs__8_5_4_179 C hr hf hP hS (lv_sub hl [] rfl)
set_option maxRecDepth 20000 in
theorem w_X_X9_stirs__8_5_4_174 {p : Program} {l : Launch} {e : Env} {s : State} {m : MethodId} {args : Array Value} {below : List Frame} {meth : Method} {c : Code} {A : Nat → Prop} {Q : State → Prop} {D : va_G} {ca : Nat → ClassId} {a : Nat → Nat} {u : fw_S} {r : Int32}  (C : CX (WX ca a) D (tyv ca) p s m args c A prog_11_method_8_code 11 RX9) (hr : (r = 0 ∨ r = 1) → RX (WX ca a) D p l e rm_X_X9_stirs__8_5_4 s m args below meth c A prog_11_method_8_code Q .ireturn [.int r] u) {t : fw_S}  {H : Heap} {locs : List Loc} {ls : Array Slot} (hf : b_X_X9_stirs__8_5_4_174  t  = some (r, u)) (hP : va_P D classes (WX ca a t) H) (hS : va_S A s.heap H locs) (hl : lv_has ls 11 []) : W p l e rm_X_X9_stirs__8_5_4 s m args below meth c H locs 0 0 Q (F0 m 174 ls []) := by
  obtain ⟨hx, hb, hml, hown, hts, hN, hK, hD, hA⟩ := id C
  have hf : (b_X_X9_stirs__8_5_4_179 t ((1 : Int32))) = some (r, u) := hf
  refine lv_iconst (v := 1) hx hb dX9_stirs_174 (by decide) ?_
  refine lv_goto (tgt := 179) hx hb dX9_stirs_175 (by decide) ?_
  exact w_X_X9_stirs__8_5_4_179 C hr hf hP hS (lv_sub hl [] rfl)
set_option maxRecDepth 20000 in
theorem w_X_X9_stirs__8_5_4_167 {p : Program} {l : Launch} {e : Env} {s : State} {m : MethodId} {args : Array Value} {below : List Frame} {meth : Method} {c : Code} {A : Nat → Prop} {Q : State → Prop} {D : va_G} {ca : Nat → ClassId} {a : Nat → Nat} {u : fw_S} {r : Int32}  (C : CX (WX ca a) D (tyv ca) p s m args c A prog_11_method_8_code 11 RX9) (hr : (r = 0 ∨ r = 1) → RX (WX ca a) D p l e rm_X_X9_stirs__8_5_4 s m args below meth c A prog_11_method_8_code Q .ireturn [.int r] u) {t : fw_S} {x5 : Int32} {x6 : Int32} {H : Heap} {locs : List Loc} {ls : Array Slot} (hf : b_X_X9_stirs__8_5_4_167  t x5 x6 = some (r, u)) (hP : va_P D classes (WX ca a t) H) (hS : va_S A s.heap H locs) (hl : lv_has ls 11 [(5, .int x5), (6, .int x6)]) : W p l e rm_X_X9_stirs__8_5_4 s m args below meth c H locs 0 0 Q (F0 m 167 ls []) := by
  obtain ⟨hx, hb, hml, hown, hts, hN, hK, hD, hA⟩ := id C
  have hf : (if x5 = x6 then b_X_X9_stirs__8_5_4_178 t else b_X_X9_stirs__8_5_4_174 t) = some (r, u) := hf
  refine lv_iload hx hb dX9_stirs_167 (lv_at hl 0 rfl) ?_
  refine lv_iload hx hb dX9_stirs_169 (lv_at hl 1 rfl) ?_
  refine lv_icmp_eq (tgt := 178) hx hb dX9_stirs_171 (by decide) (fun h_171 => ?_) (fun h_171 => ?_)
  · have hf := fb_t h_171 hf
    exact w_X_X9_stirs__8_5_4_178 C hr hf hP hS (lv_sub hl [] rfl)
  · have hf := fb_f h_171 hf
    exact w_X_X9_stirs__8_5_4_174 C hr hf hP hS (lv_sub hl [] rfl)
set_option maxRecDepth 20000 in
theorem w_X_X9_stirs__8_5_4_38 {p : Program} {l : Launch} {e : Env} {s : State} {m : MethodId} {args : Array Value} {below : List Frame} {meth : Method} {c : Code} {A : Nat → Prop} {Q : State → Prop} {D : va_G} {ca : Nat → ClassId} {a : Nat → Nat} {u : fw_S} {r : Int32}  (C : CX (WX ca a) D (tyv ca) p s m args c A prog_11_method_8_code 11 RX9) (hr : (r = 0 ∨ r = 1) → RX (WX ca a) D p l e rm_X_X9_stirs__8_5_4 s m args below meth c A prog_11_method_8_code Q .ireturn [.int r] u) {t : fw_S} {x1 : Int32} {x4 : Int32} {x5 : Int32} {z0 : Int32} {H : Heap} {locs : List Loc} {ls : Array Slot} (hf : b_X_X9_stirs__8_5_4_38  t x1 x4 x5 z0 = some (r, u)) (hP : va_P D classes (WX ca a t) H) (hS : va_S A s.heap H locs) (hl : lv_has ls 11 [(0, .ref (a 8)), (1, .int x1), (2, .ref (a 5)), (3, .ref (a 4)), (4, .int x4), (5, .int x5)]) : W p l e rm_X_X9_stirs__8_5_4 s m args below meth c H locs 0 0 Q (F0 m 38 ls [.int z0]) := by
  obtain ⟨hx, hb, hml, hown, hts, hN, hK, hD, hA⟩ := id C
  have hf : (fb_b (f_X_X0_numberOf__5 t x4) fun v_2 t_1 => (fb_b (f_X_X0_numberOf__4 t_1 x4) fun v_4 t_3 => (fb_g (¬ (x1 < 0 ∨ 8 ≤ x1.toNatClampNeg)) (if (st_F t_3 25 x1.toNatClampNeg) = 0 then b_X_X9_stirs__8_5_4_88 t_3 else if (st_F t_3 25 x1.toNatClampNeg) = 1 then b_X_X9_stirs__8_5_4_90 t_3 x5 z0 v_2 v_4 else if (st_F t_3 25 x1.toNatClampNeg) = 2 then b_X_X9_stirs__8_5_4_114 t_3 x1 x5 z0 v_2 v_4 else b_X_X9_stirs__8_5_4_167 t_3 x5 z0)))) = some (r, u) := hf
  refine lv_istore (lv' := [(6, .int z0), (0, .ref (a 8)), (1, .int x1), (2, .ref (a 5)), (3, .ref (a 4)), (4, .int x4), (5, .int x5)]) hx hb dX9_stirs_38 hl (by decide) rfl (fun ls hl => ?_)
  refine lv_aload_n hx hb dX9_stirs_40 rfl (lv_at hl 3 rfl) ?_
  refine lv_iload hx hb dX9_stirs_41 (lv_at hl 5 rfl) ?_
  obtain ⟨v_2, t_1, g_43, hf⟩ := fb_bs hf
  refine fw_V1 (As := [.int x4]) (rest := []) (n := 1) (q0 := 5) C (c_X_X0_numberOf__5 (l := l) (D := D) (ca := ca) (a := a) g_43) kw_641 kw_530 kw_96 kw_532 kw_531 hP hS hl (heX_5 ca a t) rfl rfl rfl (by decide) (by decide +kernel) ⟨Nat.le_of_ble_eq_true rfl, Nat.le_of_ble_eq_true rfl⟩ rfl rfl (Nat.le_of_ble_eq_true rfl) dX9_stirs_43 (fun H locs hP hS => ?_)
  refine W.eq (g2 := F0 m 46 ls [.long v_2]) rfl ?_
  refine lv_lstore (lv' := [(7, .long v_2), (6, .int z0), (0, .ref (a 8)), (1, .int x1), (2, .ref (a 5)), (3, .ref (a 4)), (4, .int x4), (5, .int x5)]) hx hb dX9_stirs_46 hl (by decide) rfl (fun ls hl => ?_)
  refine lv_aload_n hx hb dX9_stirs_48 rfl (lv_at hl 5 rfl) ?_
  refine lv_iload hx hb dX9_stirs_49 (lv_at hl 6 rfl) ?_
  obtain ⟨v_4, t_3, g_51, hf⟩ := fb_bs hf
  refine fw_V1 (As := [.int x4]) (rest := []) (n := 1) (q0 := 4) C (c_X_X0_numberOf__4 (l := l) (D := D) (ca := ca) (a := a) g_51) kw_641 kw_530 kw_96 kw_532 kw_531 hP hS hl (heX_4 ca a t_1) rfl rfl rfl (by decide) (by decide +kernel) ⟨Nat.le_of_ble_eq_true rfl, Nat.le_of_ble_eq_true rfl⟩ rfl rfl (Nat.le_of_ble_eq_true rfl) dX9_stirs_51 (fun H locs hP hS => ?_)
  refine W.eq (g2 := F0 m 54 ls [.long v_4]) rfl ?_
  refine lv_lstore (lv' := [(9, .long v_4), (7, .long v_2), (6, .int z0), (0, .ref (a 8)), (1, .int x1), (2, .ref (a 5)), (3, .ref (a 4)), (4, .int x4), (5, .int x5)]) hx hb dX9_stirs_54 hl (by decide) rfl (fun ls hl => ?_)
  refine lv_aload_n hx hb dX9_stirs_56 rfl (lv_at hl 3 rfl) ?_
  refine va_get (D := D) (ci := 9) (v := .ref (a 50)) (C := RX9) (T := TX9) (N := 12) hx hb hts inX9 hown hK hP 8 (heX_8 ca a t_3) rfl 1 (by decide) (hts _ kw_277) (fun _ h9 => h9) rfl dX9_stirs_57 ?_
  refine lv_iload_n hx hb dX9_stirs_60 rfl (lv_at hl 4 rfl) ?_
  obtain ⟨h_61, hf⟩ := fb_if hf
  refine va_iald hx hb hK hP 50 0 (haX_50 ca a t_3) rfl h_61 dX9_stirs_61 ?_
  by_cases h_62_0 : (st_F t_3 25 x1.toNatClampNeg) = 0
  · have hf := fb_t h_62_0 hf
    refine lv_tableIn (tgt := 88) hx hb dX9_stirs_62 (by rw [h_62_0]; decide) (by rw [h_62_0]; decide) (by rw [h_62_0]; rfl) (by decide) ?_
    exact w_X_X9_stirs__8_5_4_88 C hr hf hP hS (lv_sub hl [] rfl)
  have hf := fb_f h_62_0 hf
  by_cases h_62_1 : (st_F t_3 25 x1.toNatClampNeg) = 1
  · have hf := fb_t h_62_1 hf
    refine lv_tableIn (tgt := 90) hx hb dX9_stirs_62 (by rw [h_62_1]; decide) (by rw [h_62_1]; decide) (by rw [h_62_1]; rfl) (by decide) ?_
    exact w_X_X9_stirs__8_5_4_90 C hr hf hP hS (lv_sub hl [8, 2, 1, 0] rfl)
  have hf := fb_f h_62_1 hf
  by_cases h_62_2 : (st_F t_3 25 x1.toNatClampNeg) = 2
  · have hf := fb_t h_62_2 hf
    refine lv_tableIn (tgt := 114) hx hb dX9_stirs_62 (by rw [h_62_2]; decide) (by rw [h_62_2]; decide) (by rw [h_62_2]; rfl) (by decide) ?_
    exact w_X_X9_stirs__8_5_4_114 C hr hf hP hS (lv_sub hl [3, 4, 8, 2, 1, 0] rfl)
  have hf := fb_f h_62_2 hf
  refine lv_tableOut (tgt := 167) hx hb dX9_stirs_62 (by have q0 := lv_neT h_62_0 (a := 0) (by decide); have q1 := lv_neT h_62_1 (a := 1) (by decide); have q2 := lv_neT h_62_2 (a := 2) (by decide); omega) (by decide) ?_
  exact w_X_X9_stirs__8_5_4_167 C hr hf hP hS (lv_sub hl [8, 2] rfl)
set_option maxRecDepth 20000 in
theorem w_X_X9_stirs__8_5_4_37 {p : Program} {l : Launch} {e : Env} {s : State} {m : MethodId} {args : Array Value} {below : List Frame} {meth : Method} {c : Code} {A : Nat → Prop} {Q : State → Prop} {D : va_G} {ca : Nat → ClassId} {a : Nat → Nat} {u : fw_S} {r : Int32}  (C : CX (WX ca a) D (tyv ca) p s m args c A prog_11_method_8_code 11 RX9) (hr : (r = 0 ∨ r = 1) → RX (WX ca a) D p l e rm_X_X9_stirs__8_5_4 s m args below meth c A prog_11_method_8_code Q .ireturn [.int r] u) {t : fw_S} {x1 : Int32} {x4 : Int32} {x5 : Int32} {H : Heap} {locs : List Loc} {ls : Array Slot} (hf : b_X_X9_stirs__8_5_4_37  t x1 x4 x5 = some (r, u)) (hP : va_P D classes (WX ca a t) H) (hS : va_S A s.heap H locs) (hl : lv_has ls 11 [(0, .ref (a 8)), (1, .int x1), (2, .ref (a 5)), (3, .ref (a 4)), (4, .int x4), (5, .int x5)]) : W p l e rm_X_X9_stirs__8_5_4 s m args below meth c H locs 0 0 Q (F0 m 37 ls []) := by
  obtain ⟨hx, hb, hml, hown, hts, hN, hK, hD, hA⟩ := id C
  have hf : (b_X_X9_stirs__8_5_4_38 t x1 x4 x5 ((0 : Int32))) = some (r, u) := hf
  refine lv_iconst (v := 0) hx hb dX9_stirs_37 (by decide) ?_
  exact w_X_X9_stirs__8_5_4_38 C hr hf hP hS (lv_sub hl [0, 1, 2, 3, 4, 5] rfl)
set_option maxRecDepth 20000 in
theorem w_X_X9_stirs__8_5_4_33 {p : Program} {l : Launch} {e : Env} {s : State} {m : MethodId} {args : Array Value} {below : List Frame} {meth : Method} {c : Code} {A : Nat → Prop} {Q : State → Prop} {D : va_G} {ca : Nat → ClassId} {a : Nat → Nat} {u : fw_S} {r : Int32}  (C : CX (WX ca a) D (tyv ca) p s m args c A prog_11_method_8_code 11 RX9) (hr : (r = 0 ∨ r = 1) → RX (WX ca a) D p l e rm_X_X9_stirs__8_5_4 s m args below meth c A prog_11_method_8_code Q .ireturn [.int r] u) {t : fw_S} {x1 : Int32} {x4 : Int32} {x5 : Int32} {H : Heap} {locs : List Loc} {ls : Array Slot} (hf : b_X_X9_stirs__8_5_4_33  t x1 x4 x5 = some (r, u)) (hP : va_P D classes (WX ca a t) H) (hS : va_S A s.heap H locs) (hl : lv_has ls 11 [(0, .ref (a 8)), (1, .int x1), (2, .ref (a 5)), (3, .ref (a 4)), (4, .int x4), (5, .int x5)]) : W p l e rm_X_X9_stirs__8_5_4 s m args below meth c H locs 0 0 Q (F0 m 33 ls []) := by
  obtain ⟨hx, hb, hml, hown, hts, hN, hK, hD, hA⟩ := id C
  have hf : (b_X_X9_stirs__8_5_4_38 t x1 x4 x5 ((1 : Int32))) = some (r, u) := hf
  refine lv_iconst (v := 1) hx hb dX9_stirs_33 (by decide) ?_
  refine lv_goto (tgt := 38) hx hb dX9_stirs_34 (by decide) ?_
  exact w_X_X9_stirs__8_5_4_38 C hr hf hP hS (lv_sub hl [0, 1, 2, 3, 4, 5] rfl)
set_option maxRecDepth 20000 in
theorem w_X_X9_stirs__8_5_4_22 {p : Program} {l : Launch} {e : Env} {s : State} {m : MethodId} {args : Array Value} {below : List Frame} {meth : Method} {c : Code} {A : Nat → Prop} {Q : State → Prop} {D : va_G} {ca : Nat → ClassId} {a : Nat → Nat} {u : fw_S} {r : Int32}  (C : CX (WX ca a) D (tyv ca) p s m args c A prog_11_method_8_code 11 RX9) (hr : (r = 0 ∨ r = 1) → RX (WX ca a) D p l e rm_X_X9_stirs__8_5_4 s m args below meth c A prog_11_method_8_code Q .ireturn [.int r] u) {t : fw_S} {x1 : Int32} {x4 : Int32} {z0 : Int32} {H : Heap} {locs : List Loc} {ls : Array Slot} (hf : b_X_X9_stirs__8_5_4_22  t x1 x4 z0 = some (r, u)) (hP : va_P D classes (WX ca a t) H) (hS : va_S A s.heap H locs) (hl : lv_has ls 11 [(0, .ref (a 8)), (1, .int x1), (2, .ref (a 5)), (3, .ref (a 4)), (4, .int x4)]) : W p l e rm_X_X9_stirs__8_5_4 s m args below meth c H locs 0 0 Q (F0 m 22 ls [.int z0]) := by
  obtain ⟨hx, hb, hml, hown, hts, hN, hK, hD, hA⟩ := id C
  have hf : (fb_b (f_X_X0_errorOf__4 t x4) fun v_2 t_1 => (if v_2 = 0 then b_X_X9_stirs__8_5_4_33 t_1 x1 x4 z0 else b_X_X9_stirs__8_5_4_37 t_1 x1 x4 z0)) = some (r, u) := hf
  refine lv_istore (lv' := [(5, .int z0), (0, .ref (a 8)), (1, .int x1), (2, .ref (a 5)), (3, .ref (a 4)), (4, .int x4)]) hx hb dX9_stirs_22 hl (by decide) rfl (fun ls hl => ?_)
  refine lv_aload_n hx hb dX9_stirs_24 rfl (lv_at hl 4 rfl) ?_
  refine lv_iload hx hb dX9_stirs_25 (lv_at hl 5 rfl) ?_
  obtain ⟨v_2, t_1, g_27, hf⟩ := fb_bs hf
  refine fw_V1 (As := [.int x4]) (rest := []) (n := 1) (q0 := 4) C (c_X_X0_errorOf__4 (l := l) (D := D) (ca := ca) (a := a) g_27) kw_640 kw_534 kw_96 kw_536 kw_535 hP hS hl (heX_4 ca a t) rfl rfl rfl (by decide) (by decide +kernel) ⟨Nat.le_of_ble_eq_true rfl, Nat.le_of_ble_eq_true rfl⟩ rfl rfl (Nat.le_of_ble_eq_true rfl) dX9_stirs_27 (fun H locs hP hS => ?_)
  refine W.eq (g2 := F0 m 30 ls [.int v_2]) rfl ?_
  refine lv_if_ne (tgt := 37) hx hb dX9_stirs_30 (by decide) (fun h_30 => ?_) (fun h_30 => ?_)
  · have hf := fb_f h_30 hf
    exact w_X_X9_stirs__8_5_4_37 C hr hf hP hS (lv_sub hl [1, 2, 3, 4, 5, 0] rfl)
  · have hf := fb_t h_30 hf
    exact w_X_X9_stirs__8_5_4_33 C hr hf hP hS (lv_sub hl [1, 2, 3, 4, 5, 0] rfl)
set_option maxRecDepth 20000 in
theorem w_X_X9_stirs__8_5_4_21 {p : Program} {l : Launch} {e : Env} {s : State} {m : MethodId} {args : Array Value} {below : List Frame} {meth : Method} {c : Code} {A : Nat → Prop} {Q : State → Prop} {D : va_G} {ca : Nat → ClassId} {a : Nat → Nat} {u : fw_S} {r : Int32}  (C : CX (WX ca a) D (tyv ca) p s m args c A prog_11_method_8_code 11 RX9) (hr : (r = 0 ∨ r = 1) → RX (WX ca a) D p l e rm_X_X9_stirs__8_5_4 s m args below meth c A prog_11_method_8_code Q .ireturn [.int r] u) {t : fw_S} {x1 : Int32} {x4 : Int32} {H : Heap} {locs : List Loc} {ls : Array Slot} (hf : b_X_X9_stirs__8_5_4_21  t x1 x4 = some (r, u)) (hP : va_P D classes (WX ca a t) H) (hS : va_S A s.heap H locs) (hl : lv_has ls 11 [(0, .ref (a 8)), (1, .int x1), (2, .ref (a 5)), (3, .ref (a 4)), (4, .int x4)]) : W p l e rm_X_X9_stirs__8_5_4 s m args below meth c H locs 0 0 Q (F0 m 21 ls []) := by
  obtain ⟨hx, hb, hml, hown, hts, hN, hK, hD, hA⟩ := id C
  have hf : (b_X_X9_stirs__8_5_4_22 t x1 x4 ((0 : Int32))) = some (r, u) := hf
  refine lv_iconst (v := 0) hx hb dX9_stirs_21 (by decide) ?_
  exact w_X_X9_stirs__8_5_4_22 C hr hf hP hS (lv_sub hl [0, 1, 2, 3, 4] rfl)
set_option maxRecDepth 20000 in
theorem w_X_X9_stirs__8_5_4_17 {p : Program} {l : Launch} {e : Env} {s : State} {m : MethodId} {args : Array Value} {below : List Frame} {meth : Method} {c : Code} {A : Nat → Prop} {Q : State → Prop} {D : va_G} {ca : Nat → ClassId} {a : Nat → Nat} {u : fw_S} {r : Int32}  (C : CX (WX ca a) D (tyv ca) p s m args c A prog_11_method_8_code 11 RX9) (hr : (r = 0 ∨ r = 1) → RX (WX ca a) D p l e rm_X_X9_stirs__8_5_4 s m args below meth c A prog_11_method_8_code Q .ireturn [.int r] u) {t : fw_S} {x1 : Int32} {x4 : Int32} {H : Heap} {locs : List Loc} {ls : Array Slot} (hf : b_X_X9_stirs__8_5_4_17  t x1 x4 = some (r, u)) (hP : va_P D classes (WX ca a t) H) (hS : va_S A s.heap H locs) (hl : lv_has ls 11 [(0, .ref (a 8)), (1, .int x1), (2, .ref (a 5)), (3, .ref (a 4)), (4, .int x4)]) : W p l e rm_X_X9_stirs__8_5_4 s m args below meth c H locs 0 0 Q (F0 m 17 ls []) := by
  obtain ⟨hx, hb, hml, hown, hts, hN, hK, hD, hA⟩ := id C
  have hf : (b_X_X9_stirs__8_5_4_22 t x1 x4 ((1 : Int32))) = some (r, u) := hf
  refine lv_iconst (v := 1) hx hb dX9_stirs_17 (by decide) ?_
  refine lv_goto (tgt := 22) hx hb dX9_stirs_18 (by decide) ?_
  exact w_X_X9_stirs__8_5_4_22 C hr hf hP hS (lv_sub hl [0, 1, 2, 3, 4] rfl)
set_option maxRecDepth 20000 in
theorem w_X_X9_stirs__8_5_4_0 {p : Program} {l : Launch} {e : Env} {s : State} {m : MethodId} {args : Array Value} {below : List Frame} {meth : Method} {c : Code} {A : Nat → Prop} {Q : State → Prop} {D : va_G} {ca : Nat → ClassId} {a : Nat → Nat} {u : fw_S} {r : Int32}  (C : CX (WX ca a) D (tyv ca) p s m args c A prog_11_method_8_code 11 RX9) (hr : (r = 0 ∨ r = 1) → RX (WX ca a) D p l e rm_X_X9_stirs__8_5_4 s m args below meth c A prog_11_method_8_code Q .ireturn [.int r] u) {t : fw_S} {x1 : Int32} {H : Heap} {locs : List Loc} {ls : Array Slot} (hf : b_X_X9_stirs__8_5_4_0  t x1 = some (r, u)) (hP : va_P D classes (WX ca a t) H) (hS : va_S A s.heap H locs) (hl : lv_has ls 11 [(0, .ref (a 8)), (1, .int x1), (2, .ref (a 5)), (3, .ref (a 4))]) : W p l e rm_X_X9_stirs__8_5_4 s m args below meth c H locs 0 0 Q (F0 m 0 ls []) := by
  obtain ⟨hx, hb, hml, hown, hts, hN, hK, hD, hA⟩ := id C
  have hf : (fb_g (¬ (x1 < 0 ∨ 8 ≤ x1.toNatClampNeg)) (fb_b (f_X_X0_errorOf__5 t (st_F t 24 x1.toNatClampNeg)) fun v_2 t_1 => (if v_2 = 0 then b_X_X9_stirs__8_5_4_17 t_1 x1 (st_F t 24 x1.toNatClampNeg) else b_X_X9_stirs__8_5_4_21 t_1 x1 (st_F t 24 x1.toNatClampNeg)))) = some (r, u) := hf
  refine lv_aload_n hx hb dX9_stirs_0 rfl (lv_at hl 0 rfl) ?_
  refine va_get (D := D) (ci := 9) (v := .ref (a 49)) (C := RX9) (T := TX9) (N := 12) hx hb hts inX9 hown hK hP 8 (heX_8 ca a t) rfl 0 (by decide) (hts _ kw_276) (fun _ h9 => h9) rfl dX9_stirs_1 ?_
  refine lv_iload_n hx hb dX9_stirs_4 rfl (lv_at hl 1 rfl) ?_
  obtain ⟨h_5, hf⟩ := fb_if hf
  refine va_iald hx hb hK hP 49 0 (haX_49 ca a t) rfl h_5 dX9_stirs_5 ?_
  refine lv_istore (lv' := [(4, .int (st_F t 24 x1.toNatClampNeg)), (0, .ref (a 8)), (1, .int x1), (2, .ref (a 5)), (3, .ref (a 4))]) hx hb dX9_stirs_6 hl (by decide) rfl (fun ls hl => ?_)
  refine lv_aload_n hx hb dX9_stirs_8 rfl (lv_at hl 3 rfl) ?_
  refine lv_iload hx hb dX9_stirs_9 (lv_at hl 0 rfl) ?_
  obtain ⟨v_2, t_1, g_11, hf⟩ := fb_bs hf
  refine fw_V1 (As := [.int (st_F t 24 x1.toNatClampNeg)]) (rest := []) (n := 1) (q0 := 5) C (c_X_X0_errorOf__5 (l := l) (D := D) (ca := ca) (a := a) g_11) kw_640 kw_534 kw_96 kw_536 kw_535 hP hS hl (heX_5 ca a t) rfl rfl rfl (by decide) (by decide +kernel) ⟨Nat.le_of_ble_eq_true rfl, Nat.le_of_ble_eq_true rfl⟩ rfl rfl (Nat.le_of_ble_eq_true rfl) dX9_stirs_11 (fun H locs hP hS => ?_)
  refine W.eq (g2 := F0 m 14 ls [.int v_2]) rfl ?_
  refine lv_if_ne (tgt := 21) hx hb dX9_stirs_14 (by decide) (fun h_14 => ?_) (fun h_14 => ?_)
  · have hf := fb_f h_14 hf
    exact w_X_X9_stirs__8_5_4_21 C hr hf hP hS (lv_sub hl [1, 2, 3, 4, 0] rfl)
  · have hf := fb_t h_14 hf
    exact w_X_X9_stirs__8_5_4_17 C hr hf hP hS (lv_sub hl [1, 2, 3, 4, 0] rfl)
set_option maxRecDepth 20000 in
theorem c_X_X9_stirs__8_5_4 {l : Launch} {D : va_G} {ca : Nat → ClassId} {a : Nat → Nat} {t : fw_S} {x1 : Int32} {u : fw_S} {r : Int32} (hf : f_X_X9_stirs__8_5_4 t x1 = some (r, u)) : MC (WX ca a) D (tyv ca) l yX9_stirs (.code yX9_stirs prog_11_method_8_code 11 (some .boolean) :: lw_gd) rm_X_X9_stirs__8_5_4 [.ref (a 8), .int x1, .ref (a 5), .ref (a 4)] (some (.int r)) t u := by
  refine fw_met (okX ca a) (by decide +kernel) rfl rfl (Nat.le_of_ble_eq_true rfl) ?_
  intro p e s m args below meth c A Q ls C hr hk hP hS hl hQ
  exact w_X_X9_stirs__8_5_4_0 C (fun hz => fw_rz C hr hk hz hQ) hf hP hS (lv_sub hl [0, 1, 2, 3] rfl)
/-! ReactiveSheet.Cells.known(I)J ['x.engine.before'] -/
abbrev rm_X_X0_known__5 : Room := { frames := 2, cells := 0, slots := 0, locals := 42 }
def b_X_X0_known__5_19  (t : fw_S) (w0 : Int64) : Option (Int64 × fw_S) := some (w0, t)
def b_X_X0_known__5_16  (t : fw_S)  : Option (Int64 × fw_S) := b_X_X0_known__5_19 t ((-9223372036854775808 : Int64))
def b_X_X0_known__5_8  (t : fw_S) (x1 : Int32) : Option (Int64 × fw_S) := fb_b (f_X_X0_numberOf__5 t x1) fun v_2 t_1 => (b_X_X0_known__5_19 t_1 v_2)
def b_X_X0_known__5_0  (t : fw_S) (x1 : Int32) : Option (Int64 × fw_S) := fb_b (f_X_X0_errorOf__5 t x1) fun v_2 t_1 => (if v_2 = 0 then b_X_X0_known__5_8 t_1 x1 else b_X_X0_known__5_16 t_1)
def f_X_X0_known__5 (t : fw_S) (x1 : Int32) : Option (Int64 × fw_S) := b_X_X0_known__5_0 t x1
set_option maxRecDepth 20000 in
theorem w_X_X0_known__5_19 {p : Program} {l : Launch} {e : Env} {s : State} {m : MethodId} {args : Array Value} {below : List Frame} {meth : Method} {c : Code} {A : Nat → Prop} {Q : State → Prop} {D : va_G} {ca : Nat → ClassId} {a : Nat → Nat} {u : fw_S} {r : Int64}  (C : CX (WX ca a) D (tyv ca) p s m args c A prog_2_method_22_code 2 RX0) (hr : True → RX (WX ca a) D p l e rm_X_X0_known__5 s m args below meth c A prog_2_method_22_code Q .lreturn [.long r] u) {t : fw_S} {w0 : Int64} {H : Heap} {locs : List Loc} {ls : Array Slot} (hf : b_X_X0_known__5_19  t w0 = some (r, u)) (hP : va_P D classes (WX ca a t) H) (hS : va_S A s.heap H locs) (hl : lv_has ls 2 []) : W p l e rm_X_X0_known__5 s m args below meth c H locs 0 0 Q (F0 m 19 ls [.long w0]) := by
  obtain ⟨hx, hb, hml, hown, hts, hN, hK, hD, hA⟩ := id C
  have hf : (some (w0, t)) = some (r, u) := hf
  obtain ⟨e_19, e2_19⟩ := fb_e hf
  subst e_19; subst e2_19
  exact hr trivial _ _ _ _ hP hS dX0_known_19
set_option maxRecDepth 20000 in
theorem w_X_X0_known__5_16 {p : Program} {l : Launch} {e : Env} {s : State} {m : MethodId} {args : Array Value} {below : List Frame} {meth : Method} {c : Code} {A : Nat → Prop} {Q : State → Prop} {D : va_G} {ca : Nat → ClassId} {a : Nat → Nat} {u : fw_S} {r : Int64}  (C : CX (WX ca a) D (tyv ca) p s m args c A prog_2_method_22_code 2 RX0) (hr : True → RX (WX ca a) D p l e rm_X_X0_known__5 s m args below meth c A prog_2_method_22_code Q .lreturn [.long r] u) {t : fw_S}  {H : Heap} {locs : List Loc} {ls : Array Slot} (hf : b_X_X0_known__5_16  t  = some (r, u)) (hP : va_P D classes (WX ca a t) H) (hS : va_S A s.heap H locs) (hl : lv_has ls 2 []) : W p l e rm_X_X0_known__5 s m args below meth c H locs 0 0 Q (F0 m 16 ls []) := by
  obtain ⟨hx, hb, hml, hown, hts, hN, hK, hD, hA⟩ := id C
  have hf : (b_X_X0_known__5_19 t ((-9223372036854775808 : Int64))) = some (r, u) := hf
  refine lv_ldc2 (v := (-9223372036854775808)) hx hb hown (hts _ kw_652) dX0_known_16 ?_
  exact w_X_X0_known__5_19 C hr hf hP hS (lv_sub hl [] rfl)
set_option maxRecDepth 20000 in
theorem w_X_X0_known__5_8 {p : Program} {l : Launch} {e : Env} {s : State} {m : MethodId} {args : Array Value} {below : List Frame} {meth : Method} {c : Code} {A : Nat → Prop} {Q : State → Prop} {D : va_G} {ca : Nat → ClassId} {a : Nat → Nat} {u : fw_S} {r : Int64}  (C : CX (WX ca a) D (tyv ca) p s m args c A prog_2_method_22_code 2 RX0) (hr : True → RX (WX ca a) D p l e rm_X_X0_known__5 s m args below meth c A prog_2_method_22_code Q .lreturn [.long r] u) {t : fw_S} {x1 : Int32} {H : Heap} {locs : List Loc} {ls : Array Slot} (hf : b_X_X0_known__5_8  t x1 = some (r, u)) (hP : va_P D classes (WX ca a t) H) (hS : va_S A s.heap H locs) (hl : lv_has ls 2 [(0, .ref (a 5)), (1, .int x1)]) : W p l e rm_X_X0_known__5 s m args below meth c H locs 0 0 Q (F0 m 8 ls []) := by
  obtain ⟨hx, hb, hml, hown, hts, hN, hK, hD, hA⟩ := id C
  have hf : (fb_b (f_X_X0_numberOf__5 t x1) fun v_2 t_1 => (b_X_X0_known__5_19 t_1 v_2)) = some (r, u) := hf
  refine lv_aload_n hx hb dX0_known_8 rfl (lv_at hl 0 rfl) ?_
  refine lv_iload_n hx hb dX0_known_9 rfl (lv_at hl 1 rfl) ?_
  obtain ⟨v_2, t_1, g_10, hf⟩ := fb_bs hf
  refine fw_V1 (As := [.int x1]) (rest := []) (n := 1) (q0 := 5) C (c_X_X0_numberOf__5 (l := l) (D := D) (ca := ca) (a := a) g_10) kw_651 kw_530 kw_96 kw_532 kw_531 hP hS hl (heX_5 ca a t) rfl rfl rfl (by decide) (by decide +kernel) ⟨Nat.le_of_ble_eq_true rfl, Nat.le_of_ble_eq_true rfl⟩ rfl rfl (Nat.le_of_ble_eq_true rfl) dX0_known_10 (fun H locs hP hS => ?_)
  refine W.eq (g2 := F0 m 13 ls [.long v_2]) rfl ?_
  refine lv_goto (tgt := 19) hx hb dX0_known_13 (by decide) ?_
  exact w_X_X0_known__5_19 C hr hf hP hS (lv_sub hl [] rfl)
set_option maxRecDepth 20000 in
theorem w_X_X0_known__5_0 {p : Program} {l : Launch} {e : Env} {s : State} {m : MethodId} {args : Array Value} {below : List Frame} {meth : Method} {c : Code} {A : Nat → Prop} {Q : State → Prop} {D : va_G} {ca : Nat → ClassId} {a : Nat → Nat} {u : fw_S} {r : Int64}  (C : CX (WX ca a) D (tyv ca) p s m args c A prog_2_method_22_code 2 RX0) (hr : True → RX (WX ca a) D p l e rm_X_X0_known__5 s m args below meth c A prog_2_method_22_code Q .lreturn [.long r] u) {t : fw_S} {x1 : Int32} {H : Heap} {locs : List Loc} {ls : Array Slot} (hf : b_X_X0_known__5_0  t x1 = some (r, u)) (hP : va_P D classes (WX ca a t) H) (hS : va_S A s.heap H locs) (hl : lv_has ls 2 [(0, .ref (a 5)), (1, .int x1)]) : W p l e rm_X_X0_known__5 s m args below meth c H locs 0 0 Q (F0 m 0 ls []) := by
  obtain ⟨hx, hb, hml, hown, hts, hN, hK, hD, hA⟩ := id C
  have hf : (fb_b (f_X_X0_errorOf__5 t x1) fun v_2 t_1 => (if v_2 = 0 then b_X_X0_known__5_8 t_1 x1 else b_X_X0_known__5_16 t_1)) = some (r, u) := hf
  refine lv_aload_n hx hb dX0_known_0 rfl (lv_at hl 0 rfl) ?_
  refine lv_iload_n hx hb dX0_known_1 rfl (lv_at hl 1 rfl) ?_
  obtain ⟨v_2, t_1, g_2, hf⟩ := fb_bs hf
  refine fw_V1 (As := [.int x1]) (rest := []) (n := 1) (q0 := 5) C (c_X_X0_errorOf__5 (l := l) (D := D) (ca := ca) (a := a) g_2) kw_650 kw_534 kw_96 kw_536 kw_535 hP hS hl (heX_5 ca a t) rfl rfl rfl (by decide) (by decide +kernel) ⟨Nat.le_of_ble_eq_true rfl, Nat.le_of_ble_eq_true rfl⟩ rfl rfl (Nat.le_of_ble_eq_true rfl) dX0_known_2 (fun H locs hP hS => ?_)
  refine W.eq (g2 := F0 m 5 ls [.int v_2]) rfl ?_
  refine lv_if_ne (tgt := 16) hx hb dX0_known_5 (by decide) (fun h_5 => ?_) (fun h_5 => ?_)
  · have hf := fb_f h_5 hf
    exact w_X_X0_known__5_16 C hr hf hP hS (lv_sub hl [] rfl)
  · have hf := fb_t h_5 hf
    exact w_X_X0_known__5_8 C hr hf hP hS (lv_sub hl [0, 1] rfl)
set_option maxRecDepth 20000 in
theorem c_X_X0_known__5 {l : Launch} {D : va_G} {ca : Nat → ClassId} {a : Nat → Nat} {t : fw_S} {x1 : Int32} {u : fw_S} {r : Int64} (hf : f_X_X0_known__5 t x1 = some (r, u)) : MC (WX ca a) D (tyv ca) l yX0_known (.code yX0_known prog_2_method_22_code 2 (some .long) :: lw_gd) rm_X_X0_known__5 [.ref (a 5), .int x1] (some (.long r)) t u := by
  refine fw_met (okX ca a) (by decide +kernel) rfl rfl (Nat.le_of_ble_eq_true rfl) ?_
  intro p e s m args below meth c A Q ls C hr hk hP hS hl hQ
  exact w_X_X0_known__5_0 C (fun _ => fw_rl C hr hk hQ) hf hP hS (lv_sub hl [0, 1] rfl)
/-! ReactiveSheet.Cells.known(I)J ['x.engine.now'] -/
abbrev rm_X_X0_known__4 : Room := { frames := 2, cells := 0, slots := 0, locals := 42 }
def b_X_X0_known__4_19  (t : fw_S) (w0 : Int64) : Option (Int64 × fw_S) := some (w0, t)
def b_X_X0_known__4_16  (t : fw_S)  : Option (Int64 × fw_S) := b_X_X0_known__4_19 t ((-9223372036854775808 : Int64))
def b_X_X0_known__4_8  (t : fw_S) (x1 : Int32) : Option (Int64 × fw_S) := fb_b (f_X_X0_numberOf__4 t x1) fun v_2 t_1 => (b_X_X0_known__4_19 t_1 v_2)
def b_X_X0_known__4_0  (t : fw_S) (x1 : Int32) : Option (Int64 × fw_S) := fb_b (f_X_X0_errorOf__4 t x1) fun v_2 t_1 => (if v_2 = 0 then b_X_X0_known__4_8 t_1 x1 else b_X_X0_known__4_16 t_1)
def f_X_X0_known__4 (t : fw_S) (x1 : Int32) : Option (Int64 × fw_S) := b_X_X0_known__4_0 t x1
set_option maxRecDepth 20000 in
theorem w_X_X0_known__4_19 {p : Program} {l : Launch} {e : Env} {s : State} {m : MethodId} {args : Array Value} {below : List Frame} {meth : Method} {c : Code} {A : Nat → Prop} {Q : State → Prop} {D : va_G} {ca : Nat → ClassId} {a : Nat → Nat} {u : fw_S} {r : Int64}  (C : CX (WX ca a) D (tyv ca) p s m args c A prog_2_method_22_code 2 RX0) (hr : True → RX (WX ca a) D p l e rm_X_X0_known__4 s m args below meth c A prog_2_method_22_code Q .lreturn [.long r] u) {t : fw_S} {w0 : Int64} {H : Heap} {locs : List Loc} {ls : Array Slot} (hf : b_X_X0_known__4_19  t w0 = some (r, u)) (hP : va_P D classes (WX ca a t) H) (hS : va_S A s.heap H locs) (hl : lv_has ls 2 []) : W p l e rm_X_X0_known__4 s m args below meth c H locs 0 0 Q (F0 m 19 ls [.long w0]) := by
  obtain ⟨hx, hb, hml, hown, hts, hN, hK, hD, hA⟩ := id C
  have hf : (some (w0, t)) = some (r, u) := hf
  obtain ⟨e_19, e2_19⟩ := fb_e hf
  subst e_19; subst e2_19
  exact hr trivial _ _ _ _ hP hS dX0_known_19
set_option maxRecDepth 20000 in
theorem w_X_X0_known__4_16 {p : Program} {l : Launch} {e : Env} {s : State} {m : MethodId} {args : Array Value} {below : List Frame} {meth : Method} {c : Code} {A : Nat → Prop} {Q : State → Prop} {D : va_G} {ca : Nat → ClassId} {a : Nat → Nat} {u : fw_S} {r : Int64}  (C : CX (WX ca a) D (tyv ca) p s m args c A prog_2_method_22_code 2 RX0) (hr : True → RX (WX ca a) D p l e rm_X_X0_known__4 s m args below meth c A prog_2_method_22_code Q .lreturn [.long r] u) {t : fw_S}  {H : Heap} {locs : List Loc} {ls : Array Slot} (hf : b_X_X0_known__4_16  t  = some (r, u)) (hP : va_P D classes (WX ca a t) H) (hS : va_S A s.heap H locs) (hl : lv_has ls 2 []) : W p l e rm_X_X0_known__4 s m args below meth c H locs 0 0 Q (F0 m 16 ls []) := by
  obtain ⟨hx, hb, hml, hown, hts, hN, hK, hD, hA⟩ := id C
  have hf : (b_X_X0_known__4_19 t ((-9223372036854775808 : Int64))) = some (r, u) := hf
  refine lv_ldc2 (v := (-9223372036854775808)) hx hb hown (hts _ kw_652) dX0_known_16 ?_
  exact w_X_X0_known__4_19 C hr hf hP hS (lv_sub hl [] rfl)
set_option maxRecDepth 20000 in
theorem w_X_X0_known__4_8 {p : Program} {l : Launch} {e : Env} {s : State} {m : MethodId} {args : Array Value} {below : List Frame} {meth : Method} {c : Code} {A : Nat → Prop} {Q : State → Prop} {D : va_G} {ca : Nat → ClassId} {a : Nat → Nat} {u : fw_S} {r : Int64}  (C : CX (WX ca a) D (tyv ca) p s m args c A prog_2_method_22_code 2 RX0) (hr : True → RX (WX ca a) D p l e rm_X_X0_known__4 s m args below meth c A prog_2_method_22_code Q .lreturn [.long r] u) {t : fw_S} {x1 : Int32} {H : Heap} {locs : List Loc} {ls : Array Slot} (hf : b_X_X0_known__4_8  t x1 = some (r, u)) (hP : va_P D classes (WX ca a t) H) (hS : va_S A s.heap H locs) (hl : lv_has ls 2 [(0, .ref (a 4)), (1, .int x1)]) : W p l e rm_X_X0_known__4 s m args below meth c H locs 0 0 Q (F0 m 8 ls []) := by
  obtain ⟨hx, hb, hml, hown, hts, hN, hK, hD, hA⟩ := id C
  have hf : (fb_b (f_X_X0_numberOf__4 t x1) fun v_2 t_1 => (b_X_X0_known__4_19 t_1 v_2)) = some (r, u) := hf
  refine lv_aload_n hx hb dX0_known_8 rfl (lv_at hl 0 rfl) ?_
  refine lv_iload_n hx hb dX0_known_9 rfl (lv_at hl 1 rfl) ?_
  obtain ⟨v_2, t_1, g_10, hf⟩ := fb_bs hf
  refine fw_V1 (As := [.int x1]) (rest := []) (n := 1) (q0 := 4) C (c_X_X0_numberOf__4 (l := l) (D := D) (ca := ca) (a := a) g_10) kw_651 kw_530 kw_96 kw_532 kw_531 hP hS hl (heX_4 ca a t) rfl rfl rfl (by decide) (by decide +kernel) ⟨Nat.le_of_ble_eq_true rfl, Nat.le_of_ble_eq_true rfl⟩ rfl rfl (Nat.le_of_ble_eq_true rfl) dX0_known_10 (fun H locs hP hS => ?_)
  refine W.eq (g2 := F0 m 13 ls [.long v_2]) rfl ?_
  refine lv_goto (tgt := 19) hx hb dX0_known_13 (by decide) ?_
  exact w_X_X0_known__4_19 C hr hf hP hS (lv_sub hl [] rfl)
set_option maxRecDepth 20000 in
theorem w_X_X0_known__4_0 {p : Program} {l : Launch} {e : Env} {s : State} {m : MethodId} {args : Array Value} {below : List Frame} {meth : Method} {c : Code} {A : Nat → Prop} {Q : State → Prop} {D : va_G} {ca : Nat → ClassId} {a : Nat → Nat} {u : fw_S} {r : Int64}  (C : CX (WX ca a) D (tyv ca) p s m args c A prog_2_method_22_code 2 RX0) (hr : True → RX (WX ca a) D p l e rm_X_X0_known__4 s m args below meth c A prog_2_method_22_code Q .lreturn [.long r] u) {t : fw_S} {x1 : Int32} {H : Heap} {locs : List Loc} {ls : Array Slot} (hf : b_X_X0_known__4_0  t x1 = some (r, u)) (hP : va_P D classes (WX ca a t) H) (hS : va_S A s.heap H locs) (hl : lv_has ls 2 [(0, .ref (a 4)), (1, .int x1)]) : W p l e rm_X_X0_known__4 s m args below meth c H locs 0 0 Q (F0 m 0 ls []) := by
  obtain ⟨hx, hb, hml, hown, hts, hN, hK, hD, hA⟩ := id C
  have hf : (fb_b (f_X_X0_errorOf__4 t x1) fun v_2 t_1 => (if v_2 = 0 then b_X_X0_known__4_8 t_1 x1 else b_X_X0_known__4_16 t_1)) = some (r, u) := hf
  refine lv_aload_n hx hb dX0_known_0 rfl (lv_at hl 0 rfl) ?_
  refine lv_iload_n hx hb dX0_known_1 rfl (lv_at hl 1 rfl) ?_
  obtain ⟨v_2, t_1, g_2, hf⟩ := fb_bs hf
  refine fw_V1 (As := [.int x1]) (rest := []) (n := 1) (q0 := 4) C (c_X_X0_errorOf__4 (l := l) (D := D) (ca := ca) (a := a) g_2) kw_650 kw_534 kw_96 kw_536 kw_535 hP hS hl (heX_4 ca a t) rfl rfl rfl (by decide) (by decide +kernel) ⟨Nat.le_of_ble_eq_true rfl, Nat.le_of_ble_eq_true rfl⟩ rfl rfl (Nat.le_of_ble_eq_true rfl) dX0_known_2 (fun H locs hP hS => ?_)
  refine W.eq (g2 := F0 m 5 ls [.int v_2]) rfl ?_
  refine lv_if_ne (tgt := 16) hx hb dX0_known_5 (by decide) (fun h_5 => ?_) (fun h_5 => ?_)
  · have hf := fb_f h_5 hf
    exact w_X_X0_known__4_16 C hr hf hP hS (lv_sub hl [] rfl)
  · have hf := fb_t h_5 hf
    exact w_X_X0_known__4_8 C hr hf hP hS (lv_sub hl [0, 1] rfl)
set_option maxRecDepth 20000 in
theorem c_X_X0_known__4 {l : Launch} {D : va_G} {ca : Nat → ClassId} {a : Nat → Nat} {t : fw_S} {x1 : Int32} {u : fw_S} {r : Int64} (hf : f_X_X0_known__4 t x1 = some (r, u)) : MC (WX ca a) D (tyv ca) l yX0_known (.code yX0_known prog_2_method_22_code 2 (some .long) :: lw_gd) rm_X_X0_known__4 [.ref (a 4), .int x1] (some (.long r)) t u := by
  refine fw_met (okX ca a) (by decide +kernel) rfl rfl (Nat.le_of_ble_eq_true rfl) ?_
  intro p e s m args below meth c A Q ls C hr hk hP hS hl hQ
  exact w_X_X0_known__4_0 C (fun _ => fw_rl C hr hk hQ) hf hP hS (lv_sub hl [0, 1] rfl)
/-! ReactiveSheet.Watching.note(ILReactiveSheet.Cells;LReactiveSheet.Cells;)V ['x.watching', 'x.engine.before', 'x.engine.now'] -/
abbrev rm_X_X9_note__8_5_4 : Room := { frames := 3, cells := 0, slots := 0, locals := 63 }
def b_X_X9_note__8_5_4_67  (t : fw_S)  : Option fw_S := some t
def b_X_X9_note__8_5_4_68  (t : fw_S) (x1 : Int32) (x4 : Int32) : Option fw_S := fb_g (¬ (x1 < 0 ∨ 8 ≤ x1.toNatClampNeg)) (fb_g (¬ (x4 < 0 ∨ 60 ≤ x4.toNatClampNeg)) (fb_l (up_F t 26 (upd (st_F t 26) x4.toNatClampNeg x1)) fun t_1 => (fb_b (f_X_X0_errorOf__5 t_1 (st_F t 24 x1.toNatClampNeg)) fun v_3 t_2 => (fb_g (¬ (x4 < 0 ∨ 60 ≤ x4.toNatClampNeg)) (fb_l (up_F t_2 27 (upd (st_F t_2 27) x4.toNatClampNeg v_3)) fun t_4 => (fb_b (f_X_X0_errorOf__4 t_4 (st_F t 24 x1.toNatClampNeg)) fun v_6 t_5 => (fb_g (¬ (x4 < 0 ∨ 60 ≤ x4.toNatClampNeg)) (fb_l (up_F t_5 28 (upd (st_F t_5 28) x4.toNatClampNeg v_6)) fun t_7 => (fb_b (f_X_X0_known__5 t_7 (st_F t 24 x1.toNatClampNeg)) fun v_9 t_8 => (fb_g (¬ (x4 < 0 ∨ 60 ≤ x4.toNatClampNeg)) (fb_l (up_G t_8 8 (vp_updL (st_G t_8 8) x4.toNatClampNeg v_9)) fun t_10 => (fb_b (f_X_X0_known__4 t_10 (st_F t 24 x1.toNatClampNeg)) fun v_12 t_11 => (fb_g (¬ (x4 < 0 ∨ 60 ≤ x4.toNatClampNeg)) (fb_l (up_G t_11 9 (vp_updL (st_G t_11 9) x4.toNatClampNeg v_12)) fun t_13 => (some t_13)))))))))))))))
def b_X_X9_note__8_5_4_61  (t : fw_S) (x1 : Int32) (x4 : Int32) : Option fw_S := if x1 < ((8 : Int32)) then b_X_X9_note__8_5_4_68 t x1 x4 else b_X_X9_note__8_5_4_67 t
def b_X_X9_note__8_5_4_57  (t : fw_S) (x1 : Int32) (x4 : Int32) : Option fw_S := if x1 < 0 then b_X_X9_note__8_5_4_67 t else b_X_X9_note__8_5_4_61 t x1 x4
def b_X_X9_note__8_5_4_28  (t : fw_S) (x1 : Int32) : Option fw_S := if ((60 : Int32)) = 0 then none else (fb_l (up_I t 11 ((st_I t 11) + ((1 : Int32)))) fun t_1 => (if (((st_I t 10) + (st_I t 11)) - ((st_I t 10) + (st_I t 11)) / ((60 : Int32)) * ((60 : Int32))) < 0 then b_X_X9_note__8_5_4_67 t_1 else b_X_X9_note__8_5_4_57 t_1 x1 (((st_I t 10) + (st_I t 11)) - ((st_I t 10) + (st_I t 11)) / ((60 : Int32)) * ((60 : Int32)))))
def b_X_X9_note__8_5_4_9  (t : fw_S) (x1 : Int32) : Option fw_S := if ((60 : Int32)) = 0 then none else (fb_l (up_I t 10 (((st_I t 10) + ((1 : Int32))) - ((st_I t 10) + ((1 : Int32))) / ((60 : Int32)) * ((60 : Int32)))) fun t_1 => (fb_l (up_I t_1 11 ((59 : Int32))) fun t_2 => (b_X_X9_note__8_5_4_28 t_2 x1)))
def b_X_X9_note__8_5_4_0  (t : fw_S) (x1 : Int32) : Option fw_S := if (st_I t 11) < ((60 : Int32)) then b_X_X9_note__8_5_4_28 t x1 else b_X_X9_note__8_5_4_9 t x1
def f_X_X9_note__8_5_4 (t : fw_S) (x1 : Int32) : Option fw_S := b_X_X9_note__8_5_4_0 t x1
set_option maxRecDepth 20000 in
theorem w_X_X9_note__8_5_4_67 {p : Program} {l : Launch} {e : Env} {s : State} {m : MethodId} {args : Array Value} {below : List Frame} {meth : Method} {c : Code} {A : Nat → Prop} {Q : State → Prop} {D : va_G} {ca : Nat → ClassId} {a : Nat → Nat} {u : fw_S}  (C : CX (WX ca a) D (tyv ca) p s m args c A prog_11_method_9_code 6 RX9) (hr : True → RX (WX ca a) D p l e rm_X_X9_note__8_5_4 s m args below meth c A prog_11_method_9_code Q .return_ [] u) {t : fw_S}  {H : Heap} {locs : List Loc} {ls : Array Slot} (hf : b_X_X9_note__8_5_4_67  t  = some u) (hP : va_P D classes (WX ca a t) H) (hS : va_S A s.heap H locs) (hl : lv_has ls 6 []) : W p l e rm_X_X9_note__8_5_4 s m args below meth c H locs 0 0 Q (F0 m 67 ls []) := by
  obtain ⟨hx, hb, hml, hown, hts, hN, hK, hD, hA⟩ := id C
  have hf : (some t) = some u := hf
  have e_67 := fb_ev hf
  subst e_67
  exact hr trivial _ _ _ _ hP hS dX9_note_67
set_option maxRecDepth 20000 in
theorem w_X_X9_note__8_5_4_68 {p : Program} {l : Launch} {e : Env} {s : State} {m : MethodId} {args : Array Value} {below : List Frame} {meth : Method} {c : Code} {A : Nat → Prop} {Q : State → Prop} {D : va_G} {ca : Nat → ClassId} {a : Nat → Nat} {u : fw_S}  (C : CX (WX ca a) D (tyv ca) p s m args c A prog_11_method_9_code 6 RX9) (hr : True → RX (WX ca a) D p l e rm_X_X9_note__8_5_4 s m args below meth c A prog_11_method_9_code Q .return_ [] u) {t : fw_S} {x1 : Int32} {x4 : Int32} {H : Heap} {locs : List Loc} {ls : Array Slot} (hf : b_X_X9_note__8_5_4_68  t x1 x4 = some u) (hP : va_P D classes (WX ca a t) H) (hS : va_S A s.heap H locs) (hl : lv_has ls 6 [(0, .ref (a 8)), (1, .int x1), (2, .ref (a 5)), (3, .ref (a 4)), (4, .int x4)]) : W p l e rm_X_X9_note__8_5_4 s m args below meth c H locs 0 0 Q (F0 m 68 ls []) := by
  obtain ⟨hx, hb, hml, hown, hts, hN, hK, hD, hA⟩ := id C
  have hf : (fb_g (¬ (x1 < 0 ∨ 8 ≤ x1.toNatClampNeg)) (fb_g (¬ (x4 < 0 ∨ 60 ≤ x4.toNatClampNeg)) (fb_l (up_F t 26 (upd (st_F t 26) x4.toNatClampNeg x1)) fun t_1 => (fb_b (f_X_X0_errorOf__5 t_1 (st_F t 24 x1.toNatClampNeg)) fun v_3 t_2 => (fb_g (¬ (x4 < 0 ∨ 60 ≤ x4.toNatClampNeg)) (fb_l (up_F t_2 27 (upd (st_F t_2 27) x4.toNatClampNeg v_3)) fun t_4 => (fb_b (f_X_X0_errorOf__4 t_4 (st_F t 24 x1.toNatClampNeg)) fun v_6 t_5 => (fb_g (¬ (x4 < 0 ∨ 60 ≤ x4.toNatClampNeg)) (fb_l (up_F t_5 28 (upd (st_F t_5 28) x4.toNatClampNeg v_6)) fun t_7 => (fb_b (f_X_X0_known__5 t_7 (st_F t 24 x1.toNatClampNeg)) fun v_9 t_8 => (fb_g (¬ (x4 < 0 ∨ 60 ≤ x4.toNatClampNeg)) (fb_l (up_G t_8 8 (vp_updL (st_G t_8 8) x4.toNatClampNeg v_9)) fun t_10 => (fb_b (f_X_X0_known__4 t_10 (st_F t 24 x1.toNatClampNeg)) fun v_12 t_11 => (fb_g (¬ (x4 < 0 ∨ 60 ≤ x4.toNatClampNeg)) (fb_l (up_G t_11 9 (vp_updL (st_G t_11 9) x4.toNatClampNeg v_12)) fun t_13 => (some t_13)))))))))))))))) = some u := hf
  refine lv_aload_n hx hb dX9_note_68 rfl (lv_at hl 0 rfl) ?_
  refine va_get (D := D) (ci := 9) (v := .ref (a 49)) (C := RX9) (T := TX9) (N := 12) hx hb hts inX9 hown hK hP 8 (heX_8 ca a t) rfl 0 (by decide) (hts _ kw_276) (fun _ h9 => h9) rfl dX9_note_69 ?_
  refine lv_iload_n hx hb dX9_note_72 rfl (lv_at hl 1 rfl) ?_
  obtain ⟨h_73, hf⟩ := fb_if hf
  refine va_iald hx hb hK hP 49 0 (haX_49 ca a t) rfl h_73 dX9_note_73 ?_
  refine lv_istore (lv' := [(5, .int (st_F t 24 x1.toNatClampNeg)), (0, .ref (a 8)), (1, .int x1), (2, .ref (a 5)), (3, .ref (a 4)), (4, .int x4)]) hx hb dX9_note_74 hl (by decide) rfl (fun ls hl => ?_)
  refine lv_aload_n hx hb dX9_note_76 rfl (lv_at hl 1 rfl) ?_
  refine va_get (D := D) (ci := 9) (v := .ref (a 52)) (C := RX9) (T := TX9) (N := 12) hx hb hts inX9 hown hK hP 8 (heX_8 ca a t) rfl 5 (by decide) (hts _ kw_281) (fun _ h9 => h9) rfl dX9_note_77 ?_
  refine lv_iload hx hb dX9_note_80 (lv_at hl 5 rfl) ?_
  refine lv_iload_n hx hb dX9_note_82 rfl (lv_at hl 2 rfl) ?_
  obtain ⟨h_83, hf⟩ := fb_if hf
  refine va_iast hx hb hK hP (hD t) hS 52 0 (haX_52 ca a t) rfl h_83 dX9_note_83 (fun H locs hP _ hS => ?_)
  rw [saX_52] at hP
  obtain ⟨t_1, e_83, hf⟩ := fb_ls hf
  rw [← e_83] at hP
  refine lv_aload_n hx hb dX9_note_84 rfl (lv_at hl 1 rfl) ?_
  refine va_get (D := D) (ci := 9) (v := .ref (a 53)) (C := RX9) (T := TX9) (N := 12) hx hb hts inX9 hown hK hP 8 (heX_8 ca a t_1) rfl 6 (by decide) (hts _ kw_282) (fun _ h9 => h9) rfl dX9_note_85 ?_
  refine lv_iload hx hb dX9_note_88 (lv_at hl 5 rfl) ?_
  refine lv_aload_n hx hb dX9_note_90 rfl (lv_at hl 3 rfl) ?_
  refine lv_iload hx hb dX9_note_91 (lv_at hl 0 rfl) ?_
  obtain ⟨v_3, t_2, g_93, hf⟩ := fb_bs hf
  refine fw_V1 (As := [.int (st_F t 24 x1.toNatClampNeg)]) (rest := [.int x4, .ref (a 53)]) (n := 1) (q0 := 5) C (c_X_X0_errorOf__5 (l := l) (D := D) (ca := ca) (a := a) g_93) kw_640 kw_534 kw_96 kw_536 kw_535 hP hS hl (heX_5 ca a t_1) rfl rfl rfl (by decide) (by decide +kernel) ⟨Nat.le_of_ble_eq_true rfl, Nat.le_of_ble_eq_true rfl⟩ rfl rfl (Nat.le_of_ble_eq_true rfl) dX9_note_93 (fun H locs hP hS => ?_)
  refine W.eq (g2 := F0 m 96 ls [.int v_3, .int x4, .ref (a 53)]) rfl ?_
  obtain ⟨h_96, hf⟩ := fb_if hf
  refine va_iast hx hb hK hP (hD t_2) hS 53 0 (haX_53 ca a t_2) rfl h_96 dX9_note_96 (fun H locs hP _ hS => ?_)
  rw [saX_53] at hP
  obtain ⟨t_4, e_96, hf⟩ := fb_ls hf
  rw [← e_96] at hP
  refine lv_aload_n hx hb dX9_note_97 rfl (lv_at hl 1 rfl) ?_
  refine va_get (D := D) (ci := 9) (v := .ref (a 54)) (C := RX9) (T := TX9) (N := 12) hx hb hts inX9 hown hK hP 8 (heX_8 ca a t_4) rfl 7 (by decide) (hts _ kw_283) (fun _ h9 => h9) rfl dX9_note_98 ?_
  refine lv_iload hx hb dX9_note_101 (lv_at hl 5 rfl) ?_
  refine lv_aload_n hx hb dX9_note_103 rfl (lv_at hl 4 rfl) ?_
  refine lv_iload hx hb dX9_note_104 (lv_at hl 0 rfl) ?_
  obtain ⟨v_6, t_5, g_106, hf⟩ := fb_bs hf
  refine fw_V1 (As := [.int (st_F t 24 x1.toNatClampNeg)]) (rest := [.int x4, .ref (a 54)]) (n := 1) (q0 := 4) C (c_X_X0_errorOf__4 (l := l) (D := D) (ca := ca) (a := a) g_106) kw_640 kw_534 kw_96 kw_536 kw_535 hP hS hl (heX_4 ca a t_4) rfl rfl rfl (by decide) (by decide +kernel) ⟨Nat.le_of_ble_eq_true rfl, Nat.le_of_ble_eq_true rfl⟩ rfl rfl (Nat.le_of_ble_eq_true rfl) dX9_note_106 (fun H locs hP hS => ?_)
  refine W.eq (g2 := F0 m 109 ls [.int v_6, .int x4, .ref (a 54)]) rfl ?_
  obtain ⟨h_109, hf⟩ := fb_if hf
  refine va_iast hx hb hK hP (hD t_5) hS 54 0 (haX_54 ca a t_5) rfl h_109 dX9_note_109 (fun H locs hP _ hS => ?_)
  rw [saX_54] at hP
  obtain ⟨t_7, e_109, hf⟩ := fb_ls hf
  rw [← e_109] at hP
  refine lv_aload_n hx hb dX9_note_110 rfl (lv_at hl 1 rfl) ?_
  refine va_get (D := D) (ci := 9) (v := .ref (a 55)) (C := RX9) (T := TX9) (N := 12) hx hb hts inX9 hown hK hP 8 (heX_8 ca a t_7) rfl 8 (by decide) (hts _ kw_284) (fun _ h9 => h9) rfl dX9_note_111 ?_
  refine lv_iload hx hb dX9_note_114 (lv_at hl 5 rfl) ?_
  refine lv_aload_n hx hb dX9_note_116 rfl (lv_at hl 3 rfl) ?_
  refine lv_iload hx hb dX9_note_117 (lv_at hl 0 rfl) ?_
  obtain ⟨v_9, t_8, g_119, hf⟩ := fb_bs hf
  refine fw_V1 (As := [.int (st_F t 24 x1.toNatClampNeg)]) (rest := [.int x4, .ref (a 55)]) (n := 1) (q0 := 5) C (c_X_X0_known__5 (l := l) (D := D) (ca := ca) (a := a) g_119) kw_646 kw_647 kw_96 kw_649 kw_648 hP hS hl (heX_5 ca a t_7) rfl rfl rfl (by decide) (by decide +kernel) ⟨Nat.le_of_ble_eq_true rfl, Nat.le_of_ble_eq_true rfl⟩ rfl rfl (Nat.le_of_ble_eq_true rfl) dX9_note_119 (fun H locs hP hS => ?_)
  refine W.eq (g2 := F0 m 122 ls [.long v_9, .int x4, .ref (a 55)]) rfl ?_
  obtain ⟨h_122, hf⟩ := fb_if hf
  refine va_last hx hb hK hP (hD t_8) hS 55 1 (haX_55 ca a t_8) rfl h_122 dX9_note_122 (fun H locs hP _ hS => ?_)
  rw [saX_55] at hP
  obtain ⟨t_10, e_122, hf⟩ := fb_ls hf
  rw [← e_122] at hP
  refine lv_aload_n hx hb dX9_note_123 rfl (lv_at hl 1 rfl) ?_
  refine va_get (D := D) (ci := 9) (v := .ref (a 56)) (C := RX9) (T := TX9) (N := 12) hx hb hts inX9 hown hK hP 8 (heX_8 ca a t_10) rfl 9 (by decide) (hts _ kw_285) (fun _ h9 => h9) rfl dX9_note_124 ?_
  refine lv_iload hx hb dX9_note_127 (lv_at hl 5 rfl) ?_
  refine lv_aload_n hx hb dX9_note_129 rfl (lv_at hl 4 rfl) ?_
  refine lv_iload hx hb dX9_note_130 (lv_at hl 0 rfl) ?_
  obtain ⟨v_12, t_11, g_132, hf⟩ := fb_bs hf
  refine fw_V1 (As := [.int (st_F t 24 x1.toNatClampNeg)]) (rest := [.int x4, .ref (a 56)]) (n := 1) (q0 := 4) C (c_X_X0_known__4 (l := l) (D := D) (ca := ca) (a := a) g_132) kw_646 kw_647 kw_96 kw_649 kw_648 hP hS hl (heX_4 ca a t_10) rfl rfl rfl (by decide) (by decide +kernel) ⟨Nat.le_of_ble_eq_true rfl, Nat.le_of_ble_eq_true rfl⟩ rfl rfl (Nat.le_of_ble_eq_true rfl) dX9_note_132 (fun H locs hP hS => ?_)
  refine W.eq (g2 := F0 m 135 ls [.long v_12, .int x4, .ref (a 56)]) rfl ?_
  obtain ⟨h_135, hf⟩ := fb_if hf
  refine va_last hx hb hK hP (hD t_11) hS 56 1 (haX_56 ca a t_11) rfl h_135 dX9_note_135 (fun H locs hP _ hS => ?_)
  rw [saX_56] at hP
  obtain ⟨t_13, e_135, hf⟩ := fb_ls hf
  rw [← e_135] at hP
  have e_136 := fb_ev hf
  subst e_136
  exact hr trivial _ _ _ _ hP hS dX9_note_136
set_option maxRecDepth 20000 in
theorem w_X_X9_note__8_5_4_61 {p : Program} {l : Launch} {e : Env} {s : State} {m : MethodId} {args : Array Value} {below : List Frame} {meth : Method} {c : Code} {A : Nat → Prop} {Q : State → Prop} {D : va_G} {ca : Nat → ClassId} {a : Nat → Nat} {u : fw_S}  (C : CX (WX ca a) D (tyv ca) p s m args c A prog_11_method_9_code 6 RX9) (hr : True → RX (WX ca a) D p l e rm_X_X9_note__8_5_4 s m args below meth c A prog_11_method_9_code Q .return_ [] u) {t : fw_S} {x1 : Int32} {x4 : Int32} {H : Heap} {locs : List Loc} {ls : Array Slot} (hf : b_X_X9_note__8_5_4_61  t x1 x4 = some u) (hP : va_P D classes (WX ca a t) H) (hS : va_S A s.heap H locs) (hl : lv_has ls 6 [(0, .ref (a 8)), (1, .int x1), (2, .ref (a 5)), (3, .ref (a 4)), (4, .int x4)]) : W p l e rm_X_X9_note__8_5_4 s m args below meth c H locs 0 0 Q (F0 m 61 ls []) := by
  obtain ⟨hx, hb, hml, hown, hts, hN, hK, hD, hA⟩ := id C
  have hf : (if x1 < ((8 : Int32)) then b_X_X9_note__8_5_4_68 t x1 x4 else b_X_X9_note__8_5_4_67 t) = some u := hf
  refine lv_iload_n hx hb dX9_note_61 rfl (lv_at hl 1 rfl) ?_
  refine lv_bipush (v := 8) hx hb dX9_note_62 (by decide) ?_
  refine lv_icmp_lt (tgt := 68) hx hb dX9_note_64 (by decide) (fun h_64 => ?_) (fun h_64 => ?_)
  · have hf := fb_t h_64 hf
    exact w_X_X9_note__8_5_4_68 C hr hf hP hS (lv_sub hl [0, 1, 2, 3, 4] rfl)
  · have hf := fb_f h_64 hf
    exact w_X_X9_note__8_5_4_67 C hr hf hP hS (lv_sub hl [] rfl)
set_option maxRecDepth 20000 in
theorem w_X_X9_note__8_5_4_57 {p : Program} {l : Launch} {e : Env} {s : State} {m : MethodId} {args : Array Value} {below : List Frame} {meth : Method} {c : Code} {A : Nat → Prop} {Q : State → Prop} {D : va_G} {ca : Nat → ClassId} {a : Nat → Nat} {u : fw_S}  (C : CX (WX ca a) D (tyv ca) p s m args c A prog_11_method_9_code 6 RX9) (hr : True → RX (WX ca a) D p l e rm_X_X9_note__8_5_4 s m args below meth c A prog_11_method_9_code Q .return_ [] u) {t : fw_S} {x1 : Int32} {x4 : Int32} {H : Heap} {locs : List Loc} {ls : Array Slot} (hf : b_X_X9_note__8_5_4_57  t x1 x4 = some u) (hP : va_P D classes (WX ca a t) H) (hS : va_S A s.heap H locs) (hl : lv_has ls 6 [(0, .ref (a 8)), (1, .int x1), (2, .ref (a 5)), (3, .ref (a 4)), (4, .int x4)]) : W p l e rm_X_X9_note__8_5_4 s m args below meth c H locs 0 0 Q (F0 m 57 ls []) := by
  obtain ⟨hx, hb, hml, hown, hts, hN, hK, hD, hA⟩ := id C
  have hf : (if x1 < 0 then b_X_X9_note__8_5_4_67 t else b_X_X9_note__8_5_4_61 t x1 x4) = some u := hf
  refine lv_iload_n hx hb dX9_note_57 rfl (lv_at hl 1 rfl) ?_
  refine lv_if_lt (tgt := 67) hx hb dX9_note_58 (by decide) (fun h_58 => ?_) (fun h_58 => ?_)
  · have hf := fb_t h_58 hf
    exact w_X_X9_note__8_5_4_67 C hr hf hP hS (lv_sub hl [] rfl)
  · have hf := fb_f h_58 hf
    exact w_X_X9_note__8_5_4_61 C hr hf hP hS (lv_sub hl [0, 1, 2, 3, 4] rfl)
set_option maxRecDepth 20000 in
theorem w_X_X9_note__8_5_4_28 {p : Program} {l : Launch} {e : Env} {s : State} {m : MethodId} {args : Array Value} {below : List Frame} {meth : Method} {c : Code} {A : Nat → Prop} {Q : State → Prop} {D : va_G} {ca : Nat → ClassId} {a : Nat → Nat} {u : fw_S}  (C : CX (WX ca a) D (tyv ca) p s m args c A prog_11_method_9_code 6 RX9) (hr : True → RX (WX ca a) D p l e rm_X_X9_note__8_5_4 s m args below meth c A prog_11_method_9_code Q .return_ [] u) {t : fw_S} {x1 : Int32} {H : Heap} {locs : List Loc} {ls : Array Slot} (hf : b_X_X9_note__8_5_4_28  t x1 = some u) (hP : va_P D classes (WX ca a t) H) (hS : va_S A s.heap H locs) (hl : lv_has ls 6 [(0, .ref (a 8)), (1, .int x1), (2, .ref (a 5)), (3, .ref (a 4))]) : W p l e rm_X_X9_note__8_5_4 s m args below meth c H locs 0 0 Q (F0 m 28 ls []) := by
  obtain ⟨hx, hb, hml, hown, hts, hN, hK, hD, hA⟩ := id C
  have hf : (if ((60 : Int32)) = 0 then none else (fb_l (up_I t 11 ((st_I t 11) + ((1 : Int32)))) fun t_1 => (if (((st_I t 10) + (st_I t 11)) - ((st_I t 10) + (st_I t 11)) / ((60 : Int32)) * ((60 : Int32))) < 0 then b_X_X9_note__8_5_4_67 t_1 else b_X_X9_note__8_5_4_57 t_1 x1 (((st_I t 10) + (st_I t 11)) - ((st_I t 10) + (st_I t 11)) / ((60 : Int32)) * ((60 : Int32)))))) = some u := hf
  refine lv_aload_n hx hb dX9_note_28 rfl (lv_at hl 0 rfl) ?_
  refine va_get (D := D) (ci := 9) (v := .int (st_I t 10)) (C := RX9) (T := TX9) (N := 12) hx hb hts inX9 hown hK hP 8 (heX_8 ca a t) rfl 10 (by decide) (hts _ kw_286) (fun _ h9 => h9) rfl dX9_note_29 ?_
  refine lv_aload_n hx hb dX9_note_32 rfl (lv_at hl 0 rfl) ?_
  refine va_get (D := D) (ci := 9) (v := .int (st_I t 11)) (C := RX9) (T := TX9) (N := 12) hx hb hts inX9 hown hK hP 8 (heX_8 ca a t) rfl 11 (by decide) (hts _ kw_287) (fun _ h9 => h9) rfl dX9_note_33 ?_
  refine lv_iadd hx hb dX9_note_36 ?_
  refine lv_bipush (v := 60) hx hb dX9_note_37 (by decide) ?_
  obtain ⟨h_39, hf⟩ := fb_ifn hf
  refine lv_irem hx hb dX9_note_39 h_39 ?_
  refine lv_istore (lv' := [(4, .int (((st_I t 10) + (st_I t 11)) - ((st_I t 10) + (st_I t 11)) / ((60 : Int32)) * ((60 : Int32)))), (0, .ref (a 8)), (1, .int x1), (2, .ref (a 5)), (3, .ref (a 4))]) hx hb dX9_note_40 hl (by decide) rfl (fun ls hl => ?_)
  refine lv_aload_n hx hb dX9_note_42 rfl (lv_at hl 1 rfl) ?_
  refine lv_dup hx hb dX9_note_43 rfl ?_
  refine va_get (D := D) (ci := 9) (v := .int (st_I t 11)) (C := RX9) (T := TX9) (N := 12) hx hb hts inX9 hown hK hP 8 (heX_8 ca a t) rfl 11 (by decide) (hts _ kw_287) (fun _ h9 => h9) rfl dX9_note_44 ?_
  refine lv_iconst (v := 1) hx hb dX9_note_47 (by decide) ?_
  refine lv_iadd hx hb dX9_note_48 ?_
  refine va_put (D := D) (ci := 9) (v := .int ((st_I t 11) + ((1 : Int32)))) (ty := .int) (C := RX9) (T := TX9) (N := 12) hx hb hts inX9 tyX9 tyX9_ok nmX9 hown hK hP (hD t) hS 8 (heX_8 ca a t) rfl 11 (by decide) (hts _ kw_287) (fun _ h9 => h9) rfl (by decide +kernel) rfl rfl (Nat.le_of_ble_eq_true rfl) dX9_note_49 (fun H locs hP _ hS => ?_)
  rw [suX_8_11] at hP
  obtain ⟨t_1, e_49, hf⟩ := fb_ls hf
  rw [← e_49] at hP
  refine lv_iload hx hb dX9_note_52 (lv_at hl 0 rfl) ?_
  refine lv_if_lt (tgt := 67) hx hb dX9_note_54 (by decide) (fun h_54 => ?_) (fun h_54 => ?_)
  · have hf := fb_t h_54 hf
    exact w_X_X9_note__8_5_4_67 C hr hf hP hS (lv_sub hl [] rfl)
  · have hf := fb_f h_54 hf
    exact w_X_X9_note__8_5_4_57 C hr hf hP hS (lv_sub hl [1, 2, 3, 4, 0] rfl)
set_option maxRecDepth 20000 in
theorem w_X_X9_note__8_5_4_9 {p : Program} {l : Launch} {e : Env} {s : State} {m : MethodId} {args : Array Value} {below : List Frame} {meth : Method} {c : Code} {A : Nat → Prop} {Q : State → Prop} {D : va_G} {ca : Nat → ClassId} {a : Nat → Nat} {u : fw_S}  (C : CX (WX ca a) D (tyv ca) p s m args c A prog_11_method_9_code 6 RX9) (hr : True → RX (WX ca a) D p l e rm_X_X9_note__8_5_4 s m args below meth c A prog_11_method_9_code Q .return_ [] u) {t : fw_S} {x1 : Int32} {H : Heap} {locs : List Loc} {ls : Array Slot} (hf : b_X_X9_note__8_5_4_9  t x1 = some u) (hP : va_P D classes (WX ca a t) H) (hS : va_S A s.heap H locs) (hl : lv_has ls 6 [(0, .ref (a 8)), (1, .int x1), (2, .ref (a 5)), (3, .ref (a 4))]) : W p l e rm_X_X9_note__8_5_4 s m args below meth c H locs 0 0 Q (F0 m 9 ls []) := by
  obtain ⟨hx, hb, hml, hown, hts, hN, hK, hD, hA⟩ := id C
  have hf : (if ((60 : Int32)) = 0 then none else (fb_l (up_I t 10 (((st_I t 10) + ((1 : Int32))) - ((st_I t 10) + ((1 : Int32))) / ((60 : Int32)) * ((60 : Int32)))) fun t_1 => (fb_l (up_I t_1 11 ((59 : Int32))) fun t_2 => (b_X_X9_note__8_5_4_28 t_2 x1)))) = some u := hf
  refine lv_aload_n hx hb dX9_note_9 rfl (lv_at hl 0 rfl) ?_
  refine lv_aload_n hx hb dX9_note_10 rfl (lv_at hl 0 rfl) ?_
  refine va_get (D := D) (ci := 9) (v := .int (st_I t 10)) (C := RX9) (T := TX9) (N := 12) hx hb hts inX9 hown hK hP 8 (heX_8 ca a t) rfl 10 (by decide) (hts _ kw_286) (fun _ h9 => h9) rfl dX9_note_11 ?_
  refine lv_iconst (v := 1) hx hb dX9_note_14 (by decide) ?_
  refine lv_iadd hx hb dX9_note_15 ?_
  refine lv_bipush (v := 60) hx hb dX9_note_16 (by decide) ?_
  obtain ⟨h_18, hf⟩ := fb_ifn hf
  refine lv_irem hx hb dX9_note_18 h_18 ?_
  refine va_put (D := D) (ci := 9) (v := .int (((st_I t 10) + ((1 : Int32))) - ((st_I t 10) + ((1 : Int32))) / ((60 : Int32)) * ((60 : Int32)))) (ty := .int) (C := RX9) (T := TX9) (N := 12) hx hb hts inX9 tyX9 tyX9_ok nmX9 hown hK hP (hD t) hS 8 (heX_8 ca a t) rfl 10 (by decide) (hts _ kw_286) (fun _ h9 => h9) rfl (by decide +kernel) rfl rfl (Nat.le_of_ble_eq_true rfl) dX9_note_19 (fun H locs hP _ hS => ?_)
  rw [suX_8_10] at hP
  obtain ⟨t_1, e_19, hf⟩ := fb_ls hf
  rw [← e_19] at hP
  refine lv_aload_n hx hb dX9_note_22 rfl (lv_at hl 0 rfl) ?_
  refine lv_bipush (v := 59) hx hb dX9_note_23 (by decide) ?_
  refine va_put (D := D) (ci := 9) (v := .int ((59 : Int32))) (ty := .int) (C := RX9) (T := TX9) (N := 12) hx hb hts inX9 tyX9 tyX9_ok nmX9 hown hK hP (hD t_1) hS 8 (heX_8 ca a t_1) rfl 11 (by decide) (hts _ kw_287) (fun _ h9 => h9) rfl (by decide +kernel) rfl rfl (Nat.le_of_ble_eq_true rfl) dX9_note_25 (fun H locs hP _ hS => ?_)
  rw [suX_8_11] at hP
  obtain ⟨t_2, e_25, hf⟩ := fb_ls hf
  rw [← e_25] at hP
  exact w_X_X9_note__8_5_4_28 C hr hf hP hS (lv_sub hl [0, 1, 2, 3] rfl)
set_option maxRecDepth 20000 in
theorem w_X_X9_note__8_5_4_0 {p : Program} {l : Launch} {e : Env} {s : State} {m : MethodId} {args : Array Value} {below : List Frame} {meth : Method} {c : Code} {A : Nat → Prop} {Q : State → Prop} {D : va_G} {ca : Nat → ClassId} {a : Nat → Nat} {u : fw_S}  (C : CX (WX ca a) D (tyv ca) p s m args c A prog_11_method_9_code 6 RX9) (hr : True → RX (WX ca a) D p l e rm_X_X9_note__8_5_4 s m args below meth c A prog_11_method_9_code Q .return_ [] u) {t : fw_S} {x1 : Int32} {H : Heap} {locs : List Loc} {ls : Array Slot} (hf : b_X_X9_note__8_5_4_0  t x1 = some u) (hP : va_P D classes (WX ca a t) H) (hS : va_S A s.heap H locs) (hl : lv_has ls 6 [(0, .ref (a 8)), (1, .int x1), (2, .ref (a 5)), (3, .ref (a 4))]) : W p l e rm_X_X9_note__8_5_4 s m args below meth c H locs 0 0 Q (F0 m 0 ls []) := by
  obtain ⟨hx, hb, hml, hown, hts, hN, hK, hD, hA⟩ := id C
  have hf : (if (st_I t 11) < ((60 : Int32)) then b_X_X9_note__8_5_4_28 t x1 else b_X_X9_note__8_5_4_9 t x1) = some u := hf
  refine lv_aload_n hx hb dX9_note_0 rfl (lv_at hl 0 rfl) ?_
  refine va_get (D := D) (ci := 9) (v := .int (st_I t 11)) (C := RX9) (T := TX9) (N := 12) hx hb hts inX9 hown hK hP 8 (heX_8 ca a t) rfl 11 (by decide) (hts _ kw_287) (fun _ h9 => h9) rfl dX9_note_1 ?_
  refine lv_bipush (v := 60) hx hb dX9_note_4 (by decide) ?_
  refine lv_icmp_lt (tgt := 28) hx hb dX9_note_6 (by decide) (fun h_6 => ?_) (fun h_6 => ?_)
  · have hf := fb_t h_6 hf
    exact w_X_X9_note__8_5_4_28 C hr hf hP hS (lv_sub hl [0, 1, 2, 3] rfl)
  · have hf := fb_f h_6 hf
    exact w_X_X9_note__8_5_4_9 C hr hf hP hS (lv_sub hl [0, 1, 2, 3] rfl)
set_option maxRecDepth 20000 in
theorem c_X_X9_note__8_5_4 {l : Launch} {D : va_G} {ca : Nat → ClassId} {a : Nat → Nat} {t : fw_S} {x1 : Int32} {u : fw_S} (hf : f_X_X9_note__8_5_4 t x1 = some u) : MC (WX ca a) D (tyv ca) l yX9_note (.code yX9_note prog_11_method_9_code 6 none :: lw_gd) rm_X_X9_note__8_5_4 [.ref (a 8), .int x1, .ref (a 5), .ref (a 4)] none t u := by
  refine fw_met (okX ca a) (by decide +kernel) rfl rfl (Nat.le_of_ble_eq_true rfl) ?_
  intro p e s m args below meth c A Q ls C hr hk hP hS hl hQ
  exact w_X_X9_note__8_5_4_0 C (fun _ => fw_rv C hr hk hQ) hf hP hS (lv_sub hl [0, 1, 2, 3] rfl)
/-! ReactiveSheet.Watching.ask(LReactiveSheet.Cells;LReactiveSheet.Cells;)I ['x.watching', 'x.engine.before', 'x.engine.now'] -/
abbrev rm_X_X9_ask__8_5_4 : Room := { frames := 4, cells := 0, slots := 0, locals := 88 }
def b_X_X9_ask__8_5_4_75  (t : fw_S) (x3 : Int32) : Option (Int32 × fw_S) := some (x3, t)
def b_X_X9_ask__8_5_4_69 (k5 : fw_S → Int32 → Int32 → Option (Int32 × fw_S)) (t : fw_S) (x3 : Int32) (x4 : Int32) : Option (Int32 × fw_S) := k5 t x3 (x4 + 1)
def b_X_X9_ask__8_5_4_58 (k5 : fw_S → Int32 → Int32 → Option (Int32 × fw_S)) (t : fw_S) (x3 : Int32) (x4 : Int32) : Option (Int32 × fw_S) := fb_v (f_X_X9_note__8_5_4 t x4) fun t_1 => (b_X_X9_ask__8_5_4_69 k5 t_1 (x3 + 1) x4)
def b_X_X9_ask__8_5_4_47 (k5 : fw_S → Int32 → Int32 → Option (Int32 × fw_S)) (t : fw_S) (x3 : Int32) (x4 : Int32) : Option (Int32 × fw_S) := fb_b (f_X_X9_stirs__8_5_4 t x4) fun v_2 t_1 => (if v_2 = 0 then b_X_X9_ask__8_5_4_69 k5 t_1 x3 x4 else b_X_X9_ask__8_5_4_58 k5 t_1 x3 x4)
def b_X_X9_ask__8_5_4_33 (k5 : fw_S → Int32 → Int32 → Option (Int32 × fw_S)) (t : fw_S) (x3 : Int32) (x4 : Int32) : Option (Int32 × fw_S) := fb_g (¬ (x4 < 0 ∨ 8 ≤ x4.toNatClampNeg)) (fb_b (f_X_X0_isChanged__4 t (st_F t 24 x4.toNatClampNeg)) fun v_2 t_1 => (if v_2 = 0 then b_X_X9_ask__8_5_4_69 k5 t_1 x3 x4 else b_X_X9_ask__8_5_4_47 k5 t_1 x3 x4))
def b_X_X9_ask__8_5_4_21 (k5 : fw_S → Int32 → Int32 → Option (Int32 × fw_S)) (t : fw_S) (x3 : Int32) (x4 : Int32) : Option (Int32 × fw_S) := fb_b (f_X_X10_has t (st_J t 10) x4) fun v_2 t_1 => (if v_2 = 0 then b_X_X9_ask__8_5_4_69 k5 t_1 x3 x4 else b_X_X9_ask__8_5_4_33 k5 t_1 x3 x4)
def b_X_X9_ask__8_5_4_14 (k5 : fw_S → Int32 → Int32 → Option (Int32 × fw_S)) (t : fw_S) (x3 : Int32) (x4 : Int32) : Option (Int32 × fw_S) := if ((8 : Int32)) ≤ x4 then b_X_X9_ask__8_5_4_75 t x3 else b_X_X9_ask__8_5_4_21 k5 t x3 x4
def b_X_X9_ask__8_5_4_5  : Nat → (fw_S → Int32 → Int32 → Option (Int32 × fw_S))
  | 0 => fun _ _ _ => none
  | n + 1 => fun t x3 x4 => if (st_I t 9) ≤ x4 then b_X_X9_ask__8_5_4_75 t x3 else b_X_X9_ask__8_5_4_14 (b_X_X9_ask__8_5_4_5 n) t x3 x4
def b_X_X9_ask__8_5_4_0  (t : fw_S)  : Option (Int32 × fw_S) := b_X_X9_ask__8_5_4_5 3000 t ((0 : Int32)) ((0 : Int32))
def f_X_X9_ask__8_5_4 (t : fw_S)  : Option (Int32 × fw_S) := b_X_X9_ask__8_5_4_0 t 
set_option maxRecDepth 20000 in
theorem w_X_X9_ask__8_5_4_75 {p : Program} {l : Launch} {e : Env} {s : State} {m : MethodId} {args : Array Value} {below : List Frame} {meth : Method} {c : Code} {A : Nat → Prop} {Q : State → Prop} {D : va_G} {ca : Nat → ClassId} {a : Nat → Nat} {u : fw_S} {r : Int32}  (C : CX (WX ca a) D (tyv ca) p s m args c A prog_11_method_7_code 5 RX9) (hr : True → RX (WX ca a) D p l e rm_X_X9_ask__8_5_4 s m args below meth c A prog_11_method_7_code Q .ireturn [.int r] u) {t : fw_S} {x3 : Int32} {H : Heap} {locs : List Loc} {ls : Array Slot} (hf : b_X_X9_ask__8_5_4_75  t x3 = some (r, u)) (hP : va_P D classes (WX ca a t) H) (hS : va_S A s.heap H locs) (hl : lv_has ls 5 [(3, .int x3)]) : W p l e rm_X_X9_ask__8_5_4 s m args below meth c H locs 0 0 Q (F0 m 75 ls []) := by
  obtain ⟨hx, hb, hml, hown, hts, hN, hK, hD, hA⟩ := id C
  have hf : (some (x3, t)) = some (r, u) := hf
  refine lv_iload_n hx hb dX9_ask_75 rfl (lv_at hl 0 rfl) ?_
  obtain ⟨e_76, e2_76⟩ := fb_e hf
  subst e_76; subst e2_76
  exact hr trivial _ _ _ _ hP hS dX9_ask_76
set_option maxRecDepth 20000 in
theorem w_X_X9_ask__8_5_4_69 {p : Program} {l : Launch} {e : Env} {s : State} {m : MethodId} {args : Array Value} {below : List Frame} {meth : Method} {c : Code} {A : Nat → Prop} {Q : State → Prop} {D : va_G} {ca : Nat → ClassId} {a : Nat → Nat} {u : fw_S} {r : Int32} {k5 : fw_S → Int32 → Int32 → Option (Int32 × fw_S)} (C : CX (WX ca a) D (tyv ca) p s m args c A prog_11_method_7_code 5 RX9) (hr : True → RX (WX ca a) D p l e rm_X_X9_ask__8_5_4 s m args below meth c A prog_11_method_7_code Q .ireturn [.int r] u) (hk5 : ∀ (t : fw_S) (x3 : Int32) (x4 : Int32) (H : Heap) (locs : List Loc) (ls : Array Slot), k5 t x3 x4 = some (r, u) → va_P D classes (WX ca a t) H → va_S A s.heap H locs → lv_has ls 5 [(0, .ref (a 8)), (1, .ref (a 5)), (2, .ref (a 4)), (3, .int x3), (4, .int x4)] → W p l e rm_X_X9_ask__8_5_4 s m args below meth c H locs 0 0 Q (F0 m 5 ls [])) {t : fw_S} {x3 : Int32} {x4 : Int32} {H : Heap} {locs : List Loc} {ls : Array Slot} (hf : b_X_X9_ask__8_5_4_69 k5 t x3 x4 = some (r, u)) (hP : va_P D classes (WX ca a t) H) (hS : va_S A s.heap H locs) (hl : lv_has ls 5 [(0, .ref (a 8)), (1, .ref (a 5)), (2, .ref (a 4)), (3, .int x3), (4, .int x4)]) : W p l e rm_X_X9_ask__8_5_4 s m args below meth c H locs 0 0 Q (F0 m 69 ls []) := by
  obtain ⟨hx, hb, hml, hown, hts, hN, hK, hD, hA⟩ := id C
  have hf : (k5 t x3 (x4 + 1)) = some (r, u) := hf
  refine lv_iinc (v := x4 + 1) (lv' := [(4, .int (x4 + 1)), (0, .ref (a 8)), (1, .ref (a 5)), (2, .ref (a 4)), (3, .int x3)]) hx hb dX9_ask_69 hl (k := 4) rfl rfl (by decide) rfl (fun ls hl => ?_)
  refine lv_goto (tgt := 5) hx hb dX9_ask_72 (by decide) ?_
  exact hk5 t x3 (x4 + 1) _ _ _ hf hP hS (lv_sub hl [1, 2, 3, 4, 0] rfl)
set_option maxRecDepth 20000 in
theorem w_X_X9_ask__8_5_4_58 {p : Program} {l : Launch} {e : Env} {s : State} {m : MethodId} {args : Array Value} {below : List Frame} {meth : Method} {c : Code} {A : Nat → Prop} {Q : State → Prop} {D : va_G} {ca : Nat → ClassId} {a : Nat → Nat} {u : fw_S} {r : Int32} {k5 : fw_S → Int32 → Int32 → Option (Int32 × fw_S)} (C : CX (WX ca a) D (tyv ca) p s m args c A prog_11_method_7_code 5 RX9) (hr : True → RX (WX ca a) D p l e rm_X_X9_ask__8_5_4 s m args below meth c A prog_11_method_7_code Q .ireturn [.int r] u) (hk5 : ∀ (t : fw_S) (x3 : Int32) (x4 : Int32) (H : Heap) (locs : List Loc) (ls : Array Slot), k5 t x3 x4 = some (r, u) → va_P D classes (WX ca a t) H → va_S A s.heap H locs → lv_has ls 5 [(0, .ref (a 8)), (1, .ref (a 5)), (2, .ref (a 4)), (3, .int x3), (4, .int x4)] → W p l e rm_X_X9_ask__8_5_4 s m args below meth c H locs 0 0 Q (F0 m 5 ls [])) {t : fw_S} {x3 : Int32} {x4 : Int32} {H : Heap} {locs : List Loc} {ls : Array Slot} (hf : b_X_X9_ask__8_5_4_58 k5 t x3 x4 = some (r, u)) (hP : va_P D classes (WX ca a t) H) (hS : va_S A s.heap H locs) (hl : lv_has ls 5 [(0, .ref (a 8)), (1, .ref (a 5)), (2, .ref (a 4)), (3, .int x3), (4, .int x4)]) : W p l e rm_X_X9_ask__8_5_4 s m args below meth c H locs 0 0 Q (F0 m 58 ls []) := by
  obtain ⟨hx, hb, hml, hown, hts, hN, hK, hD, hA⟩ := id C
  have hf : (fb_v (f_X_X9_note__8_5_4 t x4) fun t_1 => (b_X_X9_ask__8_5_4_69 k5 t_1 (x3 + 1) x4)) = some (r, u) := hf
  refine lv_aload_n hx hb dX9_ask_58 rfl (lv_at hl 0 rfl) ?_
  refine lv_iload hx hb dX9_ask_59 (lv_at hl 4 rfl) ?_
  refine lv_aload_n hx hb dX9_ask_61 rfl (lv_at hl 1 rfl) ?_
  refine lv_aload_n hx hb dX9_ask_62 rfl (lv_at hl 2 rfl) ?_
  obtain ⟨t_1, g_63, hf⟩ := fb_vs hf
  refine fw_V1 (As := [.int x4, .ref (a 5), .ref (a 4)]) (rest := []) (n := 3) (q0 := 8) C (c_X_X9_note__8_5_4 (l := l) (D := D) (ca := ca) (a := a) g_63) kw_642 kw_644 kw_98 kw_645 kw_17 hP hS hl (heX_8 ca a t) rfl rfl rfl (by decide) (by decide +kernel) ⟨Nat.le_of_ble_eq_true rfl, Nat.le_of_ble_eq_true rfl⟩ rfl rfl (Nat.le_of_ble_eq_true rfl) dX9_ask_63 (fun H locs hP hS => ?_)
  refine W.eq (g2 := F0 m 66 ls []) rfl ?_
  refine lv_iinc (v := x3 + 1) (lv' := [(3, .int (x3 + 1)), (0, .ref (a 8)), (1, .ref (a 5)), (2, .ref (a 4)), (4, .int x4)]) hx hb dX9_ask_66 hl (k := 3) rfl rfl (by decide) rfl (fun ls hl => ?_)
  exact w_X_X9_ask__8_5_4_69 C hr hk5 hf hP hS (lv_sub hl [1, 2, 3, 0, 4] rfl)
set_option maxRecDepth 20000 in
theorem w_X_X9_ask__8_5_4_47 {p : Program} {l : Launch} {e : Env} {s : State} {m : MethodId} {args : Array Value} {below : List Frame} {meth : Method} {c : Code} {A : Nat → Prop} {Q : State → Prop} {D : va_G} {ca : Nat → ClassId} {a : Nat → Nat} {u : fw_S} {r : Int32} {k5 : fw_S → Int32 → Int32 → Option (Int32 × fw_S)} (C : CX (WX ca a) D (tyv ca) p s m args c A prog_11_method_7_code 5 RX9) (hr : True → RX (WX ca a) D p l e rm_X_X9_ask__8_5_4 s m args below meth c A prog_11_method_7_code Q .ireturn [.int r] u) (hk5 : ∀ (t : fw_S) (x3 : Int32) (x4 : Int32) (H : Heap) (locs : List Loc) (ls : Array Slot), k5 t x3 x4 = some (r, u) → va_P D classes (WX ca a t) H → va_S A s.heap H locs → lv_has ls 5 [(0, .ref (a 8)), (1, .ref (a 5)), (2, .ref (a 4)), (3, .int x3), (4, .int x4)] → W p l e rm_X_X9_ask__8_5_4 s m args below meth c H locs 0 0 Q (F0 m 5 ls [])) {t : fw_S} {x3 : Int32} {x4 : Int32} {H : Heap} {locs : List Loc} {ls : Array Slot} (hf : b_X_X9_ask__8_5_4_47 k5 t x3 x4 = some (r, u)) (hP : va_P D classes (WX ca a t) H) (hS : va_S A s.heap H locs) (hl : lv_has ls 5 [(0, .ref (a 8)), (1, .ref (a 5)), (2, .ref (a 4)), (3, .int x3), (4, .int x4)]) : W p l e rm_X_X9_ask__8_5_4 s m args below meth c H locs 0 0 Q (F0 m 47 ls []) := by
  obtain ⟨hx, hb, hml, hown, hts, hN, hK, hD, hA⟩ := id C
  have hf : (fb_b (f_X_X9_stirs__8_5_4 t x4) fun v_2 t_1 => (if v_2 = 0 then b_X_X9_ask__8_5_4_69 k5 t_1 x3 x4 else b_X_X9_ask__8_5_4_58 k5 t_1 x3 x4)) = some (r, u) := hf
  refine lv_aload_n hx hb dX9_ask_47 rfl (lv_at hl 0 rfl) ?_
  refine lv_iload hx hb dX9_ask_48 (lv_at hl 4 rfl) ?_
  refine lv_aload_n hx hb dX9_ask_50 rfl (lv_at hl 1 rfl) ?_
  refine lv_aload_n hx hb dX9_ask_51 rfl (lv_at hl 2 rfl) ?_
  obtain ⟨v_2, t_1, g_52, hf⟩ := fb_bs hf
  refine fw_V1 (As := [.int x4, .ref (a 5), .ref (a 4)]) (rest := []) (n := 3) (q0 := 8) C (c_X_X9_stirs__8_5_4 (l := l) (D := D) (ca := ca) (a := a) g_52) kw_636 kw_638 kw_98 kw_639 kw_16 hP hS hl (heX_8 ca a t) rfl rfl rfl (by decide) (by decide +kernel) ⟨Nat.le_of_ble_eq_true rfl, Nat.le_of_ble_eq_true rfl⟩ rfl rfl (Nat.le_of_ble_eq_true rfl) dX9_ask_52 (fun H locs hP hS => ?_)
  refine W.eq (g2 := F0 m 55 ls [.int v_2]) rfl ?_
  refine lv_if_eq (tgt := 69) hx hb dX9_ask_55 (by decide) (fun h_55 => ?_) (fun h_55 => ?_)
  · have hf := fb_t h_55 hf
    exact w_X_X9_ask__8_5_4_69 C hr hk5 hf hP hS (lv_sub hl [0, 1, 2, 3, 4] rfl)
  · have hf := fb_f h_55 hf
    exact w_X_X9_ask__8_5_4_58 C hr hk5 hf hP hS (lv_sub hl [0, 1, 2, 3, 4] rfl)
set_option maxRecDepth 20000 in
theorem w_X_X9_ask__8_5_4_33 {p : Program} {l : Launch} {e : Env} {s : State} {m : MethodId} {args : Array Value} {below : List Frame} {meth : Method} {c : Code} {A : Nat → Prop} {Q : State → Prop} {D : va_G} {ca : Nat → ClassId} {a : Nat → Nat} {u : fw_S} {r : Int32} {k5 : fw_S → Int32 → Int32 → Option (Int32 × fw_S)} (C : CX (WX ca a) D (tyv ca) p s m args c A prog_11_method_7_code 5 RX9) (hr : True → RX (WX ca a) D p l e rm_X_X9_ask__8_5_4 s m args below meth c A prog_11_method_7_code Q .ireturn [.int r] u) (hk5 : ∀ (t : fw_S) (x3 : Int32) (x4 : Int32) (H : Heap) (locs : List Loc) (ls : Array Slot), k5 t x3 x4 = some (r, u) → va_P D classes (WX ca a t) H → va_S A s.heap H locs → lv_has ls 5 [(0, .ref (a 8)), (1, .ref (a 5)), (2, .ref (a 4)), (3, .int x3), (4, .int x4)] → W p l e rm_X_X9_ask__8_5_4 s m args below meth c H locs 0 0 Q (F0 m 5 ls [])) {t : fw_S} {x3 : Int32} {x4 : Int32} {H : Heap} {locs : List Loc} {ls : Array Slot} (hf : b_X_X9_ask__8_5_4_33 k5 t x3 x4 = some (r, u)) (hP : va_P D classes (WX ca a t) H) (hS : va_S A s.heap H locs) (hl : lv_has ls 5 [(0, .ref (a 8)), (1, .ref (a 5)), (2, .ref (a 4)), (3, .int x3), (4, .int x4)]) : W p l e rm_X_X9_ask__8_5_4 s m args below meth c H locs 0 0 Q (F0 m 33 ls []) := by
  obtain ⟨hx, hb, hml, hown, hts, hN, hK, hD, hA⟩ := id C
  have hf : (fb_g (¬ (x4 < 0 ∨ 8 ≤ x4.toNatClampNeg)) (fb_b (f_X_X0_isChanged__4 t (st_F t 24 x4.toNatClampNeg)) fun v_2 t_1 => (if v_2 = 0 then b_X_X9_ask__8_5_4_69 k5 t_1 x3 x4 else b_X_X9_ask__8_5_4_47 k5 t_1 x3 x4))) = some (r, u) := hf
  refine lv_aload_n hx hb dX9_ask_33 rfl (lv_at hl 2 rfl) ?_
  refine lv_aload_n hx hb dX9_ask_34 rfl (lv_at hl 0 rfl) ?_
  refine va_get (D := D) (ci := 9) (v := .ref (a 49)) (C := RX9) (T := TX9) (N := 12) hx hb hts inX9 hown hK hP 8 (heX_8 ca a t) rfl 0 (by decide) (hts _ kw_276) (fun _ h9 => h9) rfl dX9_ask_35 ?_
  refine lv_iload hx hb dX9_ask_38 (lv_at hl 4 rfl) ?_
  obtain ⟨h_40, hf⟩ := fb_if hf
  refine va_iald hx hb hK hP 49 0 (haX_49 ca a t) rfl h_40 dX9_ask_40 ?_
  obtain ⟨v_2, t_1, g_41, hf⟩ := fb_bs hf
  refine fw_V1 (As := [.int (st_F t 24 x4.toNatClampNeg)]) (rest := []) (n := 1) (q0 := 4) C (c_X_X0_isChanged__4 (l := l) (D := D) (ca := ca) (a := a) g_41) kw_635 kw_477 kw_96 kw_479 kw_478 hP hS hl (heX_4 ca a t) rfl rfl rfl (by decide) (by decide +kernel) ⟨Nat.le_of_ble_eq_true rfl, Nat.le_of_ble_eq_true rfl⟩ rfl rfl (Nat.le_of_ble_eq_true rfl) dX9_ask_41 (fun H locs hP hS => ?_)
  refine W.eq (g2 := F0 m 44 ls [.int v_2]) rfl ?_
  refine lv_if_eq (tgt := 69) hx hb dX9_ask_44 (by decide) (fun h_44 => ?_) (fun h_44 => ?_)
  · have hf := fb_t h_44 hf
    exact w_X_X9_ask__8_5_4_69 C hr hk5 hf hP hS (lv_sub hl [0, 1, 2, 3, 4] rfl)
  · have hf := fb_f h_44 hf
    exact w_X_X9_ask__8_5_4_47 C hr hk5 hf hP hS (lv_sub hl [0, 1, 2, 3, 4] rfl)
set_option maxRecDepth 20000 in
theorem w_X_X9_ask__8_5_4_21 {p : Program} {l : Launch} {e : Env} {s : State} {m : MethodId} {args : Array Value} {below : List Frame} {meth : Method} {c : Code} {A : Nat → Prop} {Q : State → Prop} {D : va_G} {ca : Nat → ClassId} {a : Nat → Nat} {u : fw_S} {r : Int32} {k5 : fw_S → Int32 → Int32 → Option (Int32 × fw_S)} (C : CX (WX ca a) D (tyv ca) p s m args c A prog_11_method_7_code 5 RX9) (hr : True → RX (WX ca a) D p l e rm_X_X9_ask__8_5_4 s m args below meth c A prog_11_method_7_code Q .ireturn [.int r] u) (hk5 : ∀ (t : fw_S) (x3 : Int32) (x4 : Int32) (H : Heap) (locs : List Loc) (ls : Array Slot), k5 t x3 x4 = some (r, u) → va_P D classes (WX ca a t) H → va_S A s.heap H locs → lv_has ls 5 [(0, .ref (a 8)), (1, .ref (a 5)), (2, .ref (a 4)), (3, .int x3), (4, .int x4)] → W p l e rm_X_X9_ask__8_5_4 s m args below meth c H locs 0 0 Q (F0 m 5 ls [])) {t : fw_S} {x3 : Int32} {x4 : Int32} {H : Heap} {locs : List Loc} {ls : Array Slot} (hf : b_X_X9_ask__8_5_4_21 k5 t x3 x4 = some (r, u)) (hP : va_P D classes (WX ca a t) H) (hS : va_S A s.heap H locs) (hl : lv_has ls 5 [(0, .ref (a 8)), (1, .ref (a 5)), (2, .ref (a 4)), (3, .int x3), (4, .int x4)]) : W p l e rm_X_X9_ask__8_5_4 s m args below meth c H locs 0 0 Q (F0 m 21 ls []) := by
  obtain ⟨hx, hb, hml, hown, hts, hN, hK, hD, hA⟩ := id C
  have hf : (fb_b (f_X_X10_has t (st_J t 10) x4) fun v_2 t_1 => (if v_2 = 0 then b_X_X9_ask__8_5_4_69 k5 t_1 x3 x4 else b_X_X9_ask__8_5_4_33 k5 t_1 x3 x4)) = some (r, u) := hf
  refine lv_aload_n hx hb dX9_ask_21 rfl (lv_at hl 0 rfl) ?_
  refine va_get (D := D) (ci := 9) (v := .long (st_J t 10)) (C := RX9) (T := TX9) (N := 12) hx hb hts inX9 hown hK hP 8 (heX_8 ca a t) rfl 4 (by decide) (hts _ kw_280) (fun _ h9 => h9) rfl dX9_ask_22 ?_
  refine lv_iload hx hb dX9_ask_25 (lv_at hl 4 rfl) ?_
  obtain ⟨v_2, t_1, g_27, hf⟩ := fb_bs hf
  refine fw_S2 (As := [.long (st_J t 10), .int x4]) (rest := []) (n := 2) C (c_X_X10_has (l := l) (D := D) (ca := ca) (a := a) g_27) kw_634 kw_442 kw_92 kw_443 hP hS hl rfl rfl (by decide) (by decide +kernel) ⟨Nat.le_of_ble_eq_true rfl, Nat.le_of_ble_eq_true rfl⟩ rfl rfl (Nat.le_of_ble_eq_true rfl) dX9_ask_27 (fun H locs hP hS => ?_)
  refine W.eq (g2 := F0 m 30 ls [.int v_2]) rfl ?_
  refine lv_if_eq (tgt := 69) hx hb dX9_ask_30 (by decide) (fun h_30 => ?_) (fun h_30 => ?_)
  · have hf := fb_t h_30 hf
    exact w_X_X9_ask__8_5_4_69 C hr hk5 hf hP hS (lv_sub hl [0, 1, 2, 3, 4] rfl)
  · have hf := fb_f h_30 hf
    exact w_X_X9_ask__8_5_4_33 C hr hk5 hf hP hS (lv_sub hl [0, 1, 2, 3, 4] rfl)
set_option maxRecDepth 20000 in
theorem w_X_X9_ask__8_5_4_14 {p : Program} {l : Launch} {e : Env} {s : State} {m : MethodId} {args : Array Value} {below : List Frame} {meth : Method} {c : Code} {A : Nat → Prop} {Q : State → Prop} {D : va_G} {ca : Nat → ClassId} {a : Nat → Nat} {u : fw_S} {r : Int32} {k5 : fw_S → Int32 → Int32 → Option (Int32 × fw_S)} (C : CX (WX ca a) D (tyv ca) p s m args c A prog_11_method_7_code 5 RX9) (hr : True → RX (WX ca a) D p l e rm_X_X9_ask__8_5_4 s m args below meth c A prog_11_method_7_code Q .ireturn [.int r] u) (hk5 : ∀ (t : fw_S) (x3 : Int32) (x4 : Int32) (H : Heap) (locs : List Loc) (ls : Array Slot), k5 t x3 x4 = some (r, u) → va_P D classes (WX ca a t) H → va_S A s.heap H locs → lv_has ls 5 [(0, .ref (a 8)), (1, .ref (a 5)), (2, .ref (a 4)), (3, .int x3), (4, .int x4)] → W p l e rm_X_X9_ask__8_5_4 s m args below meth c H locs 0 0 Q (F0 m 5 ls [])) {t : fw_S} {x3 : Int32} {x4 : Int32} {H : Heap} {locs : List Loc} {ls : Array Slot} (hf : b_X_X9_ask__8_5_4_14 k5 t x3 x4 = some (r, u)) (hP : va_P D classes (WX ca a t) H) (hS : va_S A s.heap H locs) (hl : lv_has ls 5 [(0, .ref (a 8)), (1, .ref (a 5)), (2, .ref (a 4)), (3, .int x3), (4, .int x4)]) : W p l e rm_X_X9_ask__8_5_4 s m args below meth c H locs 0 0 Q (F0 m 14 ls []) := by
  obtain ⟨hx, hb, hml, hown, hts, hN, hK, hD, hA⟩ := id C
  have hf : (if ((8 : Int32)) ≤ x4 then b_X_X9_ask__8_5_4_75 t x3 else b_X_X9_ask__8_5_4_21 k5 t x3 x4) = some (r, u) := hf
  refine lv_iload hx hb dX9_ask_14 (lv_at hl 4 rfl) ?_
  refine lv_bipush (v := 8) hx hb dX9_ask_16 (by decide) ?_
  refine lv_icmp_ge (tgt := 75) hx hb dX9_ask_18 (by decide) (fun h_18 => ?_) (fun h_18 => ?_)
  · have hf := fb_t h_18 hf
    exact w_X_X9_ask__8_5_4_75 C hr hf hP hS (lv_sub hl [3] rfl)
  · have hf := fb_f h_18 hf
    exact w_X_X9_ask__8_5_4_21 C hr hk5 hf hP hS (lv_sub hl [0, 1, 2, 3, 4] rfl)
set_option maxRecDepth 20000 in
theorem w_X_X9_ask__8_5_4_5 {p : Program} {l : Launch} {e : Env} {s : State} {m : MethodId} {args : Array Value} {below : List Frame} {meth : Method} {c : Code} {A : Nat → Prop} {Q : State → Prop} {D : va_G} {ca : Nat → ClassId} {a : Nat → Nat} {u : fw_S} {r : Int32}  (C : CX (WX ca a) D (tyv ca) p s m args c A prog_11_method_7_code 5 RX9) (hr : True → RX (WX ca a) D p l e rm_X_X9_ask__8_5_4 s m args below meth c A prog_11_method_7_code Q .ireturn [.int r] u) : ∀ (n : Nat) (t : fw_S) (x3 : Int32) (x4 : Int32) (H : Heap) (locs : List Loc) (ls : Array Slot), b_X_X9_ask__8_5_4_5  n t x3 x4 = some (r, u) → va_P D classes (WX ca a t) H → va_S A s.heap H locs → lv_has ls 5 [(0, .ref (a 8)), (1, .ref (a 5)), (2, .ref (a 4)), (3, .int x3), (4, .int x4)] → W p l e rm_X_X9_ask__8_5_4 s m args below meth c H locs 0 0 Q (F0 m 5 ls []) := by
  obtain ⟨hx, hb, hml, hown, hts, hN, hK, hD, hA⟩ := id C
  intro n
  induction n with
  | zero => intro t x3 x4 H locs ls hf; cases hf
  | succ n hk5 =>
    intro t x3 x4 H locs ls hf hP hS hl
    have hf : (if (st_I t 9) ≤ x4 then b_X_X9_ask__8_5_4_75 t x3 else b_X_X9_ask__8_5_4_14 (b_X_X9_ask__8_5_4_5 n) t x3 x4) = some (r, u) := hf
    refine lv_iload hx hb dX9_ask_5 (lv_at hl 4 rfl) ?_
    refine lv_aload_n hx hb dX9_ask_7 rfl (lv_at hl 0 rfl) ?_
    refine va_get (D := D) (ci := 9) (v := .int (st_I t 9)) (C := RX9) (T := TX9) (N := 12) hx hb hts inX9 hown hK hP 8 (heX_8 ca a t) rfl 3 (by decide) (hts _ kw_279) (fun _ h9 => h9) rfl dX9_ask_8 ?_
    refine lv_icmp_ge (tgt := 75) hx hb dX9_ask_11 (by decide) (fun h_11 => ?_) (fun h_11 => ?_)
    · have hf := fb_t h_11 hf
      exact w_X_X9_ask__8_5_4_75 C hr hf hP hS (lv_sub hl [3] rfl)
    · have hf := fb_f h_11 hf
      exact w_X_X9_ask__8_5_4_14 C hr hk5 hf hP hS (lv_sub hl [0, 1, 2, 3, 4] rfl)
set_option maxRecDepth 20000 in
theorem w_X_X9_ask__8_5_4_0 {p : Program} {l : Launch} {e : Env} {s : State} {m : MethodId} {args : Array Value} {below : List Frame} {meth : Method} {c : Code} {A : Nat → Prop} {Q : State → Prop} {D : va_G} {ca : Nat → ClassId} {a : Nat → Nat} {u : fw_S} {r : Int32}  (C : CX (WX ca a) D (tyv ca) p s m args c A prog_11_method_7_code 5 RX9) (hr : True → RX (WX ca a) D p l e rm_X_X9_ask__8_5_4 s m args below meth c A prog_11_method_7_code Q .ireturn [.int r] u) {t : fw_S}  {H : Heap} {locs : List Loc} {ls : Array Slot} (hf : b_X_X9_ask__8_5_4_0  t  = some (r, u)) (hP : va_P D classes (WX ca a t) H) (hS : va_S A s.heap H locs) (hl : lv_has ls 5 [(0, .ref (a 8)), (1, .ref (a 5)), (2, .ref (a 4))]) : W p l e rm_X_X9_ask__8_5_4 s m args below meth c H locs 0 0 Q (F0 m 0 ls []) := by
  obtain ⟨hx, hb, hml, hown, hts, hN, hK, hD, hA⟩ := id C
  have hf : (b_X_X9_ask__8_5_4_5 3000 t ((0 : Int32)) ((0 : Int32))) = some (r, u) := hf
  refine lv_iconst (v := 0) hx hb dX9_ask_0 (by decide) ?_
  refine lv_istore_n (lv' := [(3, .int ((0 : Int32))), (0, .ref (a 8)), (1, .ref (a 5)), (2, .ref (a 4))]) hx hb dX9_ask_1 rfl hl (by decide) rfl (fun ls hl => ?_)
  refine lv_iconst (v := 0) hx hb dX9_ask_2 (by decide) ?_
  refine lv_istore (lv' := [(4, .int ((0 : Int32))), (3, .int ((0 : Int32))), (0, .ref (a 8)), (1, .ref (a 5)), (2, .ref (a 4))]) hx hb dX9_ask_3 hl (by decide) rfl (fun ls hl => ?_)
  exact w_X_X9_ask__8_5_4_5 C hr 3000 t ((0 : Int32)) ((0 : Int32)) _ _ _ hf hP hS (lv_sub hl [2, 3, 4, 1, 0] rfl)
set_option maxRecDepth 20000 in
theorem c_X_X9_ask__8_5_4 {l : Launch} {D : va_G} {ca : Nat → ClassId} {a : Nat → Nat} {t : fw_S}  {u : fw_S} {r : Int32} (hf : f_X_X9_ask__8_5_4 t  = some (r, u)) : MC (WX ca a) D (tyv ca) l yX9_ask (.code yX9_ask prog_11_method_7_code 5 (some .int) :: lw_gd) rm_X_X9_ask__8_5_4 [.ref (a 8), .ref (a 5), .ref (a 4)] (some (.int r)) t u := by
  refine fw_met (okX ca a) (by decide +kernel) rfl rfl (Nat.le_of_ble_eq_true rfl) ?_
  intro p e s m args below meth c A Q ls C hr hk hP hS hl hQ
  exact w_X_X9_ask__8_5_4_0 C (fun _ => fw_ri C hr hk hQ) hf hP hS (lv_sub hl [0, 1, 2] rfl)
/-! ReactiveSheet.Telling.count()I ['x.telling'] -/
abbrev rm_X_X7_count__6 : Room := { frames := 1, cells := 0, slots := 0, locals := 21 }
def b_X_X7_count__6_0  (t : fw_S)  : Option (Int32 × fw_S) := fb_b (f_X_J13_bitCount_95d88 t (st_J t 8)) fun v_2 t_1 => (some (v_2, t_1))
def f_X_X7_count__6 (t : fw_S)  : Option (Int32 × fw_S) := b_X_X7_count__6_0 t 
set_option maxRecDepth 20000 in
theorem w_X_X7_count__6_0 {p : Program} {l : Launch} {e : Env} {s : State} {m : MethodId} {args : Array Value} {below : List Frame} {meth : Method} {c : Code} {A : Nat → Prop} {Q : State → Prop} {D : va_G} {ca : Nat → ClassId} {a : Nat → Nat} {u : fw_S} {r : Int32}  (C : CX (WX ca a) D (tyv ca) p s m args c A prog_9_method_5_code 1 RX7) (hr : True → RX (WX ca a) D p l e rm_X_X7_count__6 s m args below meth c A prog_9_method_5_code Q .ireturn [.int r] u) {t : fw_S}  {H : Heap} {locs : List Loc} {ls : Array Slot} (hf : b_X_X7_count__6_0  t  = some (r, u)) (hP : va_P D classes (WX ca a t) H) (hS : va_S A s.heap H locs) (hl : lv_has ls 1 [(0, .ref (a 6))]) : W p l e rm_X_X7_count__6 s m args below meth c H locs 0 0 Q (F0 m 0 ls []) := by
  obtain ⟨hx, hb, hml, hown, hts, hN, hK, hD, hA⟩ := id C
  have hf : (fb_b (f_X_J13_bitCount_95d88 t (st_J t 8)) fun v_2 t_1 => (some (v_2, t_1))) = some (r, u) := hf
  refine lv_aload_n hx hb dX7_count_0 rfl (lv_at hl 0 rfl) ?_
  refine va_get (D := D) (ci := 7) (v := .long (st_J t 8)) (C := RX7) (T := TX7) (N := 4) hx hb hts inX7 hown hK hP 6 (heX_6 ca a t) rfl 3 (by decide) (hts _ kw_260) (fun _ h9 => h9) rfl dX7_count_1 ?_
  obtain ⟨v_2, t_1, g_4, hf⟩ := fb_bs hf
  refine fw_S1 (As := [.long (st_J t 8)]) (rest := []) (n := 1) C (c_X_J13_bitCount_95d88 (l := l) (D := D) (ca := ca) (a := a) g_4) kw_657 kw_617 kw_107 kw_618 hP hS hl rfl rfl (by decide) (by decide +kernel) ⟨Nat.le_of_ble_eq_true rfl, Nat.le_of_ble_eq_true rfl⟩ rfl rfl (Nat.le_of_ble_eq_true rfl) dX7_count_4 (fun H locs hP hS => ?_)
  refine W.eq (g2 := F0 m 7 ls [.int v_2]) rfl ?_
  obtain ⟨e_7, e2_7⟩ := fb_e hf
  subst e_7; subst e2_7
  exact hr trivial _ _ _ _ hP hS dX7_count_7
set_option maxRecDepth 20000 in
theorem c_X_X7_count__6 {l : Launch} {D : va_G} {ca : Nat → ClassId} {a : Nat → Nat} {t : fw_S}  {u : fw_S} {r : Int32} (hf : f_X_X7_count__6 t  = some (r, u)) : MC (WX ca a) D (tyv ca) l yX7_count (.code yX7_count prog_9_method_5_code 1 (some .int) :: lw_gd) rm_X_X7_count__6 [.ref (a 6)] (some (.int r)) t u := by
  refine fw_met (okX ca a) (by decide +kernel) rfl rfl (Nat.le_of_ble_eq_true rfl) ?_
  intro p e s m args below meth c A Q ls C hr hk hP hS hl hQ
  exact w_X_X7_count__6_0 C (fun _ => fw_ri C hr hk hQ) hf hP hS (lv_sub hl [0] rfl)
/-! ReactiveSheet.Cells.changedCount()I ['x.engine.now'] -/
abbrev rm_X_X0_changedCount__4 : Room := { frames := 1, cells := 0, slots := 0, locals := 21 }
def b_X_X0_changedCount__4_0  (t : fw_S)  : Option (Int32 × fw_S) := fb_b (f_X_J13_bitCount_95d88 t (st_J t 4)) fun v_2 t_1 => (some (v_2, t_1))
def f_X_X0_changedCount__4 (t : fw_S)  : Option (Int32 × fw_S) := b_X_X0_changedCount__4_0 t 
set_option maxRecDepth 20000 in
theorem w_X_X0_changedCount__4_0 {p : Program} {l : Launch} {e : Env} {s : State} {m : MethodId} {args : Array Value} {below : List Frame} {meth : Method} {c : Code} {A : Nat → Prop} {Q : State → Prop} {D : va_G} {ca : Nat → ClassId} {a : Nat → Nat} {u : fw_S} {r : Int32}  (C : CX (WX ca a) D (tyv ca) p s m args c A prog_2_method_32_code 1 RX0) (hr : True → RX (WX ca a) D p l e rm_X_X0_changedCount__4 s m args below meth c A prog_2_method_32_code Q .ireturn [.int r] u) {t : fw_S}  {H : Heap} {locs : List Loc} {ls : Array Slot} (hf : b_X_X0_changedCount__4_0  t  = some (r, u)) (hP : va_P D classes (WX ca a t) H) (hS : va_S A s.heap H locs) (hl : lv_has ls 1 [(0, .ref (a 4))]) : W p l e rm_X_X0_changedCount__4 s m args below meth c H locs 0 0 Q (F0 m 0 ls []) := by
  obtain ⟨hx, hb, hml, hown, hts, hN, hK, hD, hA⟩ := id C
  have hf : (fb_b (f_X_J13_bitCount_95d88 t (st_J t 4)) fun v_2 t_1 => (some (v_2, t_1))) = some (r, u) := hf
  refine lv_aload_n hx hb dX0_changedCount_0 rfl (lv_at hl 0 rfl) ?_
  refine va_get (D := D) (ci := 0) (v := .long (st_J t 4)) (C := RX0) (T := TX0) (N := 12) hx hb hts inX0 hown hK hP 4 (heX_4 ca a t) rfl 10 (by decide) (hts _ kw_197) (fun _ h9 => h9) rfl dX0_changedCount_1 ?_
  obtain ⟨v_2, t_1, g_4, hf⟩ := fb_bs hf
  refine fw_S1 (As := [.long (st_J t 4)]) (rest := []) (n := 1) C (c_X_J13_bitCount_95d88 (l := l) (D := D) (ca := ca) (a := a) g_4) kw_616 kw_617 kw_107 kw_618 hP hS hl rfl rfl (by decide) (by decide +kernel) ⟨Nat.le_of_ble_eq_true rfl, Nat.le_of_ble_eq_true rfl⟩ rfl rfl (Nat.le_of_ble_eq_true rfl) dX0_changedCount_4 (fun H locs hP hS => ?_)
  refine W.eq (g2 := F0 m 7 ls [.int v_2]) rfl ?_
  obtain ⟨e_7, e2_7⟩ := fb_e hf
  subst e_7; subst e2_7
  exact hr trivial _ _ _ _ hP hS dX0_changedCount_7
set_option maxRecDepth 20000 in
theorem c_X_X0_changedCount__4 {l : Launch} {D : va_G} {ca : Nat → ClassId} {a : Nat → Nat} {t : fw_S}  {u : fw_S} {r : Int32} (hf : f_X_X0_changedCount__4 t  = some (r, u)) : MC (WX ca a) D (tyv ca) l yX0_changedCount (.code yX0_changedCount prog_2_method_32_code 1 (some .int) :: lw_gd) rm_X_X0_changedCount__4 [.ref (a 4)] (some (.int r)) t u := by
  refine fw_met (okX ca a) (by decide +kernel) rfl rfl (Nat.le_of_ble_eq_true rfl) ?_
  intro p e s m args below meth c A Q ls C hr hk hP hS hl hQ
  exact w_X_X0_changedCount__4_0 C (fun _ => fw_ri C hr hk hQ) hf hP hS (lv_sub hl [0] rfl)
/-! java/lang/Math.floorMod(II)I [] -/
abbrev rm_X_J9_floorMod_7cf53 : Room := { frames := 0, cells := 0, slots := 0, locals := 0 }
def b_X_J9_floorMod_7cf53_18  (t : fw_S) (x2 : Int32) : Option (Int32 × fw_S) := some (x2, t)
def b_X_J9_floorMod_7cf53_14  (t : fw_S) (x1 : Int32) (x2 : Int32) : Option (Int32 × fw_S) := some (x2 + x1, t)
def b_X_J9_floorMod_7cf53_10  (t : fw_S) (x1 : Int32) (x2 : Int32) : Option (Int32 × fw_S) := if x2 = 0 then b_X_J9_floorMod_7cf53_18 t x2 else b_X_J9_floorMod_7cf53_14 t x1 x2
def b_X_J9_floorMod_7cf53_0  (t : fw_S) (x0 : Int32) (x1 : Int32) : Option (Int32 × fw_S) := if x1 = 0 then none else (if 0 ≤ (x0 ^^^ x1) then b_X_J9_floorMod_7cf53_18 t (x0 - x0 / x1 * x1) else b_X_J9_floorMod_7cf53_10 t x1 (x0 - x0 / x1 * x1))
def f_X_J9_floorMod_7cf53 (t : fw_S) (x0 : Int32) (x1 : Int32) : Option (Int32 × fw_S) := b_X_J9_floorMod_7cf53_0 t x0 x1
set_option maxRecDepth 20000 in
theorem w_X_J9_floorMod_7cf53_18 {p : Program} {l : Launch} {e : Env} {s : State} {m : MethodId} {args : Array Value} {below : List Frame} {meth : Method} {c : Code} {A : Nat → Prop} {Q : State → Prop} {D : va_G} {ca : Nat → ClassId} {a : Nat → Nat} {u : fw_S} {r : Int32}  (C : CX (WX ca a) D (tyv ca) p s m args c A prog_16_method_50_code 3 RJ9) (hr : True → RX (WX ca a) D p l e rm_X_J9_floorMod_7cf53 s m args below meth c A prog_16_method_50_code Q .ireturn [.int r] u) {t : fw_S} {x2 : Int32} {H : Heap} {locs : List Loc} {ls : Array Slot} (hf : b_X_J9_floorMod_7cf53_18  t x2 = some (r, u)) (hP : va_P D classes (WX ca a t) H) (hS : va_S A s.heap H locs) (hl : lv_has ls 3 [(2, .int x2)]) : W p l e rm_X_J9_floorMod_7cf53 s m args below meth c H locs 0 0 Q (F0 m 18 ls []) := by
  obtain ⟨hx, hb, hml, hown, hts, hN, hK, hD, hA⟩ := id C
  have hf : (some (x2, t)) = some (r, u) := hf
  refine lv_iload_n hx hb dJ9_floorMod_7cf53_18 rfl (lv_at hl 0 rfl) ?_
  obtain ⟨e_19, e2_19⟩ := fb_e hf
  subst e_19; subst e2_19
  exact hr trivial _ _ _ _ hP hS dJ9_floorMod_7cf53_19
set_option maxRecDepth 20000 in
theorem w_X_J9_floorMod_7cf53_14 {p : Program} {l : Launch} {e : Env} {s : State} {m : MethodId} {args : Array Value} {below : List Frame} {meth : Method} {c : Code} {A : Nat → Prop} {Q : State → Prop} {D : va_G} {ca : Nat → ClassId} {a : Nat → Nat} {u : fw_S} {r : Int32}  (C : CX (WX ca a) D (tyv ca) p s m args c A prog_16_method_50_code 3 RJ9) (hr : True → RX (WX ca a) D p l e rm_X_J9_floorMod_7cf53 s m args below meth c A prog_16_method_50_code Q .ireturn [.int r] u) {t : fw_S} {x1 : Int32} {x2 : Int32} {H : Heap} {locs : List Loc} {ls : Array Slot} (hf : b_X_J9_floorMod_7cf53_14  t x1 x2 = some (r, u)) (hP : va_P D classes (WX ca a t) H) (hS : va_S A s.heap H locs) (hl : lv_has ls 3 [(1, .int x1), (2, .int x2)]) : W p l e rm_X_J9_floorMod_7cf53 s m args below meth c H locs 0 0 Q (F0 m 14 ls []) := by
  obtain ⟨hx, hb, hml, hown, hts, hN, hK, hD, hA⟩ := id C
  have hf : (some (x2 + x1, t)) = some (r, u) := hf
  refine lv_iload_n hx hb dJ9_floorMod_7cf53_14 rfl (lv_at hl 1 rfl) ?_
  refine lv_iload_n hx hb dJ9_floorMod_7cf53_15 rfl (lv_at hl 0 rfl) ?_
  refine lv_iadd hx hb dJ9_floorMod_7cf53_16 ?_
  obtain ⟨e_17, e2_17⟩ := fb_e hf
  subst e_17; subst e2_17
  exact hr trivial _ _ _ _ hP hS dJ9_floorMod_7cf53_17
set_option maxRecDepth 20000 in
theorem w_X_J9_floorMod_7cf53_10 {p : Program} {l : Launch} {e : Env} {s : State} {m : MethodId} {args : Array Value} {below : List Frame} {meth : Method} {c : Code} {A : Nat → Prop} {Q : State → Prop} {D : va_G} {ca : Nat → ClassId} {a : Nat → Nat} {u : fw_S} {r : Int32}  (C : CX (WX ca a) D (tyv ca) p s m args c A prog_16_method_50_code 3 RJ9) (hr : True → RX (WX ca a) D p l e rm_X_J9_floorMod_7cf53 s m args below meth c A prog_16_method_50_code Q .ireturn [.int r] u) {t : fw_S} {x1 : Int32} {x2 : Int32} {H : Heap} {locs : List Loc} {ls : Array Slot} (hf : b_X_J9_floorMod_7cf53_10  t x1 x2 = some (r, u)) (hP : va_P D classes (WX ca a t) H) (hS : va_S A s.heap H locs) (hl : lv_has ls 3 [(1, .int x1), (2, .int x2)]) : W p l e rm_X_J9_floorMod_7cf53 s m args below meth c H locs 0 0 Q (F0 m 10 ls []) := by
  obtain ⟨hx, hb, hml, hown, hts, hN, hK, hD, hA⟩ := id C
  have hf : (if x2 = 0 then b_X_J9_floorMod_7cf53_18 t x2 else b_X_J9_floorMod_7cf53_14 t x1 x2) = some (r, u) := hf
  refine lv_iload_n hx hb dJ9_floorMod_7cf53_10 rfl (lv_at hl 1 rfl) ?_
  refine lv_if_eq (tgt := 18) hx hb dJ9_floorMod_7cf53_11 (by decide) (fun h_11 => ?_) (fun h_11 => ?_)
  · have hf := fb_t h_11 hf
    exact w_X_J9_floorMod_7cf53_18 C hr hf hP hS (lv_sub hl [1] rfl)
  · have hf := fb_f h_11 hf
    exact w_X_J9_floorMod_7cf53_14 C hr hf hP hS (lv_sub hl [0, 1] rfl)
set_option maxRecDepth 20000 in
theorem w_X_J9_floorMod_7cf53_0 {p : Program} {l : Launch} {e : Env} {s : State} {m : MethodId} {args : Array Value} {below : List Frame} {meth : Method} {c : Code} {A : Nat → Prop} {Q : State → Prop} {D : va_G} {ca : Nat → ClassId} {a : Nat → Nat} {u : fw_S} {r : Int32}  (C : CX (WX ca a) D (tyv ca) p s m args c A prog_16_method_50_code 3 RJ9) (hr : True → RX (WX ca a) D p l e rm_X_J9_floorMod_7cf53 s m args below meth c A prog_16_method_50_code Q .ireturn [.int r] u) {t : fw_S} {x0 : Int32} {x1 : Int32} {H : Heap} {locs : List Loc} {ls : Array Slot} (hf : b_X_J9_floorMod_7cf53_0  t x0 x1 = some (r, u)) (hP : va_P D classes (WX ca a t) H) (hS : va_S A s.heap H locs) (hl : lv_has ls 3 [(0, .int x0), (1, .int x1)]) : W p l e rm_X_J9_floorMod_7cf53 s m args below meth c H locs 0 0 Q (F0 m 0 ls []) := by
  obtain ⟨hx, hb, hml, hown, hts, hN, hK, hD, hA⟩ := id C
  have hf : (if x1 = 0 then none else (if 0 ≤ (x0 ^^^ x1) then b_X_J9_floorMod_7cf53_18 t (x0 - x0 / x1 * x1) else b_X_J9_floorMod_7cf53_10 t x1 (x0 - x0 / x1 * x1))) = some (r, u) := hf
  refine lv_iload_n hx hb dJ9_floorMod_7cf53_0 rfl (lv_at hl 0 rfl) ?_
  refine lv_iload_n hx hb dJ9_floorMod_7cf53_1 rfl (lv_at hl 1 rfl) ?_
  obtain ⟨h_2, hf⟩ := fb_ifn hf
  refine lv_irem hx hb dJ9_floorMod_7cf53_2 h_2 ?_
  refine lv_istore_n (lv' := [(2, .int (x0 - x0 / x1 * x1)), (0, .int x0), (1, .int x1)]) hx hb dJ9_floorMod_7cf53_3 rfl hl (by decide) rfl (fun ls hl => ?_)
  refine lv_iload_n hx hb dJ9_floorMod_7cf53_4 rfl (lv_at hl 1 rfl) ?_
  refine lv_iload_n hx hb dJ9_floorMod_7cf53_5 rfl (lv_at hl 2 rfl) ?_
  refine lv_ixor hx hb dJ9_floorMod_7cf53_6 ?_
  refine lv_if_ge (tgt := 18) hx hb dJ9_floorMod_7cf53_7 (by decide) (fun h_7 => ?_) (fun h_7 => ?_)
  · have hf := fb_t h_7 hf
    exact w_X_J9_floorMod_7cf53_18 C hr hf hP hS (lv_sub hl [0] rfl)
  · have hf := fb_f h_7 hf
    exact w_X_J9_floorMod_7cf53_10 C hr hf hP hS (lv_sub hl [2, 0] rfl)
set_option maxRecDepth 20000 in
theorem c_X_J9_floorMod_7cf53 {l : Launch} {D : va_G} {ca : Nat → ClassId} {a : Nat → Nat} {t : fw_S} {x0 : Int32} {x1 : Int32} {u : fw_S} {r : Int32} (hf : f_X_J9_floorMod_7cf53 t x0 x1 = some (r, u)) : MC (WX ca a) D (tyv ca) l yJ9_floorMod_7cf53 (.code yJ9_floorMod_7cf53 prog_16_method_50_code 3 (some .int) :: lw_gd) rm_X_J9_floorMod_7cf53 [.int x0, .int x1] (some (.int r)) t u := by
  refine fw_met (okX ca a) (by decide +kernel) rfl rfl (Nat.le_of_ble_eq_true rfl) ?_
  intro p e s m args below meth c A Q ls C hr hk hP hS hl hQ
  exact w_X_J9_floorMod_7cf53_0 C (fun _ => fw_ri C hr hk hQ) hf hP hS (lv_sub hl [0, 1] rfl)
