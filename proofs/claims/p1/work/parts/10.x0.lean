theorem dJ7_fill_53178_0 : decode prog_18_method_103_code 0 = .ok (.iconst 0, 1) := by decide +kernel
theorem dJ7_fill_53178_1 : decode prog_18_method_103_code 1 = .ok (.istore_n 2, 1) := by decide +kernel
theorem dJ7_fill_53178_2 : decode prog_18_method_103_code 2 = .ok (.aload_n 0, 1) := by decide +kernel
theorem dJ7_fill_53178_3 : decode prog_18_method_103_code 3 = .ok (.arraylength, 1) := by decide +kernel
theorem dJ7_fill_53178_4 : decode prog_18_method_103_code 4 = .ok (.istore_n 3, 1) := by decide +kernel
theorem dJ7_fill_53178_5 : decode prog_18_method_103_code 5 = .ok (.iload_n 2, 1) := by decide +kernel
theorem dJ7_fill_53178_6 : decode prog_18_method_103_code 6 = .ok (.iload_n 3, 1) := by decide +kernel
theorem dJ7_fill_53178_7 : decode prog_18_method_103_code 7 = .ok (.if_icmp .ge 13, 3) := by decide +kernel
theorem dJ7_fill_53178_10 : decode prog_18_method_103_code 10 = .ok (.aload_n 0, 1) := by decide +kernel
theorem dJ7_fill_53178_11 : decode prog_18_method_103_code 11 = .ok (.iload_n 2, 1) := by decide +kernel
theorem dJ7_fill_53178_12 : decode prog_18_method_103_code 12 = .ok (.iload_n 1, 1) := by decide +kernel
theorem dJ7_fill_53178_13 : decode prog_18_method_103_code 13 = .ok (.iastore, 1) := by decide +kernel
theorem dJ7_fill_53178_14 : decode prog_18_method_103_code 14 = .ok (.iinc 2 1, 3) := by decide +kernel
theorem dJ7_fill_53178_17 : decode prog_18_method_103_code 17 = .ok (.goto (-12), 3) := by decide +kernel
theorem dJ7_fill_53178_20 : decode prog_18_method_103_code 20 = .ok (.return_, 1) := by decide +kernel
theorem dJ9_max_7cf53_0 : decode prog_16_method_65_code 0 = .ok (.iload_n 0, 1) := by decide +kernel
theorem dJ9_max_7cf53_1 : decode prog_16_method_65_code 1 = .ok (.iload_n 1, 1) := by decide +kernel
theorem dJ9_max_7cf53_2 : decode prog_16_method_65_code 2 = .ok (.if_icmp .lt 7, 3) := by decide +kernel
theorem dJ9_max_7cf53_5 : decode prog_16_method_65_code 5 = .ok (.iload_n 0, 1) := by decide +kernel
theorem dJ9_max_7cf53_6 : decode prog_16_method_65_code 6 = .ok (.goto 4, 3) := by decide +kernel
theorem dJ9_max_7cf53_9 : decode prog_16_method_65_code 9 = .ok (.iload_n 1, 1) := by decide +kernel
theorem dJ9_max_7cf53_10 : decode prog_16_method_65_code 10 = .ok (.ireturn, 1) := by decide +kernel
theorem dX0_become_0 : decode prog_2_method_4_code 0 = .ok (.iload_n 1, 1) := by decide +kernel
theorem dX0_become_1 : decode prog_2_method_4_code 1 = .ok (.i2l, 1) := by decide +kernel
theorem dX0_become_2 : decode prog_2_method_4_code 2 = .ok (.invokestatic 69, 3) := by decide +kernel
theorem dX0_become_5 : decode prog_2_method_4_code 5 = .ok (.ifCond .ne 4, 3) := by decide +kernel
theorem dX0_become_8 : decode prog_2_method_4_code 8 = .ok (.return_, 1) := by decide +kernel
theorem dX0_become_9 : decode prog_2_method_4_code 9 = .ok (.aload_n 0, 1) := by decide +kernel
theorem dX0_become_10 : decode prog_2_method_4_code 10 = .ok (.getfield 9, 3) := by decide +kernel
theorem dX0_become_13 : decode prog_2_method_4_code 13 = .ok (.iload_n 1, 1) := by decide +kernel
theorem dX0_become_14 : decode prog_2_method_4_code 14 = .ok (.iload_n 2, 1) := by decide +kernel
theorem dX0_become_15 : decode prog_2_method_4_code 15 = .ok (.iastore, 1) := by decide +kernel
theorem dX0_become_16 : decode prog_2_method_4_code 16 = .ok (.aload_n 0, 1) := by decide +kernel
theorem dX0_become_17 : decode prog_2_method_4_code 17 = .ok (.getfield 24, 3) := by decide +kernel
theorem dX0_become_20 : decode prog_2_method_4_code 20 = .ok (.iload_n 1, 1) := by decide +kernel
theorem dX0_become_21 : decode prog_2_method_4_code 21 = .ok (.aload 5, 2) := by decide +kernel
theorem dX0_become_23 : decode prog_2_method_4_code 23 = .ok (.aastore, 1) := by decide +kernel
theorem dX0_become_24 : decode prog_2_method_4_code 24 = .ok (.aload_n 0, 1) := by decide +kernel
theorem dX0_become_25 : decode prog_2_method_4_code 25 = .ok (.getfield 28, 3) := by decide +kernel
theorem dX0_become_28 : decode prog_2_method_4_code 28 = .ok (.iload_n 1, 1) := by decide +kernel
theorem dX0_become_29 : decode prog_2_method_4_code 29 = .ok (.iconst 0, 1) := by decide +kernel
theorem dX0_become_30 : decode prog_2_method_4_code 30 = .ok (.iastore, 1) := by decide +kernel
theorem dX0_become_31 : decode prog_2_method_4_code 31 = .ok (.aload_n 0, 1) := by decide +kernel
theorem dX0_become_32 : decode prog_2_method_4_code 32 = .ok (.getfield 31, 3) := by decide +kernel
theorem dX0_become_35 : decode prog_2_method_4_code 35 = .ok (.iload_n 1, 1) := by decide +kernel
theorem dX0_become_36 : decode prog_2_method_4_code 36 = .ok (.iconst 0, 1) := by decide +kernel
theorem dX0_become_37 : decode prog_2_method_4_code 37 = .ok (.iastore, 1) := by decide +kernel
theorem dX0_become_38 : decode prog_2_method_4_code 38 = .ok (.aload_n 0, 1) := by decide +kernel
theorem dX0_become_39 : decode prog_2_method_4_code 39 = .ok (.getfield 40, 3) := by decide +kernel
theorem dX0_become_42 : decode prog_2_method_4_code 42 = .ok (.iload_n 1, 1) := by decide +kernel
theorem dX0_become_43 : decode prog_2_method_4_code 43 = .ok (.iconst 0, 1) := by decide +kernel
theorem dX0_become_44 : decode prog_2_method_4_code 44 = .ok (.iastore, 1) := by decide +kernel
theorem dX0_become_45 : decode prog_2_method_4_code 45 = .ok (.aload_n 0, 1) := by decide +kernel
theorem dX0_become_46 : decode prog_2_method_4_code 46 = .ok (.getfield 43, 3) := by decide +kernel
theorem dX0_become_49 : decode prog_2_method_4_code 49 = .ok (.iload_n 1, 1) := by decide +kernel
theorem dX0_become_50 : decode prog_2_method_4_code 50 = .ok (.lconst 0, 1) := by decide +kernel
theorem dX0_become_51 : decode prog_2_method_4_code 51 = .ok (.lastore, 1) := by decide +kernel
theorem dX0_become_52 : decode prog_2_method_4_code 52 = .ok (.iload_n 2, 1) := by decide +kernel
theorem dX0_become_53 : decode prog_2_method_4_code 53 = .ok (.iconst 1, 1) := by decide +kernel
theorem dX0_become_54 : decode prog_2_method_4_code 54 = .ok (.if_icmp .ne 20, 3) := by decide +kernel
theorem dX0_become_57 : decode prog_2_method_4_code 57 = .ok (.aload_n 0, 1) := by decide +kernel
theorem dX0_become_58 : decode prog_2_method_4_code 58 = .ok (.getfield 15, 3) := by decide +kernel
theorem dX0_become_61 : decode prog_2_method_4_code 61 = .ok (.iload_n 1, 1) := by decide +kernel
theorem dX0_become_62 : decode prog_2_method_4_code 62 = .ok (.lload_n 3, 1) := by decide +kernel
theorem dX0_become_63 : decode prog_2_method_4_code 63 = .ok (.lastore, 1) := by decide +kernel
theorem dX0_become_64 : decode prog_2_method_4_code 64 = .ok (.aload_n 0, 1) := by decide +kernel
theorem dX0_become_65 : decode prog_2_method_4_code 65 = .ok (.getfield 19, 3) := by decide +kernel
theorem dX0_become_68 : decode prog_2_method_4_code 68 = .ok (.iload_n 1, 1) := by decide +kernel
theorem dX0_become_69 : decode prog_2_method_4_code 69 = .ok (.iconst 0, 1) := by decide +kernel
theorem dX0_become_70 : decode prog_2_method_4_code 70 = .ok (.iastore, 1) := by decide +kernel
theorem dX0_become_71 : decode prog_2_method_4_code 71 = .ok (.goto 21, 3) := by decide +kernel
theorem dX0_become_74 : decode prog_2_method_4_code 74 = .ok (.iload_n 2, 1) := by decide +kernel
theorem dX0_become_75 : decode prog_2_method_4_code 75 = .ok (.ifCond .ne 17, 3) := by decide +kernel
theorem dX0_become_78 : decode prog_2_method_4_code 78 = .ok (.aload_n 0, 1) := by decide +kernel
theorem dX0_become_79 : decode prog_2_method_4_code 79 = .ok (.getfield 15, 3) := by decide +kernel
theorem dX0_become_82 : decode prog_2_method_4_code 82 = .ok (.iload_n 1, 1) := by decide +kernel
theorem dX0_become_83 : decode prog_2_method_4_code 83 = .ok (.lconst 0, 1) := by decide +kernel
theorem dX0_become_84 : decode prog_2_method_4_code 84 = .ok (.lastore, 1) := by decide +kernel
theorem dX0_become_85 : decode prog_2_method_4_code 85 = .ok (.aload_n 0, 1) := by decide +kernel
theorem dX0_become_86 : decode prog_2_method_4_code 86 = .ok (.getfield 19, 3) := by decide +kernel
theorem dX0_become_89 : decode prog_2_method_4_code 89 = .ok (.iload_n 1, 1) := by decide +kernel
theorem dX0_become_90 : decode prog_2_method_4_code 90 = .ok (.iconst 3, 1) := by decide +kernel
theorem dX0_become_91 : decode prog_2_method_4_code 91 = .ok (.iastore, 1) := by decide +kernel
theorem dX0_become_92 : decode prog_2_method_4_code 92 = .ok (.return_, 1) := by decide +kernel
theorem dX0_compare_0 : decode prog_2_method_8_code 0 = .ok (.iload_n 1, 1) := by decide +kernel
theorem dX0_compare_1 : decode prog_2_method_8_code 1 = .ok (.i2l, 1) := by decide +kernel
theorem dX0_compare_2 : decode prog_2_method_8_code 2 = .ok (.invokestatic 69, 3) := by decide +kernel
theorem dX0_compare_5 : decode prog_2_method_8_code 5 = .ok (.ifCond .eq 47, 3) := by decide +kernel
theorem dX0_compare_8 : decode prog_2_method_8_code 8 = .ok (.aload_n 0, 1) := by decide +kernel
theorem dX0_compare_9 : decode prog_2_method_8_code 9 = .ok (.getfield 19, 3) := by decide +kernel
theorem dX0_compare_12 : decode prog_2_method_8_code 12 = .ok (.iload_n 1, 1) := by decide +kernel
theorem dX0_compare_13 : decode prog_2_method_8_code 13 = .ok (.iaload, 1) := by decide +kernel
theorem dX0_compare_14 : decode prog_2_method_8_code 14 = .ok (.aload_n 2, 1) := by decide +kernel
theorem dX0_compare_15 : decode prog_2_method_8_code 15 = .ok (.getfield 19, 3) := by decide +kernel
theorem dX0_compare_18 : decode prog_2_method_8_code 18 = .ok (.iload_n 1, 1) := by decide +kernel
theorem dX0_compare_19 : decode prog_2_method_8_code 19 = .ok (.iaload, 1) := by decide +kernel
theorem dX0_compare_20 : decode prog_2_method_8_code 20 = .ok (.if_icmp .ne 19, 3) := by decide +kernel
theorem dX0_compare_23 : decode prog_2_method_8_code 23 = .ok (.aload_n 0, 1) := by decide +kernel
theorem dX0_compare_24 : decode prog_2_method_8_code 24 = .ok (.getfield 15, 3) := by decide +kernel
theorem dX0_compare_27 : decode prog_2_method_8_code 27 = .ok (.iload_n 1, 1) := by decide +kernel
theorem dX0_compare_28 : decode prog_2_method_8_code 28 = .ok (.laload, 1) := by decide +kernel
theorem dX0_compare_29 : decode prog_2_method_8_code 29 = .ok (.aload_n 2, 1) := by decide +kernel
theorem dX0_compare_30 : decode prog_2_method_8_code 30 = .ok (.getfield 15, 3) := by decide +kernel
theorem dX0_compare_33 : decode prog_2_method_8_code 33 = .ok (.iload_n 1, 1) := by decide +kernel
theorem dX0_compare_34 : decode prog_2_method_8_code 34 = .ok (.laload, 1) := by decide +kernel
theorem dX0_compare_35 : decode prog_2_method_8_code 35 = .ok (.lcmp, 1) := by decide +kernel
theorem dX0_compare_36 : decode prog_2_method_8_code 36 = .ok (.ifCond .eq 16, 3) := by decide +kernel
theorem dX0_compare_39 : decode prog_2_method_8_code 39 = .ok (.aload_n 0, 1) := by decide +kernel
theorem dX0_compare_40 : decode prog_2_method_8_code 40 = .ok (.dup, 1) := by decide +kernel
theorem dX0_compare_41 : decode prog_2_method_8_code 41 = .ok (.getfield 46, 3) := by decide +kernel
theorem dX0_compare_44 : decode prog_2_method_8_code 44 = .ok (.iload_n 1, 1) := by decide +kernel
theorem dX0_compare_45 : decode prog_2_method_8_code 45 = .ok (.invokestatic 73, 3) := by decide +kernel
theorem dX0_compare_48 : decode prog_2_method_8_code 48 = .ok (.lor, 1) := by decide +kernel
theorem dX0_compare_49 : decode prog_2_method_8_code 49 = .ok (.putfield 46, 3) := by decide +kernel
theorem dX0_compare_52 : decode prog_2_method_8_code 52 = .ok (.return_, 1) := by decide +kernel
theorem dX0_formulaOf_0 : decode prog_2_method_13_code 0 = .ok (.iload_n 1, 1) := by decide +kernel
theorem dX0_formulaOf_1 : decode prog_2_method_13_code 1 = .ok (.i2l, 1) := by decide +kernel
theorem dX0_formulaOf_2 : decode prog_2_method_13_code 2 = .ok (.invokestatic 69, 3) := by decide +kernel
theorem dX0_formulaOf_5 : decode prog_2_method_13_code 5 = .ok (.ifCond .eq 12, 3) := by decide +kernel
theorem dX0_formulaOf_8 : decode prog_2_method_13_code 8 = .ok (.aload_n 0, 1) := by decide +kernel
theorem dX0_formulaOf_9 : decode prog_2_method_13_code 9 = .ok (.getfield 24, 3) := by decide +kernel
theorem dX0_formulaOf_12 : decode prog_2_method_13_code 12 = .ok (.iload_n 1, 1) := by decide +kernel
theorem dX0_formulaOf_13 : decode prog_2_method_13_code 13 = .ok (.aaload, 1) := by decide +kernel
theorem dX0_formulaOf_14 : decode prog_2_method_13_code 14 = .ok (.goto 4, 3) := by decide +kernel
theorem dX0_formulaOf_17 : decode prog_2_method_13_code 17 = .ok (.aconst_null, 1) := by decide +kernel
theorem dX0_formulaOf_18 : decode prog_2_method_13_code 18 = .ok (.areturn, 1) := by decide +kernel
theorem dX0_heightOf_0 : decode prog_2_method_14_code 0 = .ok (.iload_n 1, 1) := by decide +kernel
theorem dX0_heightOf_1 : decode prog_2_method_14_code 1 = .ok (.i2l, 1) := by decide +kernel
theorem dX0_heightOf_2 : decode prog_2_method_14_code 2 = .ok (.invokestatic 69, 3) := by decide +kernel
theorem dX0_heightOf_5 : decode prog_2_method_14_code 5 = .ok (.ifCond .eq 12, 3) := by decide +kernel
theorem dX0_heightOf_8 : decode prog_2_method_14_code 8 = .ok (.aload_n 0, 1) := by decide +kernel
theorem dX0_heightOf_9 : decode prog_2_method_14_code 9 = .ok (.getfield 31, 3) := by decide +kernel
theorem dX0_heightOf_12 : decode prog_2_method_14_code 12 = .ok (.iload_n 1, 1) := by decide +kernel
theorem dX0_heightOf_13 : decode prog_2_method_14_code 13 = .ok (.iaload, 1) := by decide +kernel
theorem dX0_heightOf_14 : decode prog_2_method_14_code 14 = .ok (.goto 4, 3) := by decide +kernel
theorem dX0_heightOf_17 : decode prog_2_method_14_code 17 = .ok (.iconst 0, 1) := by decide +kernel
theorem dX0_heightOf_18 : decode prog_2_method_14_code 18 = .ok (.ireturn, 1) := by decide +kernel
theorem dX0_measure_0 : decode prog_2_method_9_code 0 = .ok (.iload_n 1, 1) := by decide +kernel
theorem dX0_measure_1 : decode prog_2_method_9_code 1 = .ok (.i2l, 1) := by decide +kernel
theorem dX0_measure_2 : decode prog_2_method_9_code 2 = .ok (.invokestatic 69, 3) := by decide +kernel
theorem dX0_measure_5 : decode prog_2_method_9_code 5 = .ok (.ifCond .ne 4, 3) := by decide +kernel
theorem dX0_measure_8 : decode prog_2_method_9_code 8 = .ok (.return_, 1) := by decide +kernel
theorem dX0_measure_9 : decode prog_2_method_9_code 9 = .ok (.iconst 0, 1) := by decide +kernel
theorem dX0_measure_10 : decode prog_2_method_9_code 10 = .ok (.istore_n 2, 1) := by decide +kernel
theorem dX0_measure_11 : decode prog_2_method_9_code 11 = .ok (.iconst 0, 1) := by decide +kernel
theorem dX0_measure_12 : decode prog_2_method_9_code 12 = .ok (.istore_n 3, 1) := by decide +kernel
theorem dX0_measure_13 : decode prog_2_method_9_code 13 = .ok (.iload_n 3, 1) := by decide +kernel
theorem dX0_measure_14 : decode prog_2_method_9_code 14 = .ok (.aload_n 0, 1) := by decide +kernel
theorem dX0_measure_15 : decode prog_2_method_9_code 15 = .ok (.getfield 40, 3) := by decide +kernel
theorem dX0_measure_18 : decode prog_2_method_9_code 18 = .ok (.iload_n 1, 1) := by decide +kernel
theorem dX0_measure_19 : decode prog_2_method_9_code 19 = .ok (.iaload, 1) := by decide +kernel
theorem dX0_measure_20 : decode prog_2_method_9_code 20 = .ok (.if_icmp .ge 35, 3) := by decide +kernel
theorem dX0_measure_23 : decode prog_2_method_9_code 23 = .ok (.iload_n 3, 1) := by decide +kernel
theorem dX0_measure_24 : decode prog_2_method_9_code 24 = .ok (.bipush 32, 2) := by decide +kernel
theorem dX0_measure_26 : decode prog_2_method_9_code 26 = .ok (.if_icmp .ge 29, 3) := by decide +kernel
theorem dX0_measure_29 : decode prog_2_method_9_code 29 = .ok (.iload_n 2, 1) := by decide +kernel
theorem dX0_measure_30 : decode prog_2_method_9_code 30 = .ok (.aload_n 0, 1) := by decide +kernel
theorem dX0_measure_31 : decode prog_2_method_9_code 31 = .ok (.aload_n 0, 1) := by decide +kernel
theorem dX0_measure_32 : decode prog_2_method_9_code 32 = .ok (.getfield 37, 3) := by decide +kernel
theorem dX0_measure_35 : decode prog_2_method_9_code 35 = .ok (.iload_n 1, 1) := by decide +kernel
theorem dX0_measure_36 : decode prog_2_method_9_code 36 = .ok (.bipush 32, 2) := by decide +kernel
theorem dX0_measure_38 : decode prog_2_method_9_code 38 = .ok (.imul, 1) := by decide +kernel
theorem dX0_measure_39 : decode prog_2_method_9_code 39 = .ok (.iload_n 3, 1) := by decide +kernel
theorem dX0_measure_40 : decode prog_2_method_9_code 40 = .ok (.iadd, 1) := by decide +kernel
theorem dX0_measure_41 : decode prog_2_method_9_code 41 = .ok (.iaload, 1) := by decide +kernel
theorem dX0_measure_42 : decode prog_2_method_9_code 42 = .ok (.invokevirtual 81, 3) := by decide +kernel
theorem dX0_measure_45 : decode prog_2_method_9_code 45 = .ok (.invokestatic 84, 3) := by decide +kernel
theorem dX0_measure_48 : decode prog_2_method_9_code 48 = .ok (.istore_n 2, 1) := by decide +kernel
theorem dX0_measure_49 : decode prog_2_method_9_code 49 = .ok (.iinc 3 1, 3) := by decide +kernel
theorem dX0_measure_52 : decode prog_2_method_9_code 52 = .ok (.goto (-39), 3) := by decide +kernel
theorem dX0_measure_55 : decode prog_2_method_9_code 55 = .ok (.aload_n 0, 1) := by decide +kernel
theorem dX0_measure_56 : decode prog_2_method_9_code 56 = .ok (.getfield 31, 3) := by decide +kernel
theorem dX0_measure_59 : decode prog_2_method_9_code 59 = .ok (.iload_n 1, 1) := by decide +kernel
theorem dX0_measure_60 : decode prog_2_method_9_code 60 = .ok (.iload_n 2, 1) := by decide +kernel
theorem dX0_measure_61 : decode prog_2_method_9_code 61 = .ok (.iconst 1, 1) := by decide +kernel
theorem dX0_measure_62 : decode prog_2_method_9_code 62 = .ok (.iadd, 1) := by decide +kernel
theorem dX0_measure_63 : decode prog_2_method_9_code 63 = .ok (.iastore, 1) := by decide +kernel
theorem dX0_measure_64 : decode prog_2_method_9_code 64 = .ok (.return_, 1) := by decide +kernel
theorem dX0_plain_0 : decode prog_2_method_30_code 0 = .ok (.lconst 0, 1) := by decide +kernel
theorem dX0_plain_1 : decode prog_2_method_30_code 1 = .ok (.lstore_n 1, 1) := by decide +kernel
theorem dX0_plain_2 : decode prog_2_method_30_code 2 = .ok (.iconst 0, 1) := by decide +kernel
theorem dX0_plain_3 : decode prog_2_method_30_code 3 = .ok (.istore_n 3, 1) := by decide +kernel
theorem dX0_plain_4 : decode prog_2_method_30_code 4 = .ok (.iload_n 3, 1) := by decide +kernel
theorem dX0_plain_5 : decode prog_2_method_30_code 5 = .ok (.bipush 32, 2) := by decide +kernel
theorem dX0_plain_7 : decode prog_2_method_30_code 7 = .ok (.if_icmp .ge 26, 3) := by decide +kernel
theorem dX0_plain_10 : decode prog_2_method_30_code 10 = .ok (.aload_n 0, 1) := by decide +kernel
theorem dX0_plain_11 : decode prog_2_method_30_code 11 = .ok (.getfield 9, 3) := by decide +kernel
theorem dX0_plain_14 : decode prog_2_method_30_code 14 = .ok (.iload_n 3, 1) := by decide +kernel
theorem dX0_plain_15 : decode prog_2_method_30_code 15 = .ok (.iaload, 1) := by decide +kernel
theorem dX0_plain_16 : decode prog_2_method_30_code 16 = .ok (.iconst 2, 1) := by decide +kernel
theorem dX0_plain_17 : decode prog_2_method_30_code 17 = .ok (.if_icmp .eq 10, 3) := by decide +kernel
theorem dX0_plain_20 : decode prog_2_method_30_code 20 = .ok (.lload_n 1, 1) := by decide +kernel
theorem dX0_plain_21 : decode prog_2_method_30_code 21 = .ok (.iload_n 3, 1) := by decide +kernel
theorem dX0_plain_22 : decode prog_2_method_30_code 22 = .ok (.invokestatic 73, 3) := by decide +kernel
theorem dX0_plain_25 : decode prog_2_method_30_code 25 = .ok (.lor, 1) := by decide +kernel
theorem dX0_plain_26 : decode prog_2_method_30_code 26 = .ok (.lstore_n 1, 1) := by decide +kernel
theorem dX0_plain_27 : decode prog_2_method_30_code 27 = .ok (.iinc 3 1, 3) := by decide +kernel
theorem dX0_plain_30 : decode prog_2_method_30_code 30 = .ok (.goto (-26), 3) := by decide +kernel
theorem dX0_plain_33 : decode prog_2_method_30_code 33 = .ok (.lload_n 1, 1) := by decide +kernel
theorem dX0_plain_34 : decode prog_2_method_30_code 34 = .ok (.lreturn, 1) := by decide +kernel
theorem dX0_readCount_0 : decode prog_2_method_19_code 0 = .ok (.iload_n 1, 1) := by decide +kernel
theorem dX0_readCount_1 : decode prog_2_method_19_code 1 = .ok (.i2l, 1) := by decide +kernel
theorem dX0_readCount_2 : decode prog_2_method_19_code 2 = .ok (.invokestatic 69, 3) := by decide +kernel
theorem dX0_readCount_5 : decode prog_2_method_19_code 5 = .ok (.ifCond .eq 12, 3) := by decide +kernel
theorem dX0_readCount_8 : decode prog_2_method_19_code 8 = .ok (.aload_n 0, 1) := by decide +kernel
theorem dX0_readCount_9 : decode prog_2_method_19_code 9 = .ok (.getfield 40, 3) := by decide +kernel
theorem dX0_readCount_12 : decode prog_2_method_19_code 12 = .ok (.iload_n 1, 1) := by decide +kernel
theorem dX0_readCount_13 : decode prog_2_method_19_code 13 = .ok (.iaload, 1) := by decide +kernel
theorem dX0_readCount_14 : decode prog_2_method_19_code 14 = .ok (.goto 4, 3) := by decide +kernel
theorem dX0_readCount_17 : decode prog_2_method_19_code 17 = .ok (.iconst 0, 1) := by decide +kernel
theorem dX0_readCount_18 : decode prog_2_method_19_code 18 = .ok (.ireturn, 1) := by decide +kernel
theorem dX0_startRun_0 : decode prog_2_method_5_code 0 = .ok (.iload_n 1, 1) := by decide +kernel
theorem dX0_startRun_1 : decode prog_2_method_5_code 1 = .ok (.i2l, 1) := by decide +kernel
theorem dX0_startRun_2 : decode prog_2_method_5_code 2 = .ok (.invokestatic 69, 3) := by decide +kernel
theorem dX0_startRun_5 : decode prog_2_method_5_code 5 = .ok (.ifCond .eq 47, 3) := by decide +kernel
theorem dX0_startRun_8 : decode prog_2_method_5_code 8 = .ok (.aload_n 0, 1) := by decide +kernel
theorem dX0_startRun_9 : decode prog_2_method_5_code 9 = .ok (.dup, 1) := by decide +kernel
theorem dX0_startRun_10 : decode prog_2_method_5_code 10 = .ok (.getfield 50, 3) := by decide +kernel
theorem dX0_startRun_13 : decode prog_2_method_5_code 13 = .ok (.iload_n 1, 1) := by decide +kernel
theorem dX0_startRun_14 : decode prog_2_method_5_code 14 = .ok (.invokestatic 73, 3) := by decide +kernel
theorem dX0_startRun_17 : decode prog_2_method_5_code 17 = .ok (.lor, 1) := by decide +kernel
theorem dX0_startRun_18 : decode prog_2_method_5_code 18 = .ok (.putfield 50, 3) := by decide +kernel
theorem dX0_startRun_21 : decode prog_2_method_5_code 21 = .ok (.aload_n 0, 1) := by decide +kernel
theorem dX0_startRun_22 : decode prog_2_method_5_code 22 = .ok (.getfield 34, 3) := by decide +kernel
theorem dX0_startRun_25 : decode prog_2_method_5_code 25 = .ok (.iload_n 1, 1) := by decide +kernel
theorem dX0_startRun_26 : decode prog_2_method_5_code 26 = .ok (.iload_n 2, 1) := by decide +kernel
theorem dX0_startRun_27 : decode prog_2_method_5_code 27 = .ok (.iastore, 1) := by decide +kernel
theorem dX0_startRun_28 : decode prog_2_method_5_code 28 = .ok (.aload_n 0, 1) := by decide +kernel
theorem dX0_startRun_29 : decode prog_2_method_5_code 29 = .ok (.getfield 28, 3) := by decide +kernel
theorem dX0_startRun_32 : decode prog_2_method_5_code 32 = .ok (.iload_n 1, 1) := by decide +kernel
theorem dX0_startRun_33 : decode prog_2_method_5_code 33 = .ok (.dup2, 1) := by decide +kernel
theorem dX0_startRun_34 : decode prog_2_method_5_code 34 = .ok (.iaload, 1) := by decide +kernel
theorem dX0_startRun_35 : decode prog_2_method_5_code 35 = .ok (.iconst 1, 1) := by decide +kernel
theorem dX0_startRun_36 : decode prog_2_method_5_code 36 = .ok (.iadd, 1) := by decide +kernel
theorem dX0_startRun_37 : decode prog_2_method_5_code 37 = .ok (.iastore, 1) := by decide +kernel
theorem dX0_startRun_38 : decode prog_2_method_5_code 38 = .ok (.aload_n 0, 1) := by decide +kernel
theorem dX0_startRun_39 : decode prog_2_method_5_code 39 = .ok (.getfield 40, 3) := by decide +kernel
theorem dX0_startRun_42 : decode prog_2_method_5_code 42 = .ok (.iload_n 1, 1) := by decide +kernel
theorem dX0_startRun_43 : decode prog_2_method_5_code 43 = .ok (.iconst 0, 1) := by decide +kernel
theorem dX0_startRun_44 : decode prog_2_method_5_code 44 = .ok (.iastore, 1) := by decide +kernel
theorem dX0_startRun_45 : decode prog_2_method_5_code 45 = .ok (.aload_n 0, 1) := by decide +kernel
theorem dX0_startRun_46 : decode prog_2_method_5_code 46 = .ok (.getfield 43, 3) := by decide +kernel
theorem dX0_startRun_49 : decode prog_2_method_5_code 49 = .ok (.iload_n 1, 1) := by decide +kernel
theorem dX0_startRun_50 : decode prog_2_method_5_code 50 = .ok (.lconst 0, 1) := by decide +kernel
theorem dX0_startRun_51 : decode prog_2_method_5_code 51 = .ok (.lastore, 1) := by decide +kernel
theorem dX0_startRun_52 : decode prog_2_method_5_code 52 = .ok (.return_, 1) := by decide +kernel
theorem dX0_startWave_0 : decode prog_2_method_3_code 0 = .ok (.aload_n 0, 1) := by decide +kernel
theorem dX0_startWave_1 : decode prog_2_method_3_code 1 = .ok (.lconst 0, 1) := by decide +kernel
theorem dX0_startWave_2 : decode prog_2_method_3_code 2 = .ok (.putfield 46, 3) := by decide +kernel
theorem dX0_startWave_5 : decode prog_2_method_3_code 5 = .ok (.aload_n 0, 1) := by decide +kernel
theorem dX0_startWave_6 : decode prog_2_method_3_code 6 = .ok (.lconst 0, 1) := by decide +kernel
theorem dX0_startWave_7 : decode prog_2_method_3_code 7 = .ok (.putfield 50, 3) := by decide +kernel
theorem dX0_startWave_10 : decode prog_2_method_3_code 10 = .ok (.aload_n 0, 1) := by decide +kernel
theorem dX0_startWave_11 : decode prog_2_method_3_code 11 = .ok (.getfield 34, 3) := by decide +kernel
theorem dX0_startWave_14 : decode prog_2_method_3_code 14 = .ok (.bipush (-5), 2) := by decide +kernel
theorem dX0_startWave_16 : decode prog_2_method_3_code 16 = .ok (.invokestatic 63, 3) := by decide +kernel
theorem dX0_startWave_19 : decode prog_2_method_3_code 19 = .ok (.return_, 1) := by decide +kernel
theorem dX0_takeFrom_0 : decode prog_2_method_2_code 0 = .ok (.aload_n 1, 1) := by decide +kernel
theorem dX0_takeFrom_1 : decode prog_2_method_2_code 1 = .ok (.getfield 9, 3) := by decide +kernel
theorem dX0_takeFrom_4 : decode prog_2_method_2_code 4 = .ok (.iconst 0, 1) := by decide +kernel
theorem dX0_takeFrom_5 : decode prog_2_method_2_code 5 = .ok (.aload_n 0, 1) := by decide +kernel
theorem dX0_takeFrom_6 : decode prog_2_method_2_code 6 = .ok (.getfield 9, 3) := by decide +kernel
theorem dX0_takeFrom_9 : decode prog_2_method_2_code 9 = .ok (.iconst 0, 1) := by decide +kernel
theorem dX0_takeFrom_10 : decode prog_2_method_2_code 10 = .ok (.bipush 32, 2) := by decide +kernel
theorem dX0_takeFrom_12 : decode prog_2_method_2_code 12 = .ok (.invokestatic 53, 3) := by decide +kernel
theorem dX0_takeFrom_15 : decode prog_2_method_2_code 15 = .ok (.aload_n 1, 1) := by decide +kernel
theorem dX0_takeFrom_16 : decode prog_2_method_2_code 16 = .ok (.getfield 15, 3) := by decide +kernel
theorem dX0_takeFrom_19 : decode prog_2_method_2_code 19 = .ok (.iconst 0, 1) := by decide +kernel
theorem dX0_takeFrom_20 : decode prog_2_method_2_code 20 = .ok (.aload_n 0, 1) := by decide +kernel
theorem dX0_takeFrom_21 : decode prog_2_method_2_code 21 = .ok (.getfield 15, 3) := by decide +kernel
theorem dX0_takeFrom_24 : decode prog_2_method_2_code 24 = .ok (.iconst 0, 1) := by decide +kernel
theorem dX0_takeFrom_25 : decode prog_2_method_2_code 25 = .ok (.bipush 32, 2) := by decide +kernel
theorem dX0_takeFrom_27 : decode prog_2_method_2_code 27 = .ok (.invokestatic 53, 3) := by decide +kernel
theorem dX0_takeFrom_30 : decode prog_2_method_2_code 30 = .ok (.aload_n 1, 1) := by decide +kernel
theorem dX0_takeFrom_31 : decode prog_2_method_2_code 31 = .ok (.getfield 19, 3) := by decide +kernel
theorem dX0_takeFrom_34 : decode prog_2_method_2_code 34 = .ok (.iconst 0, 1) := by decide +kernel
theorem dX0_takeFrom_35 : decode prog_2_method_2_code 35 = .ok (.aload_n 0, 1) := by decide +kernel
theorem dX0_takeFrom_36 : decode prog_2_method_2_code 36 = .ok (.getfield 19, 3) := by decide +kernel
theorem dX0_takeFrom_39 : decode prog_2_method_2_code 39 = .ok (.iconst 0, 1) := by decide +kernel
theorem dX0_takeFrom_40 : decode prog_2_method_2_code 40 = .ok (.bipush 32, 2) := by decide +kernel
theorem dX0_takeFrom_42 : decode prog_2_method_2_code 42 = .ok (.invokestatic 53, 3) := by decide +kernel
theorem dX0_takeFrom_45 : decode prog_2_method_2_code 45 = .ok (.aload_n 1, 1) := by decide +kernel
theorem dX0_takeFrom_46 : decode prog_2_method_2_code 46 = .ok (.getfield 28, 3) := by decide +kernel
theorem dX0_takeFrom_49 : decode prog_2_method_2_code 49 = .ok (.iconst 0, 1) := by decide +kernel
theorem dX0_takeFrom_50 : decode prog_2_method_2_code 50 = .ok (.aload_n 0, 1) := by decide +kernel
theorem dX0_takeFrom_51 : decode prog_2_method_2_code 51 = .ok (.getfield 28, 3) := by decide +kernel
theorem dX0_takeFrom_54 : decode prog_2_method_2_code 54 = .ok (.iconst 0, 1) := by decide +kernel
theorem dX0_takeFrom_55 : decode prog_2_method_2_code 55 = .ok (.bipush 32, 2) := by decide +kernel
theorem dX0_takeFrom_57 : decode prog_2_method_2_code 57 = .ok (.invokestatic 53, 3) := by decide +kernel
theorem dX0_takeFrom_60 : decode prog_2_method_2_code 60 = .ok (.aload_n 1, 1) := by decide +kernel
theorem dX0_takeFrom_61 : decode prog_2_method_2_code 61 = .ok (.getfield 31, 3) := by decide +kernel
theorem dX0_takeFrom_64 : decode prog_2_method_2_code 64 = .ok (.iconst 0, 1) := by decide +kernel
theorem dX0_takeFrom_65 : decode prog_2_method_2_code 65 = .ok (.aload_n 0, 1) := by decide +kernel
theorem dX0_takeFrom_66 : decode prog_2_method_2_code 66 = .ok (.getfield 31, 3) := by decide +kernel
theorem dX0_takeFrom_69 : decode prog_2_method_2_code 69 = .ok (.iconst 0, 1) := by decide +kernel
theorem dX0_takeFrom_70 : decode prog_2_method_2_code 70 = .ok (.bipush 32, 2) := by decide +kernel
theorem dX0_takeFrom_72 : decode prog_2_method_2_code 72 = .ok (.invokestatic 53, 3) := by decide +kernel
theorem dX0_takeFrom_75 : decode prog_2_method_2_code 75 = .ok (.aload_n 1, 1) := by decide +kernel
theorem dX0_takeFrom_76 : decode prog_2_method_2_code 76 = .ok (.getfield 34, 3) := by decide +kernel
theorem dX0_takeFrom_79 : decode prog_2_method_2_code 79 = .ok (.iconst 0, 1) := by decide +kernel
theorem dX0_takeFrom_80 : decode prog_2_method_2_code 80 = .ok (.aload_n 0, 1) := by decide +kernel
theorem dX0_takeFrom_81 : decode prog_2_method_2_code 81 = .ok (.getfield 34, 3) := by decide +kernel
theorem dX0_takeFrom_84 : decode prog_2_method_2_code 84 = .ok (.iconst 0, 1) := by decide +kernel
theorem dX0_takeFrom_85 : decode prog_2_method_2_code 85 = .ok (.bipush 32, 2) := by decide +kernel
theorem dX0_takeFrom_87 : decode prog_2_method_2_code 87 = .ok (.invokestatic 53, 3) := by decide +kernel
theorem dX0_takeFrom_90 : decode prog_2_method_2_code 90 = .ok (.aload_n 1, 1) := by decide +kernel
theorem dX0_takeFrom_91 : decode prog_2_method_2_code 91 = .ok (.getfield 40, 3) := by decide +kernel
theorem dX0_takeFrom_94 : decode prog_2_method_2_code 94 = .ok (.iconst 0, 1) := by decide +kernel
theorem dX0_takeFrom_95 : decode prog_2_method_2_code 95 = .ok (.aload_n 0, 1) := by decide +kernel
theorem dX0_takeFrom_96 : decode prog_2_method_2_code 96 = .ok (.getfield 40, 3) := by decide +kernel
theorem dX0_takeFrom_99 : decode prog_2_method_2_code 99 = .ok (.iconst 0, 1) := by decide +kernel
theorem dX0_takeFrom_100 : decode prog_2_method_2_code 100 = .ok (.bipush 32, 2) := by decide +kernel
theorem dX0_takeFrom_102 : decode prog_2_method_2_code 102 = .ok (.invokestatic 53, 3) := by decide +kernel
theorem dX0_takeFrom_105 : decode prog_2_method_2_code 105 = .ok (.aload_n 1, 1) := by decide +kernel
theorem dX0_takeFrom_106 : decode prog_2_method_2_code 106 = .ok (.getfield 43, 3) := by decide +kernel
theorem dX0_takeFrom_109 : decode prog_2_method_2_code 109 = .ok (.iconst 0, 1) := by decide +kernel
theorem dX0_takeFrom_110 : decode prog_2_method_2_code 110 = .ok (.aload_n 0, 1) := by decide +kernel
theorem dX0_takeFrom_111 : decode prog_2_method_2_code 111 = .ok (.getfield 43, 3) := by decide +kernel
theorem dX0_takeFrom_114 : decode prog_2_method_2_code 114 = .ok (.iconst 0, 1) := by decide +kernel
theorem dX0_takeFrom_115 : decode prog_2_method_2_code 115 = .ok (.bipush 32, 2) := by decide +kernel
theorem dX0_takeFrom_117 : decode prog_2_method_2_code 117 = .ok (.invokestatic 53, 3) := by decide +kernel
theorem dX0_takeFrom_120 : decode prog_2_method_2_code 120 = .ok (.iconst 0, 1) := by decide +kernel
theorem dX0_takeFrom_121 : decode prog_2_method_2_code 121 = .ok (.istore_n 2, 1) := by decide +kernel
theorem dX0_takeFrom_122 : decode prog_2_method_2_code 122 = .ok (.iload_n 2, 1) := by decide +kernel
theorem dX0_takeFrom_123 : decode prog_2_method_2_code 123 = .ok (.bipush 32, 2) := by decide +kernel
theorem dX0_takeFrom_125 : decode prog_2_method_2_code 125 = .ok (.if_icmp .ge 57, 3) := by decide +kernel
theorem dX0_takeFrom_128 : decode prog_2_method_2_code 128 = .ok (.aload_n 0, 1) := by decide +kernel
theorem dX0_takeFrom_129 : decode prog_2_method_2_code 129 = .ok (.getfield 24, 3) := by decide +kernel
theorem dX0_takeFrom_132 : decode prog_2_method_2_code 132 = .ok (.iload_n 2, 1) := by decide +kernel
theorem dX0_takeFrom_133 : decode prog_2_method_2_code 133 = .ok (.aload_n 1, 1) := by decide +kernel
theorem dX0_takeFrom_134 : decode prog_2_method_2_code 134 = .ok (.getfield 24, 3) := by decide +kernel
theorem dX0_takeFrom_137 : decode prog_2_method_2_code 137 = .ok (.iload_n 2, 1) := by decide +kernel
theorem dX0_takeFrom_138 : decode prog_2_method_2_code 138 = .ok (.aaload, 1) := by decide +kernel
theorem dX0_takeFrom_139 : decode prog_2_method_2_code 139 = .ok (.aastore, 1) := by decide +kernel
theorem dX0_takeFrom_140 : decode prog_2_method_2_code 140 = .ok (.aload_n 1, 1) := by decide +kernel
theorem dX0_takeFrom_141 : decode prog_2_method_2_code 141 = .ok (.iload_n 2, 1) := by decide +kernel
theorem dX0_takeFrom_142 : decode prog_2_method_2_code 142 = .ok (.invokevirtual 59, 3) := by decide +kernel
theorem dX0_takeFrom_145 : decode prog_2_method_2_code 145 = .ok (.istore_n 3, 1) := by decide +kernel
theorem dX0_takeFrom_146 : decode prog_2_method_2_code 146 = .ok (.iload_n 3, 1) := by decide +kernel
theorem dX0_takeFrom_147 : decode prog_2_method_2_code 147 = .ok (.ifCond .le 29, 3) := by decide +kernel
theorem dX0_takeFrom_150 : decode prog_2_method_2_code 150 = .ok (.iload_n 3, 1) := by decide +kernel
theorem dX0_takeFrom_151 : decode prog_2_method_2_code 151 = .ok (.bipush 32, 2) := by decide +kernel
theorem dX0_takeFrom_153 : decode prog_2_method_2_code 153 = .ok (.if_icmp .gt 23, 3) := by decide +kernel
theorem dX0_takeFrom_156 : decode prog_2_method_2_code 156 = .ok (.aload_n 1, 1) := by decide +kernel
theorem dX0_takeFrom_157 : decode prog_2_method_2_code 157 = .ok (.getfield 37, 3) := by decide +kernel
theorem dX0_takeFrom_160 : decode prog_2_method_2_code 160 = .ok (.iload_n 2, 1) := by decide +kernel
theorem dX0_takeFrom_161 : decode prog_2_method_2_code 161 = .ok (.bipush 32, 2) := by decide +kernel
theorem dX0_takeFrom_163 : decode prog_2_method_2_code 163 = .ok (.imul, 1) := by decide +kernel
theorem dX0_takeFrom_164 : decode prog_2_method_2_code 164 = .ok (.aload_n 0, 1) := by decide +kernel
theorem dX0_takeFrom_165 : decode prog_2_method_2_code 165 = .ok (.getfield 37, 3) := by decide +kernel
theorem dX0_takeFrom_168 : decode prog_2_method_2_code 168 = .ok (.iload_n 2, 1) := by decide +kernel
theorem dX0_takeFrom_169 : decode prog_2_method_2_code 169 = .ok (.bipush 32, 2) := by decide +kernel
theorem dX0_takeFrom_171 : decode prog_2_method_2_code 171 = .ok (.imul, 1) := by decide +kernel
theorem dX0_takeFrom_172 : decode prog_2_method_2_code 172 = .ok (.iload_n 3, 1) := by decide +kernel
theorem dX0_takeFrom_173 : decode prog_2_method_2_code 173 = .ok (.invokestatic 53, 3) := by decide +kernel
theorem dX0_takeFrom_176 : decode prog_2_method_2_code 176 = .ok (.iinc 2 1, 3) := by decide +kernel
theorem dX0_takeFrom_179 : decode prog_2_method_2_code 179 = .ok (.goto (-57), 3) := by decide +kernel
theorem dX0_takeFrom_182 : decode prog_2_method_2_code 182 = .ok (.aload_n 0, 1) := by decide +kernel
theorem dX0_takeFrom_183 : decode prog_2_method_2_code 183 = .ok (.aload_n 1, 1) := by decide +kernel
theorem dX0_takeFrom_184 : decode prog_2_method_2_code 184 = .ok (.getfield 46, 3) := by decide +kernel
theorem dX0_takeFrom_187 : decode prog_2_method_2_code 187 = .ok (.putfield 46, 3) := by decide +kernel
theorem dX0_takeFrom_190 : decode prog_2_method_2_code 190 = .ok (.aload_n 0, 1) := by decide +kernel
theorem dX0_takeFrom_191 : decode prog_2_method_2_code 191 = .ok (.aload_n 1, 1) := by decide +kernel
theorem dX0_takeFrom_192 : decode prog_2_method_2_code 192 = .ok (.getfield 50, 3) := by decide +kernel
theorem dX0_takeFrom_195 : decode prog_2_method_2_code 195 = .ok (.putfield 50, 3) := by decide +kernel
theorem dX0_takeFrom_198 : decode prog_2_method_2_code 198 = .ok (.return_, 1) := by decide +kernel
theorem dX10_bit_0 : decode prog_1_method_39_code 0 = .ok (.lconst 1, 1) := by decide +kernel
theorem dX10_bit_1 : decode prog_1_method_39_code 1 = .ok (.iload_n 0, 1) := by decide +kernel
theorem dX10_bit_2 : decode prog_1_method_39_code 2 = .ok (.lshl, 1) := by decide +kernel
theorem dX10_bit_3 : decode prog_1_method_39_code 3 = .ok (.lreturn, 1) := by decide +kernel
theorem dX10_has_0 : decode prog_1_method_40_code 0 = .ok (.lload_n 0, 1) := by decide +kernel
theorem dX10_has_1 : decode prog_1_method_40_code 1 = .ok (.iload_n 2, 1) := by decide +kernel
theorem dX10_has_2 : decode prog_1_method_40_code 2 = .ok (.lshr, 1) := by decide +kernel
theorem dX10_has_3 : decode prog_1_method_40_code 3 = .ok (.lconst 1, 1) := by decide +kernel
theorem dX10_has_4 : decode prog_1_method_40_code 4 = .ok (.land, 1) := by decide +kernel
theorem dX10_has_5 : decode prog_1_method_40_code 5 = .ok (.lconst 0, 1) := by decide +kernel
theorem dX10_has_6 : decode prog_1_method_40_code 6 = .ok (.lcmp, 1) := by decide +kernel
theorem dX10_has_7 : decode prog_1_method_40_code 7 = .ok (.ifCond .eq 7, 3) := by decide +kernel
theorem dX10_has_10 : decode prog_1_method_40_code 10 = .ok (.iconst 1, 1) := by decide +kernel
theorem dX10_has_11 : decode prog_1_method_40_code 11 = .ok (.goto 4, 3) := by decide +kernel
theorem dX10_has_14 : decode prog_1_method_40_code 14 = .ok (.iconst 0, 1) := by decide +kernel
theorem dX10_has_15 : decode prog_1_method_40_code 15 = .ok (.ireturn, 1) := by decide +kernel
theorem dX10_isCell_0 : decode prog_1_method_38_code 0 = .ok (.lload_n 0, 1) := by decide +kernel
theorem dX10_isCell_1 : decode prog_1_method_38_code 1 = .ok (.lconst 0, 1) := by decide +kernel
theorem dX10_isCell_2 : decode prog_1_method_38_code 2 = .ok (.lcmp, 1) := by decide +kernel
theorem dX10_isCell_3 : decode prog_1_method_38_code 3 = .ok (.ifCond .lt 15, 3) := by decide +kernel
theorem dX10_isCell_6 : decode prog_1_method_38_code 6 = .ok (.lload_n 0, 1) := by decide +kernel
theorem dX10_isCell_7 : decode prog_1_method_38_code 7 = .ok (.ldc2_w 296, 3) := by decide +kernel
theorem dX10_isCell_10 : decode prog_1_method_38_code 10 = .ok (.lcmp, 1) := by decide +kernel
theorem dX10_isCell_11 : decode prog_1_method_38_code 11 = .ok (.ifCond .ge 7, 3) := by decide +kernel
theorem dX10_isCell_14 : decode prog_1_method_38_code 14 = .ok (.iconst 1, 1) := by decide +kernel
theorem dX10_isCell_15 : decode prog_1_method_38_code 15 = .ok (.goto 4, 3) := by decide +kernel
theorem dX10_isCell_18 : decode prog_1_method_38_code 18 = .ok (.iconst 0, 1) := by decide +kernel
theorem dX10_isCell_19 : decode prog_1_method_38_code 19 = .ok (.ireturn, 1) := by decide +kernel
theorem dX1_run_0 : decode prog_3_method_8_code 0 = .ok (.aload_n 0, 1) := by decide +kernel
theorem dX1_run_1 : decode prog_3_method_8_code 1 = .ok (.getfield 12, 3) := by decide +kernel
theorem dX1_run_4 : decode prog_3_method_8_code 4 = .ok (.iload_n 1, 1) := by decide +kernel
theorem dX1_run_5 : decode prog_3_method_8_code 5 = .ok (.iload_n 2, 1) := by decide +kernel
theorem dX1_run_6 : decode prog_3_method_8_code 6 = .ok (.invokevirtual 111, 3) := by decide +kernel
theorem dX1_run_9 : decode prog_3_method_8_code 9 = .ok (.aload_n 0, 1) := by decide +kernel
theorem dX1_run_10 : decode prog_3_method_8_code 10 = .ok (.getfield 12, 3) := by decide +kernel
theorem dX1_run_13 : decode prog_3_method_8_code 13 = .ok (.iload_n 1, 1) := by decide +kernel
theorem dX1_run_14 : decode prog_3_method_8_code 14 = .ok (.invokevirtual 114, 3) := by decide +kernel
theorem dX1_run_17 : decode prog_3_method_8_code 17 = .ok (.astore 4, 2) := by decide +kernel
theorem dX1_run_19 : decode prog_3_method_8_code 19 = .ok (.aload 4, 2) := by decide +kernel
theorem dX1_run_21 : decode prog_3_method_8_code 21 = .ok (.ifnonnull 4, 3) := by decide +kernel
theorem dX1_run_24 : decode prog_3_method_8_code 24 = .ok (.return_, 1) := by decide +kernel
theorem dX1_settle_0 : decode prog_3_method_6_code 0 = .ok (.aload_n 0, 1) := by decide +kernel
theorem dX1_settle_1 : decode prog_3_method_6_code 1 = .ok (.getfield 37, 3) := by decide +kernel
theorem dX1_settle_4 : decode prog_3_method_6_code 4 = .ok (.ifCond .ne 14, 3) := by decide +kernel
theorem dX1_settle_7 : decode prog_3_method_6_code 7 = .ok (.aload_n 0, 1) := by decide +kernel
theorem dX1_settle_8 : decode prog_3_method_6_code 8 = .ok (.getfield 31, 3) := by decide +kernel
theorem dX1_settle_11 : decode prog_3_method_6_code 11 = .ok (.iload_n 1, 1) := by decide +kernel
theorem dX1_settle_12 : decode prog_3_method_6_code 12 = .ok (.invokestatic 63, 3) := by decide +kernel
theorem dX1_settle_15 : decode prog_3_method_6_code 15 = .ok (.ifCond .eq 4, 3) := by decide +kernel
theorem dX1_settle_18 : decode prog_3_method_6_code 18 = .ok (.return_, 1) := by decide +kernel
theorem dX1_settle_19 : decode prog_3_method_6_code 19 = .ok (.aload_n 0, 1) := by decide +kernel
theorem dX1_settle_20 : decode prog_3_method_6_code 20 = .ok (.getfield 34, 3) := by decide +kernel
theorem dX1_settle_23 : decode prog_3_method_6_code 23 = .ok (.iload_n 1, 1) := by decide +kernel
theorem dX1_settle_24 : decode prog_3_method_6_code 24 = .ok (.invokestatic 63, 3) := by decide +kernel
theorem dX1_settle_27 : decode prog_3_method_6_code 27 = .ok (.ifCond .ne 9, 3) := by decide +kernel
theorem dX1_settle_30 : decode prog_3_method_6_code 30 = .ok (.iload_n 2, 1) := by decide +kernel
theorem dX1_settle_31 : decode prog_3_method_6_code 31 = .ok (.bipush 32, 2) := by decide +kernel
theorem dX1_settle_33 : decode prog_3_method_6_code 33 = .ok (.if_icmp .le 9, 3) := by decide +kernel
theorem dX1_settle_36 : decode prog_3_method_6_code 36 = .ok (.aload_n 0, 1) := by decide +kernel
theorem dX1_settle_37 : decode prog_3_method_6_code 37 = .ok (.iconst 1, 1) := by decide +kernel
theorem dX1_settle_38 : decode prog_3_method_6_code 38 = .ok (.putfield 37, 3) := by decide +kernel
theorem dX1_settle_41 : decode prog_3_method_6_code 41 = .ok (.return_, 1) := by decide +kernel
theorem dX1_settle_42 : decode prog_3_method_6_code 42 = .ok (.aload_n 0, 1) := by decide +kernel
theorem dX1_settle_43 : decode prog_3_method_6_code 43 = .ok (.dup, 1) := by decide +kernel
theorem dX1_settle_44 : decode prog_3_method_6_code 44 = .ok (.getfield 34, 3) := by decide +kernel
theorem dX1_settle_47 : decode prog_3_method_6_code 47 = .ok (.iload_n 1, 1) := by decide +kernel
theorem dX1_settle_48 : decode prog_3_method_6_code 48 = .ok (.invokestatic 82, 3) := by decide +kernel
theorem dX1_settle_51 : decode prog_3_method_6_code 51 = .ok (.lor, 1) := by decide +kernel
theorem dX1_settle_52 : decode prog_3_method_6_code 52 = .ok (.putfield 34, 3) := by decide +kernel
theorem dX1_settle_55 : decode prog_3_method_6_code 55 = .ok (.aload_n 0, 1) := by decide +kernel
theorem dX1_settle_56 : decode prog_3_method_6_code 56 = .ok (.getfield 27, 3) := by decide +kernel
theorem dX1_settle_59 : decode prog_3_method_6_code 59 = .ok (.iload_n 1, 1) := by decide +kernel
theorem dX1_settle_60 : decode prog_3_method_6_code 60 = .ok (.invokestatic 63, 3) := by decide +kernel
theorem dX1_settle_63 : decode prog_3_method_6_code 63 = .ok (.ifCond .eq 8, 3) := by decide +kernel
theorem dX1_settle_66 : decode prog_3_method_6_code 66 = .ok (.bipush (-5), 2) := by decide +kernel
theorem dX1_settle_68 : decode prog_3_method_6_code 68 = .ok (.goto 9, 3) := by decide +kernel
theorem dX1_settle_71 : decode prog_3_method_6_code 71 = .ok (.aload_n 0, 1) := by decide +kernel
theorem dX1_settle_72 : decode prog_3_method_6_code 72 = .ok (.iload_n 1, 1) := by decide +kernel
theorem dX1_settle_73 : decode prog_3_method_6_code 73 = .ok (.iload_n 2, 1) := by decide +kernel
theorem dX1_settle_74 : decode prog_3_method_6_code 74 = .ok (.invokevirtual 86, 3) := by decide +kernel
theorem dX1_settle_77 : decode prog_3_method_6_code 77 = .ok (.istore_n 3, 1) := by decide +kernel
theorem dX1_settle_78 : decode prog_3_method_6_code 78 = .ok (.iload_n 3, 1) := by decide +kernel
theorem dX1_settle_79 : decode prog_3_method_6_code 79 = .ok (.iconst (-1), 1) := by decide +kernel
theorem dX1_settle_80 : decode prog_3_method_6_code 80 = .ok (.if_icmp .eq 17, 3) := by decide +kernel
theorem dX1_settle_83 : decode prog_3_method_6_code 83 = .ok (.aload_n 0, 1) := by decide +kernel
theorem dX1_settle_84 : decode prog_3_method_6_code 84 = .ok (.getfield 37, 3) := by decide +kernel
theorem dX1_settle_87 : decode prog_3_method_6_code 87 = .ok (.ifCond .ne 10, 3) := by decide +kernel
theorem dX1_settle_90 : decode prog_3_method_6_code 90 = .ok (.aload_n 0, 1) := by decide +kernel
theorem dX1_settle_91 : decode prog_3_method_6_code 91 = .ok (.iload_n 1, 1) := by decide +kernel
theorem dX1_settle_92 : decode prog_3_method_6_code 92 = .ok (.iload_n 3, 1) := by decide +kernel
theorem dX1_settle_93 : decode prog_3_method_6_code 93 = .ok (.iload_n 2, 1) := by decide +kernel
theorem dX1_settle_94 : decode prog_3_method_6_code 94 = .ok (.invokevirtual 90, 3) := by decide +kernel
theorem dX1_settle_97 : decode prog_3_method_6_code 97 = .ok (.aload_n 0, 1) := by decide +kernel
theorem dX1_settle_98 : decode prog_3_method_6_code 98 = .ok (.getfield 12, 3) := by decide +kernel
theorem dX1_settle_101 : decode prog_3_method_6_code 101 = .ok (.iload_n 1, 1) := by decide +kernel
theorem dX1_settle_102 : decode prog_3_method_6_code 102 = .ok (.invokevirtual 94, 3) := by decide +kernel
theorem dX1_settle_105 : decode prog_3_method_6_code 105 = .ok (.aload_n 0, 1) := by decide +kernel
theorem dX1_settle_106 : decode prog_3_method_6_code 106 = .ok (.dup, 1) := by decide +kernel
theorem dX1_settle_107 : decode prog_3_method_6_code 107 = .ok (.getfield 34, 3) := by decide +kernel
theorem dX1_settle_110 : decode prog_3_method_6_code 110 = .ok (.iload_n 1, 1) := by decide +kernel
theorem dX1_settle_111 : decode prog_3_method_6_code 111 = .ok (.invokestatic 82, 3) := by decide +kernel
theorem dX1_settle_114 : decode prog_3_method_6_code 114 = .ok (.ldc2_w 98, 3) := by decide +kernel
theorem dX1_settle_117 : decode prog_3_method_6_code 117 = .ok (.lxor, 1) := by decide +kernel
theorem dX1_settle_118 : decode prog_3_method_6_code 118 = .ok (.land, 1) := by decide +kernel
theorem dX1_settle_119 : decode prog_3_method_6_code 119 = .ok (.putfield 34, 3) := by decide +kernel
theorem dX1_settle_122 : decode prog_3_method_6_code 122 = .ok (.aload_n 0, 1) := by decide +kernel
theorem dX1_settle_123 : decode prog_3_method_6_code 123 = .ok (.dup, 1) := by decide +kernel
theorem dX1_settle_124 : decode prog_3_method_6_code 124 = .ok (.getfield 31, 3) := by decide +kernel
theorem dX1_settle_127 : decode prog_3_method_6_code 127 = .ok (.iload_n 1, 1) := by decide +kernel
theorem dX1_settle_128 : decode prog_3_method_6_code 128 = .ok (.invokestatic 82, 3) := by decide +kernel
theorem dX1_settle_131 : decode prog_3_method_6_code 131 = .ok (.lor, 1) := by decide +kernel
theorem dX1_settle_132 : decode prog_3_method_6_code 132 = .ok (.putfield 31, 3) := by decide +kernel
theorem dX1_settle_135 : decode prog_3_method_6_code 135 = .ok (.return_, 1) := by decide +kernel
theorem dX7_cells_0 : decode prog_9_method_4_code 0 = .ok (.aload_n 0, 1) := by decide +kernel
theorem dX7_cells_1 : decode prog_9_method_4_code 1 = .ok (.getfield 25, 3) := by decide +kernel
theorem dX7_cells_4 : decode prog_9_method_4_code 4 = .ok (.lreturn, 1) := by decide +kernel
theorem dX7_put_0 : decode prog_9_method_2_code 0 = .ok (.iload_n 1, 1) := by decide +kernel
theorem dX7_put_1 : decode prog_9_method_2_code 1 = .ok (.i2l, 1) := by decide +kernel
theorem dX7_put_2 : decode prog_9_method_2_code 2 = .ok (.invokestatic 29, 3) := by decide +kernel
theorem dX7_put_5 : decode prog_9_method_2_code 5 = .ok (.ifCond .eq 38, 3) := by decide +kernel
theorem dX7_put_8 : decode prog_9_method_2_code 8 = .ok (.aload_n 0, 1) := by decide +kernel
theorem dX7_put_9 : decode prog_9_method_2_code 9 = .ok (.getfield 9, 3) := by decide +kernel
theorem dX7_put_12 : decode prog_9_method_2_code 12 = .ok (.iload_n 1, 1) := by decide +kernel
theorem dX7_put_13 : decode prog_9_method_2_code 13 = .ok (.iload_n 2, 1) := by decide +kernel
theorem dX7_put_14 : decode prog_9_method_2_code 14 = .ok (.iastore, 1) := by decide +kernel
theorem dX7_put_15 : decode prog_9_method_2_code 15 = .ok (.aload_n 0, 1) := by decide +kernel
theorem dX7_put_16 : decode prog_9_method_2_code 16 = .ok (.getfield 15, 3) := by decide +kernel
theorem dX7_put_19 : decode prog_9_method_2_code 19 = .ok (.iload_n 1, 1) := by decide +kernel
theorem dX7_put_20 : decode prog_9_method_2_code 20 = .ok (.lload_n 3, 1) := by decide +kernel
theorem dX7_put_21 : decode prog_9_method_2_code 21 = .ok (.lastore, 1) := by decide +kernel
theorem dX7_put_22 : decode prog_9_method_2_code 22 = .ok (.aload_n 0, 1) := by decide +kernel
theorem dX7_put_23 : decode prog_9_method_2_code 23 = .ok (.getfield 21, 3) := by decide +kernel
theorem dX7_put_26 : decode prog_9_method_2_code 26 = .ok (.iload_n 1, 1) := by decide +kernel
theorem dX7_put_27 : decode prog_9_method_2_code 27 = .ok (.aload 5, 2) := by decide +kernel
theorem dX7_put_29 : decode prog_9_method_2_code 29 = .ok (.aastore, 1) := by decide +kernel
theorem dX7_put_30 : decode prog_9_method_2_code 30 = .ok (.aload_n 0, 1) := by decide +kernel
theorem dX7_put_31 : decode prog_9_method_2_code 31 = .ok (.dup, 1) := by decide +kernel
theorem dX7_put_32 : decode prog_9_method_2_code 32 = .ok (.getfield 25, 3) := by decide +kernel
theorem dX7_put_35 : decode prog_9_method_2_code 35 = .ok (.iload_n 1, 1) := by decide +kernel
theorem dX7_put_36 : decode prog_9_method_2_code 36 = .ok (.invokestatic 33, 3) := by decide +kernel
theorem dX7_put_39 : decode prog_9_method_2_code 39 = .ok (.lor, 1) := by decide +kernel
theorem dX7_put_40 : decode prog_9_method_2_code 40 = .ok (.putfield 25, 3) := by decide +kernel
theorem dX7_put_43 : decode prog_9_method_2_code 43 = .ok (.return_, 1) := by decide +kernel
theorem dX7_tell_0 : decode prog_9_method_6_code 0 = .ok (.iconst 0, 1) := by decide +kernel
theorem dX7_tell_1 : decode prog_9_method_6_code 1 = .ok (.istore_n 2, 1) := by decide +kernel
theorem dX7_tell_2 : decode prog_9_method_6_code 2 = .ok (.iload_n 2, 1) := by decide +kernel
theorem dX7_tell_3 : decode prog_9_method_6_code 3 = .ok (.bipush 32, 2) := by decide +kernel
theorem dX7_tell_5 : decode prog_9_method_6_code 5 = .ok (.if_icmp .ge 43, 3) := by decide +kernel
theorem dX7_tell_8 : decode prog_9_method_6_code 8 = .ok (.aload_n 0, 1) := by decide +kernel
theorem dX7_tell_9 : decode prog_9_method_6_code 9 = .ok (.getfield 25, 3) := by decide +kernel
theorem dX7_tell_12 : decode prog_9_method_6_code 12 = .ok (.iload_n 2, 1) := by decide +kernel
theorem dX7_tell_13 : decode prog_9_method_6_code 13 = .ok (.invokestatic 43, 3) := by decide +kernel
theorem dX7_tell_16 : decode prog_9_method_6_code 16 = .ok (.ifCond .eq 26, 3) := by decide +kernel
theorem dX7_tell_19 : decode prog_9_method_6_code 19 = .ok (.aload_n 1, 1) := by decide +kernel
theorem dX7_tell_20 : decode prog_9_method_6_code 20 = .ok (.iload_n 2, 1) := by decide +kernel
theorem dX7_tell_21 : decode prog_9_method_6_code 21 = .ok (.aload_n 0, 1) := by decide +kernel
theorem dX7_tell_22 : decode prog_9_method_6_code 22 = .ok (.getfield 9, 3) := by decide +kernel
theorem dX7_tell_25 : decode prog_9_method_6_code 25 = .ok (.iload_n 2, 1) := by decide +kernel
theorem dX7_tell_26 : decode prog_9_method_6_code 26 = .ok (.iaload, 1) := by decide +kernel
theorem dX7_tell_27 : decode prog_9_method_6_code 27 = .ok (.aload_n 0, 1) := by decide +kernel
theorem dX7_tell_28 : decode prog_9_method_6_code 28 = .ok (.getfield 15, 3) := by decide +kernel
theorem dX7_tell_31 : decode prog_9_method_6_code 31 = .ok (.iload_n 2, 1) := by decide +kernel
theorem dX7_tell_32 : decode prog_9_method_6_code 32 = .ok (.laload, 1) := by decide +kernel
theorem dX7_tell_33 : decode prog_9_method_6_code 33 = .ok (.aload_n 0, 1) := by decide +kernel
theorem dX7_tell_34 : decode prog_9_method_6_code 34 = .ok (.getfield 21, 3) := by decide +kernel
theorem dX7_tell_37 : decode prog_9_method_6_code 37 = .ok (.iload_n 2, 1) := by decide +kernel
theorem dX7_tell_38 : decode prog_9_method_6_code 38 = .ok (.aaload, 1) := by decide +kernel
theorem dX7_tell_39 : decode prog_9_method_6_code 39 = .ok (.invokevirtual 47, 3) := by decide +kernel
theorem dX7_tell_42 : decode prog_9_method_6_code 42 = .ok (.iinc 2 1, 3) := by decide +kernel
theorem dX7_tell_45 : decode prog_9_method_6_code 45 = .ok (.goto (-43), 3) := by decide +kernel
theorem dX7_tell_48 : decode prog_9_method_6_code 48 = .ok (.return_, 1) := by decide +kernel
/-! ReactiveSheet.isCell(J)Z [] -/
abbrev rm_X_X10_isCell : Room := { frames := 0, cells := 0, slots := 0, locals := 0 }
def b_X_X10_isCell_19  (t : fw_S) (z0 : Int32) : Option (Int32 × fw_S) := fb_g (z0 = 0 ∨ z0 = 1) (some (z0, t))
def b_X_X10_isCell_18  (t : fw_S)  : Option (Int32 × fw_S) := b_X_X10_isCell_19 t ((0 : Int32))
def b_X_X10_isCell_14  (t : fw_S)  : Option (Int32 × fw_S) := b_X_X10_isCell_19 t ((1 : Int32))
def b_X_X10_isCell_6  (t : fw_S) (y0 : Int64) : Option (Int32 × fw_S) := if 0 ≤ (lg_cmp y0 ((32 : Int64))) then b_X_X10_isCell_18 t else b_X_X10_isCell_14 t
def b_X_X10_isCell_0  (t : fw_S) (y0 : Int64) : Option (Int32 × fw_S) := if (lg_cmp y0 ((0 : Int64))) < 0 then b_X_X10_isCell_18 t else b_X_X10_isCell_6 t y0
def f_X_X10_isCell (t : fw_S) (y0 : Int64) : Option (Int32 × fw_S) := b_X_X10_isCell_0 t y0
set_option maxRecDepth 20000 in
theorem w_X_X10_isCell_19 {p : Program} {l : Launch} {e : Env} {s : State} {m : MethodId} {args : Array Value} {below : List Frame} {meth : Method} {c : Code} {A : Nat → Prop} {Q : State → Prop} {D : va_G} {ca : Nat → ClassId} {a : Nat → Nat} {u : fw_S} {r : Int32}  (C : CX (WX ca a) D (tyv ca) p s m args c A prog_1_method_38_code 2 RX10) (hr : (r = 0 ∨ r = 1) → RX (WX ca a) D p l e rm_X_X10_isCell s m args below meth c A prog_1_method_38_code Q .ireturn [.int r] u) {t : fw_S} {z0 : Int32} {H : Heap} {locs : List Loc} {ls : Array Slot} (hf : b_X_X10_isCell_19  t z0 = some (r, u)) (hP : va_P D classes (WX ca a t) H) (hS : va_S A s.heap H locs) (hl : lv_has ls 2 []) : W p l e rm_X_X10_isCell s m args below meth c H locs 0 0 Q (F0 m 19 ls [.int z0]) := by
  obtain ⟨hx, hb, hml, hown, hts, hN, hK, hD, hA⟩ := id C
  have hf : (fb_g (z0 = 0 ∨ z0 = 1) (some (z0, t))) = some (r, u) := hf
  obtain ⟨h_19, hf⟩ := fb_if hf
  obtain ⟨e_19, e2_19⟩ := fb_e hf
  subst e_19; subst e2_19
  exact hr h_19 _ _ _ _ hP hS dX10_isCell_19
set_option maxRecDepth 20000 in
theorem w_X_X10_isCell_18 {p : Program} {l : Launch} {e : Env} {s : State} {m : MethodId} {args : Array Value} {below : List Frame} {meth : Method} {c : Code} {A : Nat → Prop} {Q : State → Prop} {D : va_G} {ca : Nat → ClassId} {a : Nat → Nat} {u : fw_S} {r : Int32}  (C : CX (WX ca a) D (tyv ca) p s m args c A prog_1_method_38_code 2 RX10) (hr : (r = 0 ∨ r = 1) → RX (WX ca a) D p l e rm_X_X10_isCell s m args below meth c A prog_1_method_38_code Q .ireturn [.int r] u) {t : fw_S}  {H : Heap} {locs : List Loc} {ls : Array Slot} (hf : b_X_X10_isCell_18  t  = some (r, u)) (hP : va_P D classes (WX ca a t) H) (hS : va_S A s.heap H locs) (hl : lv_has ls 2 []) : W p l e rm_X_X10_isCell s m args below meth c H locs 0 0 Q (F0 m 18 ls []) := by
  obtain ⟨hx, hb, hml, hown, hts, hN, hK, hD, hA⟩ := id C
  have hf : (b_X_X10_isCell_19 t ((0 : Int32))) = some (r, u) := hf
  refine lv_iconst (v := 0) hx hb dX10_isCell_18 (by decide) ?_
  exact w_X_X10_isCell_19 C hr hf hP hS (lv_sub hl [] rfl)
set_option maxRecDepth 20000 in
theorem w_X_X10_isCell_14 {p : Program} {l : Launch} {e : Env} {s : State} {m : MethodId} {args : Array Value} {below : List Frame} {meth : Method} {c : Code} {A : Nat → Prop} {Q : State → Prop} {D : va_G} {ca : Nat → ClassId} {a : Nat → Nat} {u : fw_S} {r : Int32}  (C : CX (WX ca a) D (tyv ca) p s m args c A prog_1_method_38_code 2 RX10) (hr : (r = 0 ∨ r = 1) → RX (WX ca a) D p l e rm_X_X10_isCell s m args below meth c A prog_1_method_38_code Q .ireturn [.int r] u) {t : fw_S}  {H : Heap} {locs : List Loc} {ls : Array Slot} (hf : b_X_X10_isCell_14  t  = some (r, u)) (hP : va_P D classes (WX ca a t) H) (hS : va_S A s.heap H locs) (hl : lv_has ls 2 []) : W p l e rm_X_X10_isCell s m args below meth c H locs 0 0 Q (F0 m 14 ls []) := by
  obtain ⟨hx, hb, hml, hown, hts, hN, hK, hD, hA⟩ := id C
  have hf : (b_X_X10_isCell_19 t ((1 : Int32))) = some (r, u) := hf
  refine lv_iconst (v := 1) hx hb dX10_isCell_14 (by decide) ?_
  refine lv_goto (tgt := 19) hx hb dX10_isCell_15 (by decide) ?_
  exact w_X_X10_isCell_19 C hr hf hP hS (lv_sub hl [] rfl)
set_option maxRecDepth 20000 in
theorem w_X_X10_isCell_6 {p : Program} {l : Launch} {e : Env} {s : State} {m : MethodId} {args : Array Value} {below : List Frame} {meth : Method} {c : Code} {A : Nat → Prop} {Q : State → Prop} {D : va_G} {ca : Nat → ClassId} {a : Nat → Nat} {u : fw_S} {r : Int32}  (C : CX (WX ca a) D (tyv ca) p s m args c A prog_1_method_38_code 2 RX10) (hr : (r = 0 ∨ r = 1) → RX (WX ca a) D p l e rm_X_X10_isCell s m args below meth c A prog_1_method_38_code Q .ireturn [.int r] u) {t : fw_S} {y0 : Int64} {H : Heap} {locs : List Loc} {ls : Array Slot} (hf : b_X_X10_isCell_6  t y0 = some (r, u)) (hP : va_P D classes (WX ca a t) H) (hS : va_S A s.heap H locs) (hl : lv_has ls 2 [(0, .long y0)]) : W p l e rm_X_X10_isCell s m args below meth c H locs 0 0 Q (F0 m 6 ls []) := by
  obtain ⟨hx, hb, hml, hown, hts, hN, hK, hD, hA⟩ := id C
  have hf : (if 0 ≤ (lg_cmp y0 ((32 : Int64))) then b_X_X10_isCell_18 t else b_X_X10_isCell_14 t) = some (r, u) := hf
  refine lv_lload_n hx hb dX10_isCell_6 rfl (lv_at hl 0 rfl) ?_
  refine lv_ldc2 (v := (32)) hx hb hown (hts _ kw_401) dX10_isCell_7 ?_
  refine W.lcmp hx hb dX10_isCell_10 ?_
  refine lv_if_ge (tgt := 18) hx hb dX10_isCell_11 (by decide) (fun h_11 => ?_) (fun h_11 => ?_)
  · have hf := fb_t h_11 hf
    exact w_X_X10_isCell_18 C hr hf hP hS (lv_sub hl [] rfl)
  · have hf := fb_f h_11 hf
    exact w_X_X10_isCell_14 C hr hf hP hS (lv_sub hl [] rfl)
set_option maxRecDepth 20000 in
theorem w_X_X10_isCell_0 {p : Program} {l : Launch} {e : Env} {s : State} {m : MethodId} {args : Array Value} {below : List Frame} {meth : Method} {c : Code} {A : Nat → Prop} {Q : State → Prop} {D : va_G} {ca : Nat → ClassId} {a : Nat → Nat} {u : fw_S} {r : Int32}  (C : CX (WX ca a) D (tyv ca) p s m args c A prog_1_method_38_code 2 RX10) (hr : (r = 0 ∨ r = 1) → RX (WX ca a) D p l e rm_X_X10_isCell s m args below meth c A prog_1_method_38_code Q .ireturn [.int r] u) {t : fw_S} {y0 : Int64} {H : Heap} {locs : List Loc} {ls : Array Slot} (hf : b_X_X10_isCell_0  t y0 = some (r, u)) (hP : va_P D classes (WX ca a t) H) (hS : va_S A s.heap H locs) (hl : lv_has ls 2 [(0, .long y0)]) : W p l e rm_X_X10_isCell s m args below meth c H locs 0 0 Q (F0 m 0 ls []) := by
  obtain ⟨hx, hb, hml, hown, hts, hN, hK, hD, hA⟩ := id C
  have hf : (if (lg_cmp y0 ((0 : Int64))) < 0 then b_X_X10_isCell_18 t else b_X_X10_isCell_6 t y0) = some (r, u) := hf
  refine lv_lload_n hx hb dX10_isCell_0 rfl (lv_at hl 0 rfl) ?_
  refine lv_lconst (v := 0) hx hb dX10_isCell_1 (by decide) ?_
  refine W.lcmp hx hb dX10_isCell_2 ?_
  refine lv_if_lt (tgt := 18) hx hb dX10_isCell_3 (by decide) (fun h_3 => ?_) (fun h_3 => ?_)
  · have hf := fb_t h_3 hf
    exact w_X_X10_isCell_18 C hr hf hP hS (lv_sub hl [] rfl)
  · have hf := fb_f h_3 hf
    exact w_X_X10_isCell_6 C hr hf hP hS (lv_sub hl [0] rfl)
set_option maxRecDepth 20000 in
theorem c_X_X10_isCell {l : Launch} {D : va_G} {ca : Nat → ClassId} {a : Nat → Nat} {t : fw_S} {y0 : Int64} {u : fw_S} {r : Int32} (hf : f_X_X10_isCell t y0 = some (r, u)) : MC (WX ca a) D (tyv ca) l yX10_isCell (.code yX10_isCell prog_1_method_38_code 2 (some .boolean) :: lw_gd) rm_X_X10_isCell [.long y0] (some (.int r)) t u := by
  refine fw_met (okX ca a) (by decide +kernel) rfl rfl (Nat.le_of_ble_eq_true rfl) ?_
  intro p e s m args below meth c A Q ls C hr hk hP hS hl hQ
  exact w_X_X10_isCell_0 C (fun hz => fw_rz C hr hk hz hQ) hf hP hS (lv_sub hl [0] rfl)
/-! ReactiveSheet.bit(I)J [] -/
abbrev rm_X_X10_bit : Room := { frames := 0, cells := 0, slots := 0, locals := 0 }
def b_X_X10_bit_0  (t : fw_S) (x0 : Int32) : Option (Int64 × fw_S) := some (((1 : Int64)) <<< (x0.toInt64 &&& 63), t)
def f_X_X10_bit (t : fw_S) (x0 : Int32) : Option (Int64 × fw_S) := b_X_X10_bit_0 t x0
set_option maxRecDepth 20000 in
theorem w_X_X10_bit_0 {p : Program} {l : Launch} {e : Env} {s : State} {m : MethodId} {args : Array Value} {below : List Frame} {meth : Method} {c : Code} {A : Nat → Prop} {Q : State → Prop} {D : va_G} {ca : Nat → ClassId} {a : Nat → Nat} {u : fw_S} {r : Int64}  (C : CX (WX ca a) D (tyv ca) p s m args c A prog_1_method_39_code 1 RX10) (hr : True → RX (WX ca a) D p l e rm_X_X10_bit s m args below meth c A prog_1_method_39_code Q .lreturn [.long r] u) {t : fw_S} {x0 : Int32} {H : Heap} {locs : List Loc} {ls : Array Slot} (hf : b_X_X10_bit_0  t x0 = some (r, u)) (hP : va_P D classes (WX ca a t) H) (hS : va_S A s.heap H locs) (hl : lv_has ls 1 [(0, .int x0)]) : W p l e rm_X_X10_bit s m args below meth c H locs 0 0 Q (F0 m 0 ls []) := by
  obtain ⟨hx, hb, hml, hown, hts, hN, hK, hD, hA⟩ := id C
  have hf : (some (((1 : Int64)) <<< (x0.toInt64 &&& 63), t)) = some (r, u) := hf
  refine lv_lconst (v := 1) hx hb dX10_bit_0 (by decide) ?_
  refine lv_iload_n hx hb dX10_bit_1 rfl (lv_at hl 0 rfl) ?_
  refine lv_lshl hx hb dX10_bit_2 rfl ?_
  obtain ⟨e_3, e2_3⟩ := fb_e hf
  subst e_3; subst e2_3
  exact hr trivial _ _ _ _ hP hS dX10_bit_3
set_option maxRecDepth 20000 in
theorem c_X_X10_bit {l : Launch} {D : va_G} {ca : Nat → ClassId} {a : Nat → Nat} {t : fw_S} {x0 : Int32} {u : fw_S} {r : Int64} (hf : f_X_X10_bit t x0 = some (r, u)) : MC (WX ca a) D (tyv ca) l yX10_bit (.code yX10_bit prog_1_method_39_code 1 (some .long) :: lw_gd) rm_X_X10_bit [.int x0] (some (.long r)) t u := by
  refine fw_met (okX ca a) (by decide +kernel) rfl rfl (Nat.le_of_ble_eq_true rfl) ?_
  intro p e s m args below meth c A Q ls C hr hk hP hS hl hQ
  exact w_X_X10_bit_0 C (fun _ => fw_rl C hr hk hQ) hf hP hS (lv_sub hl [0] rfl)
/-! ReactiveSheet.Telling.put(IIJLReactiveSheet.Formula;)V ['x.telling', 'null'] -/
abbrev rm_X_X7_put__6_N : Room := { frames := 1, cells := 0, slots := 0, locals := 21 }
def b_X_X7_put__6_N_43  (t : fw_S)  : Option fw_S := some t
def b_X_X7_put__6_N_8  (t : fw_S) (x1 : Int32) (x2 : Int32) (y3 : Int64) : Option fw_S := fb_g (¬ (x1 < 0 ∨ 32 ≤ x1.toNatClampNeg)) (fb_l (up_F t 22 (upd (st_F t 22) x1.toNatClampNeg x2)) fun t_1 => (fb_g (¬ (x1 < 0 ∨ 32 ≤ x1.toNatClampNeg)) (fb_l (up_G t_1 5 (vp_updL (st_G t_1 5) x1.toNatClampNeg y3)) fun t_2 => (fb_g (¬ (x1 < 0 ∨ 32 ≤ x1.toNatClampNeg)) (fb_b (f_X_X10_bit t_2 x1) fun v_4 t_3 => (fb_l (up_J t_3 8 ((st_J t_2 8) ||| v_4)) fun t_5 => (b_X_X7_put__6_N_43 t_5)))))))
def b_X_X7_put__6_N_0  (t : fw_S) (x1 : Int32) (x2 : Int32) (y3 : Int64) : Option fw_S := fb_b (f_X_X10_isCell t x1.toInt64) fun v_2 t_1 => (if v_2 = 0 then b_X_X7_put__6_N_43 t_1 else b_X_X7_put__6_N_8 t_1 x1 x2 y3)
def f_X_X7_put__6_N (t : fw_S) (x1 : Int32) (x2 : Int32) (y3 : Int64) : Option fw_S := b_X_X7_put__6_N_0 t x1 x2 y3
set_option maxRecDepth 20000 in
theorem w_X_X7_put__6_N_43 {p : Program} {l : Launch} {e : Env} {s : State} {m : MethodId} {args : Array Value} {below : List Frame} {meth : Method} {c : Code} {A : Nat → Prop} {Q : State → Prop} {D : va_G} {ca : Nat → ClassId} {a : Nat → Nat} {u : fw_S}  (C : CX (WX ca a) D (tyv ca) p s m args c A prog_9_method_2_code 6 RX7) (hr : True → RX (WX ca a) D p l e rm_X_X7_put__6_N s m args below meth c A prog_9_method_2_code Q .return_ [] u) {t : fw_S}  {H : Heap} {locs : List Loc} {ls : Array Slot} (hf : b_X_X7_put__6_N_43  t  = some u) (hP : va_P D classes (WX ca a t) H) (hS : va_S A s.heap H locs) (hl : lv_has ls 6 []) : W p l e rm_X_X7_put__6_N s m args below meth c H locs 0 0 Q (F0 m 43 ls []) := by
  obtain ⟨hx, hb, hml, hown, hts, hN, hK, hD, hA⟩ := id C
  have hf : (some t) = some u := hf
  have e_43 := fb_ev hf
  subst e_43
  exact hr trivial _ _ _ _ hP hS dX7_put_43
set_option maxRecDepth 20000 in
theorem w_X_X7_put__6_N_8 {p : Program} {l : Launch} {e : Env} {s : State} {m : MethodId} {args : Array Value} {below : List Frame} {meth : Method} {c : Code} {A : Nat → Prop} {Q : State → Prop} {D : va_G} {ca : Nat → ClassId} {a : Nat → Nat} {u : fw_S}  (C : CX (WX ca a) D (tyv ca) p s m args c A prog_9_method_2_code 6 RX7) (hr : True → RX (WX ca a) D p l e rm_X_X7_put__6_N s m args below meth c A prog_9_method_2_code Q .return_ [] u) {t : fw_S} {x1 : Int32} {x2 : Int32} {y3 : Int64} {H : Heap} {locs : List Loc} {ls : Array Slot} (hf : b_X_X7_put__6_N_8  t x1 x2 y3 = some u) (hP : va_P D classes (WX ca a t) H) (hS : va_S A s.heap H locs) (hl : lv_has ls 6 [(0, .ref (a 6)), (1, .int x1), (2, .int x2), (3, .long y3), (5, .null)]) : W p l e rm_X_X7_put__6_N s m args below meth c H locs 0 0 Q (F0 m 8 ls []) := by
  obtain ⟨hx, hb, hml, hown, hts, hN, hK, hD, hA⟩ := id C
  have hf : (fb_g (¬ (x1 < 0 ∨ 32 ≤ x1.toNatClampNeg)) (fb_l (up_F t 22 (upd (st_F t 22) x1.toNatClampNeg x2)) fun t_1 => (fb_g (¬ (x1 < 0 ∨ 32 ≤ x1.toNatClampNeg)) (fb_l (up_G t_1 5 (vp_updL (st_G t_1 5) x1.toNatClampNeg y3)) fun t_2 => (fb_g (¬ (x1 < 0 ∨ 32 ≤ x1.toNatClampNeg)) (fb_b (f_X_X10_bit t_2 x1) fun v_4 t_3 => (fb_l (up_J t_3 8 ((st_J t_2 8) ||| v_4)) fun t_5 => (b_X_X7_put__6_N_43 t_5)))))))) = some u := hf
  refine lv_aload_n hx hb dX7_put_8 rfl (lv_at hl 0 rfl) ?_
  refine va_get (D := D) (ci := 7) (v := .ref (a 43)) (C := RX7) (T := TX7) (N := 4) hx hb hts inX7 hown hK hP 6 (heX_6 ca a t) rfl 0 (by decide) (hts _ kw_257) (fun _ h9 => h9) rfl dX7_put_9 ?_
  refine lv_iload_n hx hb dX7_put_12 rfl (lv_at hl 1 rfl) ?_
  refine lv_iload_n hx hb dX7_put_13 rfl (lv_at hl 2 rfl) ?_
  obtain ⟨h_14, hf⟩ := fb_if hf
  refine va_iast hx hb hK hP (hD t) hS 43 0 (haX_43 ca a t) rfl h_14 dX7_put_14 (fun H locs hP _ hS => ?_)
  rw [saX_43] at hP
  obtain ⟨t_1, e_14, hf⟩ := fb_ls hf
  rw [← e_14] at hP
  refine lv_aload_n hx hb dX7_put_15 rfl (lv_at hl 0 rfl) ?_
  refine va_get (D := D) (ci := 7) (v := .ref (a 44)) (C := RX7) (T := TX7) (N := 4) hx hb hts inX7 hown hK hP 6 (heX_6 ca a t_1) rfl 1 (by decide) (hts _ kw_258) (fun _ h9 => h9) rfl dX7_put_16 ?_
  refine lv_iload_n hx hb dX7_put_19 rfl (lv_at hl 1 rfl) ?_
  refine lv_lload_n hx hb dX7_put_20 rfl (lv_at hl 3 rfl) ?_
  obtain ⟨h_21, hf⟩ := fb_if hf
  refine va_last hx hb hK hP (hD t_1) hS 44 1 (haX_44 ca a t_1) rfl h_21 dX7_put_21 (fun H locs hP _ hS => ?_)
  rw [saX_44] at hP
  obtain ⟨t_2, e_21, hf⟩ := fb_ls hf
  rw [← e_21] at hP
  refine lv_aload_n hx hb dX7_put_22 rfl (lv_at hl 0 rfl) ?_
  refine va_get (D := D) (ci := 7) (v := .ref (a 45)) (C := RX7) (T := TX7) (N := 4) hx hb hts inX7 hown hK hP 6 (heX_6 ca a t_2) rfl 2 (by decide) (hts _ kw_259) (fun _ h9 => h9) rfl dX7_put_23 ?_
  refine lv_iload_n hx hb dX7_put_26 rfl (lv_at hl 1 rfl) ?_
  refine lv_aloadN hx hb dX7_put_27 (lv_at hl 4 rfl) ?_
  obtain ⟨h_29, hf⟩ := fb_if hf
  refine va_astqN (C := "ReactiveSheet$Formula") hx hb hK hP (hD t_2) hS 45 3 (haX_45 ca a t_2) rfl h_29 dX7_put_29 (fun H locs hP _ hS => ?_)
  rw [fb_nq, saX_45] at hP
  refine lv_aload_n hx hb dX7_put_30 rfl (lv_at hl 0 rfl) ?_
  refine lv_dup hx hb dX7_put_31 rfl ?_
  refine va_get (D := D) (ci := 7) (v := .long (st_J t_2 8)) (C := RX7) (T := TX7) (N := 4) hx hb hts inX7 hown hK hP 6 (heX_6 ca a t_2) rfl 3 (by decide) (hts _ kw_260) (fun _ h9 => h9) rfl dX7_put_32 ?_
  refine lv_iload_n hx hb dX7_put_35 rfl (lv_at hl 1 rfl) ?_
  obtain ⟨v_4, t_3, g_36, hf⟩ := fb_bs hf
  refine fw_S2 (As := [.int x1]) (rest := [.long (st_J t_2 8), .ref (a 6)]) (n := 1) C (c_X_X10_bit (l := l) (D := D) (ca := ca) (a := a) g_36) kw_407 kw_408 kw_92 kw_409 hP hS hl rfl rfl (by decide) (by decide +kernel) ⟨Nat.le_of_ble_eq_true rfl, Nat.le_of_ble_eq_true rfl⟩ rfl rfl (Nat.le_of_ble_eq_true rfl) dX7_put_36 (fun H locs hP hS => ?_)
  refine W.eq (g2 := F0 m 39 ls [.long v_4, .long (st_J t_2 8), .ref (a 6)]) rfl ?_
  refine lv_lor hx hb dX7_put_39 ?_
  refine va_put (D := D) (ci := 7) (v := .long ((st_J t_2 8) ||| v_4)) (ty := .long) (C := RX7) (T := TX7) (N := 4) hx hb hts inX7 tyX7 tyX7_ok nmX7 hown hK hP (hD t_3) hS 6 (heX_6 ca a t_3) rfl 3 (by decide) (hts _ kw_260) (fun _ h9 => h9) rfl (by decide +kernel) rfl rfl (Nat.le_of_ble_eq_true rfl) dX7_put_40 (fun H locs hP _ hS => ?_)
  rw [suX_6_3] at hP
  obtain ⟨t_5, e_40, hf⟩ := fb_ls hf
  rw [← e_40] at hP
  exact w_X_X7_put__6_N_43 C hr hf hP hS (lv_sub hl [] rfl)
set_option maxRecDepth 20000 in
theorem w_X_X7_put__6_N_0 {p : Program} {l : Launch} {e : Env} {s : State} {m : MethodId} {args : Array Value} {below : List Frame} {meth : Method} {c : Code} {A : Nat → Prop} {Q : State → Prop} {D : va_G} {ca : Nat → ClassId} {a : Nat → Nat} {u : fw_S}  (C : CX (WX ca a) D (tyv ca) p s m args c A prog_9_method_2_code 6 RX7) (hr : True → RX (WX ca a) D p l e rm_X_X7_put__6_N s m args below meth c A prog_9_method_2_code Q .return_ [] u) {t : fw_S} {x1 : Int32} {x2 : Int32} {y3 : Int64} {H : Heap} {locs : List Loc} {ls : Array Slot} (hf : b_X_X7_put__6_N_0  t x1 x2 y3 = some u) (hP : va_P D classes (WX ca a t) H) (hS : va_S A s.heap H locs) (hl : lv_has ls 6 [(0, .ref (a 6)), (1, .int x1), (2, .int x2), (3, .long y3), (5, .null)]) : W p l e rm_X_X7_put__6_N s m args below meth c H locs 0 0 Q (F0 m 0 ls []) := by
  obtain ⟨hx, hb, hml, hown, hts, hN, hK, hD, hA⟩ := id C
  have hf : (fb_b (f_X_X10_isCell t x1.toInt64) fun v_2 t_1 => (if v_2 = 0 then b_X_X7_put__6_N_43 t_1 else b_X_X7_put__6_N_8 t_1 x1 x2 y3)) = some u := hf
  refine lv_iload_n hx hb dX7_put_0 rfl (lv_at hl 1 rfl) ?_
  refine lv_i2l hx hb dX7_put_1 rfl ?_
  obtain ⟨v_2, t_1, g_2, hf⟩ := fb_bs hf
  refine fw_S2 (As := [.long x1.toInt64]) (rest := []) (n := 1) C (c_X_X10_isCell (l := l) (D := D) (ca := ca) (a := a) g_2) kw_406 kw_399 kw_92 kw_400 hP hS hl rfl rfl (by decide) (by decide +kernel) ⟨Nat.le_of_ble_eq_true rfl, Nat.le_of_ble_eq_true rfl⟩ rfl rfl (Nat.le_of_ble_eq_true rfl) dX7_put_2 (fun H locs hP hS => ?_)
  refine W.eq (g2 := F0 m 5 ls [.int v_2]) rfl ?_
  refine lv_if_eq (tgt := 43) hx hb dX7_put_5 (by decide) (fun h_5 => ?_) (fun h_5 => ?_)
  · have hf := fb_t h_5 hf
    exact w_X_X7_put__6_N_43 C hr hf hP hS (lv_sub hl [] rfl)
  · have hf := fb_f h_5 hf
    exact w_X_X7_put__6_N_8 C hr hf hP hS (lv_sub hl [0, 1, 2, 3, 4] rfl)
set_option maxRecDepth 20000 in
theorem c_X_X7_put__6_N {l : Launch} {D : va_G} {ca : Nat → ClassId} {a : Nat → Nat} {t : fw_S} {x1 : Int32} {x2 : Int32} {y3 : Int64} {u : fw_S} (hf : f_X_X7_put__6_N t x1 x2 y3 = some u) : MC (WX ca a) D (tyv ca) l yX7_put (.code yX7_put prog_9_method_2_code 6 none :: lw_gd) rm_X_X7_put__6_N [.ref (a 6), .int x1, .int x2, .long y3, .null] none t u := by
  refine fw_met (okX ca a) (by decide +kernel) rfl rfl (Nat.le_of_ble_eq_true rfl) ?_
  intro p e s m args below meth c A Q ls C hr hk hP hS hl hQ
  exact w_X_X7_put__6_N_0 C (fun _ => fw_rv C hr hk hQ) hf hP hS (lv_sub hl [0, 1, 2, 3, 4] rfl)
/-! ReactiveSheet.Cells.readCount(I)I ['x.engine.now'] -/
abbrev rm_X_X0_readCount__4 : Room := { frames := 1, cells := 0, slots := 0, locals := 21 }
def b_X_X0_readCount__4_18  (t : fw_S) (z0 : Int32) : Option (Int32 × fw_S) := some (z0, t)
def b_X_X0_readCount__4_17  (t : fw_S)  : Option (Int32 × fw_S) := b_X_X0_readCount__4_18 t ((0 : Int32))
def b_X_X0_readCount__4_8  (t : fw_S) (x1 : Int32) : Option (Int32 × fw_S) := fb_g (¬ (x1 < 0 ∨ 32 ≤ x1.toNatClampNeg)) (b_X_X0_readCount__4_18 t (st_F t 14 x1.toNatClampNeg))
def b_X_X0_readCount__4_0  (t : fw_S) (x1 : Int32) : Option (Int32 × fw_S) := fb_b (f_X_X10_isCell t x1.toInt64) fun v_2 t_1 => (if v_2 = 0 then b_X_X0_readCount__4_17 t_1 else b_X_X0_readCount__4_8 t_1 x1)
def f_X_X0_readCount__4 (t : fw_S) (x1 : Int32) : Option (Int32 × fw_S) := b_X_X0_readCount__4_0 t x1
set_option maxRecDepth 20000 in
theorem w_X_X0_readCount__4_18 {p : Program} {l : Launch} {e : Env} {s : State} {m : MethodId} {args : Array Value} {below : List Frame} {meth : Method} {c : Code} {A : Nat → Prop} {Q : State → Prop} {D : va_G} {ca : Nat → ClassId} {a : Nat → Nat} {u : fw_S} {r : Int32}  (C : CX (WX ca a) D (tyv ca) p s m args c A prog_2_method_19_code 2 RX0) (hr : True → RX (WX ca a) D p l e rm_X_X0_readCount__4 s m args below meth c A prog_2_method_19_code Q .ireturn [.int r] u) {t : fw_S} {z0 : Int32} {H : Heap} {locs : List Loc} {ls : Array Slot} (hf : b_X_X0_readCount__4_18  t z0 = some (r, u)) (hP : va_P D classes (WX ca a t) H) (hS : va_S A s.heap H locs) (hl : lv_has ls 2 []) : W p l e rm_X_X0_readCount__4 s m args below meth c H locs 0 0 Q (F0 m 18 ls [.int z0]) := by
  obtain ⟨hx, hb, hml, hown, hts, hN, hK, hD, hA⟩ := id C
  have hf : (some (z0, t)) = some (r, u) := hf
  obtain ⟨e_18, e2_18⟩ := fb_e hf
  subst e_18; subst e2_18
  exact hr trivial _ _ _ _ hP hS dX0_readCount_18
set_option maxRecDepth 20000 in
theorem w_X_X0_readCount__4_17 {p : Program} {l : Launch} {e : Env} {s : State} {m : MethodId} {args : Array Value} {below : List Frame} {meth : Method} {c : Code} {A : Nat → Prop} {Q : State → Prop} {D : va_G} {ca : Nat → ClassId} {a : Nat → Nat} {u : fw_S} {r : Int32}  (C : CX (WX ca a) D (tyv ca) p s m args c A prog_2_method_19_code 2 RX0) (hr : True → RX (WX ca a) D p l e rm_X_X0_readCount__4 s m args below meth c A prog_2_method_19_code Q .ireturn [.int r] u) {t : fw_S}  {H : Heap} {locs : List Loc} {ls : Array Slot} (hf : b_X_X0_readCount__4_17  t  = some (r, u)) (hP : va_P D classes (WX ca a t) H) (hS : va_S A s.heap H locs) (hl : lv_has ls 2 []) : W p l e rm_X_X0_readCount__4 s m args below meth c H locs 0 0 Q (F0 m 17 ls []) := by
  obtain ⟨hx, hb, hml, hown, hts, hN, hK, hD, hA⟩ := id C
  have hf : (b_X_X0_readCount__4_18 t ((0 : Int32))) = some (r, u) := hf
  refine lv_iconst (v := 0) hx hb dX0_readCount_17 (by decide) ?_
  exact w_X_X0_readCount__4_18 C hr hf hP hS (lv_sub hl [] rfl)
set_option maxRecDepth 20000 in
theorem w_X_X0_readCount__4_8 {p : Program} {l : Launch} {e : Env} {s : State} {m : MethodId} {args : Array Value} {below : List Frame} {meth : Method} {c : Code} {A : Nat → Prop} {Q : State → Prop} {D : va_G} {ca : Nat → ClassId} {a : Nat → Nat} {u : fw_S} {r : Int32}  (C : CX (WX ca a) D (tyv ca) p s m args c A prog_2_method_19_code 2 RX0) (hr : True → RX (WX ca a) D p l e rm_X_X0_readCount__4 s m args below meth c A prog_2_method_19_code Q .ireturn [.int r] u) {t : fw_S} {x1 : Int32} {H : Heap} {locs : List Loc} {ls : Array Slot} (hf : b_X_X0_readCount__4_8  t x1 = some (r, u)) (hP : va_P D classes (WX ca a t) H) (hS : va_S A s.heap H locs) (hl : lv_has ls 2 [(0, .ref (a 4)), (1, .int x1)]) : W p l e rm_X_X0_readCount__4 s m args below meth c H locs 0 0 Q (F0 m 8 ls []) := by
  obtain ⟨hx, hb, hml, hown, hts, hN, hK, hD, hA⟩ := id C
  have hf : (fb_g (¬ (x1 < 0 ∨ 32 ≤ x1.toNatClampNeg)) (b_X_X0_readCount__4_18 t (st_F t 14 x1.toNatClampNeg))) = some (r, u) := hf
  refine lv_aload_n hx hb dX0_readCount_8 rfl (lv_at hl 0 rfl) ?_
  refine va_get (D := D) (ci := 0) (v := .ref (a 30)) (C := RX0) (T := TX0) (N := 12) hx hb hts inX0 hown hK hP 4 (heX_4 ca a t) rfl 8 (by decide) (hts _ kw_195) (fun _ h9 => h9) rfl dX0_readCount_9 ?_
  refine lv_iload_n hx hb dX0_readCount_12 rfl (lv_at hl 1 rfl) ?_
  obtain ⟨h_13, hf⟩ := fb_if hf
  refine va_iald hx hb hK hP 30 0 (haX_30 ca a t) rfl h_13 dX0_readCount_13 ?_
  refine lv_goto (tgt := 18) hx hb dX0_readCount_14 (by decide) ?_
  exact w_X_X0_readCount__4_18 C hr hf hP hS (lv_sub hl [] rfl)
set_option maxRecDepth 20000 in
theorem w_X_X0_readCount__4_0 {p : Program} {l : Launch} {e : Env} {s : State} {m : MethodId} {args : Array Value} {below : List Frame} {meth : Method} {c : Code} {A : Nat → Prop} {Q : State → Prop} {D : va_G} {ca : Nat → ClassId} {a : Nat → Nat} {u : fw_S} {r : Int32}  (C : CX (WX ca a) D (tyv ca) p s m args c A prog_2_method_19_code 2 RX0) (hr : True → RX (WX ca a) D p l e rm_X_X0_readCount__4 s m args below meth c A prog_2_method_19_code Q .ireturn [.int r] u) {t : fw_S} {x1 : Int32} {H : Heap} {locs : List Loc} {ls : Array Slot} (hf : b_X_X0_readCount__4_0  t x1 = some (r, u)) (hP : va_P D classes (WX ca a t) H) (hS : va_S A s.heap H locs) (hl : lv_has ls 2 [(0, .ref (a 4)), (1, .int x1)]) : W p l e rm_X_X0_readCount__4 s m args below meth c H locs 0 0 Q (F0 m 0 ls []) := by
  obtain ⟨hx, hb, hml, hown, hts, hN, hK, hD, hA⟩ := id C
  have hf : (fb_b (f_X_X10_isCell t x1.toInt64) fun v_2 t_1 => (if v_2 = 0 then b_X_X0_readCount__4_17 t_1 else b_X_X0_readCount__4_8 t_1 x1)) = some (r, u) := hf
  refine lv_iload_n hx hb dX0_readCount_0 rfl (lv_at hl 1 rfl) ?_
  refine lv_i2l hx hb dX0_readCount_1 rfl ?_
  obtain ⟨v_2, t_1, g_2, hf⟩ := fb_bs hf
  refine fw_S2 (As := [.long x1.toInt64]) (rest := []) (n := 1) C (c_X_X10_isCell (l := l) (D := D) (ca := ca) (a := a) g_2) kw_429 kw_399 kw_92 kw_400 hP hS hl rfl rfl (by decide) (by decide +kernel) ⟨Nat.le_of_ble_eq_true rfl, Nat.le_of_ble_eq_true rfl⟩ rfl rfl (Nat.le_of_ble_eq_true rfl) dX0_readCount_2 (fun H locs hP hS => ?_)
  refine W.eq (g2 := F0 m 5 ls [.int v_2]) rfl ?_
  refine lv_if_eq (tgt := 17) hx hb dX0_readCount_5 (by decide) (fun h_5 => ?_) (fun h_5 => ?_)
  · have hf := fb_t h_5 hf
    exact w_X_X0_readCount__4_17 C hr hf hP hS (lv_sub hl [] rfl)
  · have hf := fb_f h_5 hf
    exact w_X_X0_readCount__4_8 C hr hf hP hS (lv_sub hl [0, 1] rfl)
set_option maxRecDepth 20000 in
theorem c_X_X0_readCount__4 {l : Launch} {D : va_G} {ca : Nat → ClassId} {a : Nat → Nat} {t : fw_S} {x1 : Int32} {u : fw_S} {r : Int32} (hf : f_X_X0_readCount__4 t x1 = some (r, u)) : MC (WX ca a) D (tyv ca) l yX0_readCount (.code yX0_readCount prog_2_method_19_code 2 (some .int) :: lw_gd) rm_X_X0_readCount__4 [.ref (a 4), .int x1] (some (.int r)) t u := by
  refine fw_met (okX ca a) (by decide +kernel) rfl rfl (Nat.le_of_ble_eq_true rfl) ?_
  intro p e s m args below meth c A Q ls C hr hk hP hS hl hQ
  exact w_X_X0_readCount__4_0 C (fun _ => fw_ri C hr hk hQ) hf hP hS (lv_sub hl [0, 1] rfl)
/-! ReactiveSheet.Cells.takeFrom(LReactiveSheet.Cells;)V ['x.engine.before', 'x.engine.now'] -/
abbrev rm_X_X0_takeFrom__5_4 : Room := { frames := 2, cells := 0, slots := 0, locals := 100 }
def b_X_X0_takeFrom__5_4_182  (t : fw_S)  : Option fw_S := fb_l (up_J t 6 (st_J t 4)) fun t_1 => (fb_l (up_J t_1 7 (st_J t_1 5)) fun t_2 => (some t_2))
def b_X_X0_takeFrom__5_4_176 (k122 : fw_S → Int32 → Option fw_S) (t : fw_S) (x2 : Int32) : Option fw_S := k122 t (x2 + 1)
def b_X_X0_takeFrom__5_4_156 (k122 : fw_S → Int32 → Option fw_S) (t : fw_S) (x2 : Int32) (x3 : Int32) : Option fw_S := fb_g (¬ (x2 * ((32 : Int32))) < 0 ∧ ¬ (x2 * ((32 : Int32))) < 0 ∧ ¬ x3 < 0 ∧ (x2 * ((32 : Int32))).toNatClampNeg + x3.toNatClampNeg ≤ 1024 ∧ (x2 * ((32 : Int32))).toNatClampNeg + x3.toNatClampNeg ≤ 1024) (fb_l (up_F t 20 (va_cpy (st_F t 13) (st_F t 20) (x2 * ((32 : Int32))).toNatClampNeg (x2 * ((32 : Int32))).toNatClampNeg x3.toNatClampNeg)) fun t_1 => (b_X_X0_takeFrom__5_4_176 k122 t_1 x2))
def b_X_X0_takeFrom__5_4_150 (k122 : fw_S → Int32 → Option fw_S) (t : fw_S) (x2 : Int32) (x3 : Int32) : Option fw_S := if ((32 : Int32)) < x3 then b_X_X0_takeFrom__5_4_176 k122 t x2 else b_X_X0_takeFrom__5_4_156 k122 t x2 x3
def b_X_X0_takeFrom__5_4_128 (k122 : fw_S → Int32 → Option fw_S) (t : fw_S) (x2 : Int32) : Option fw_S := fb_g (¬ (x2 < 0 ∨ 32 ≤ x2.toNatClampNeg)) (fb_g (¬ (x2 < 0 ∨ 32 ≤ x2.toNatClampNeg)) (fb_b (f_X_X0_readCount__4 t x2) fun v_2 t_1 => (if v_2 ≤ 0 then b_X_X0_takeFrom__5_4_176 k122 t_1 x2 else b_X_X0_takeFrom__5_4_150 k122 t_1 x2 v_2)))
def b_X_X0_takeFrom__5_4_122  : Nat → (fw_S → Int32 → Option fw_S)
  | 0 => fun _ _ => none
  | n + 1 => fun t x2 => if ((32 : Int32)) ≤ x2 then b_X_X0_takeFrom__5_4_182 t else b_X_X0_takeFrom__5_4_128 (b_X_X0_takeFrom__5_4_122 n) t x2
def b_X_X0_takeFrom__5_4_0  (t : fw_S)  : Option fw_S := fb_g (¬ ((0 : Int32)) < 0 ∧ ¬ ((0 : Int32)) < 0 ∧ ¬ ((32 : Int32)) < 0 ∧ ((0 : Int32)).toNatClampNeg + ((32 : Int32)).toNatClampNeg ≤ 32 ∧ ((0 : Int32)).toNatClampNeg + ((32 : Int32)).toNatClampNeg ≤ 32) (fb_l (up_F t 15 (va_cpy (st_F t 8) (st_F t 15) ((0 : Int32)).toNatClampNeg ((0 : Int32)).toNatClampNeg ((32 : Int32)).toNatClampNeg)) fun t_1 => (fb_g (¬ ((0 : Int32)) < 0 ∧ ¬ ((0 : Int32)) < 0 ∧ ¬ ((32 : Int32)) < 0 ∧ ((0 : Int32)).toNatClampNeg + ((32 : Int32)).toNatClampNeg ≤ 32 ∧ ((0 : Int32)).toNatClampNeg + ((32 : Int32)).toNatClampNeg ≤ 32) (fb_l (up_G t_1 2 (va_cpy (st_G t_1 0) (st_G t_1 2) ((0 : Int32)).toNatClampNeg ((0 : Int32)).toNatClampNeg ((32 : Int32)).toNatClampNeg)) fun t_2 => (fb_g (¬ ((0 : Int32)) < 0 ∧ ¬ ((0 : Int32)) < 0 ∧ ¬ ((32 : Int32)) < 0 ∧ ((0 : Int32)).toNatClampNeg + ((32 : Int32)).toNatClampNeg ≤ 32 ∧ ((0 : Int32)).toNatClampNeg + ((32 : Int32)).toNatClampNeg ≤ 32) (fb_l (up_F t_2 16 (va_cpy (st_F t_2 9) (st_F t_2 16) ((0 : Int32)).toNatClampNeg ((0 : Int32)).toNatClampNeg ((32 : Int32)).toNatClampNeg)) fun t_3 => (fb_g (¬ ((0 : Int32)) < 0 ∧ ¬ ((0 : Int32)) < 0 ∧ ¬ ((32 : Int32)) < 0 ∧ ((0 : Int32)).toNatClampNeg + ((32 : Int32)).toNatClampNeg ≤ 32 ∧ ((0 : Int32)).toNatClampNeg + ((32 : Int32)).toNatClampNeg ≤ 32) (fb_l (up_F t_3 17 (va_cpy (st_F t_3 10) (st_F t_3 17) ((0 : Int32)).toNatClampNeg ((0 : Int32)).toNatClampNeg ((32 : Int32)).toNatClampNeg)) fun t_4 => (fb_g (¬ ((0 : Int32)) < 0 ∧ ¬ ((0 : Int32)) < 0 ∧ ¬ ((32 : Int32)) < 0 ∧ ((0 : Int32)).toNatClampNeg + ((32 : Int32)).toNatClampNeg ≤ 32 ∧ ((0 : Int32)).toNatClampNeg + ((32 : Int32)).toNatClampNeg ≤ 32) (fb_l (up_F t_4 18 (va_cpy (st_F t_4 11) (st_F t_4 18) ((0 : Int32)).toNatClampNeg ((0 : Int32)).toNatClampNeg ((32 : Int32)).toNatClampNeg)) fun t_5 => (fb_g (¬ ((0 : Int32)) < 0 ∧ ¬ ((0 : Int32)) < 0 ∧ ¬ ((32 : Int32)) < 0 ∧ ((0 : Int32)).toNatClampNeg + ((32 : Int32)).toNatClampNeg ≤ 32 ∧ ((0 : Int32)).toNatClampNeg + ((32 : Int32)).toNatClampNeg ≤ 32) (fb_l (up_F t_5 19 (va_cpy (st_F t_5 12) (st_F t_5 19) ((0 : Int32)).toNatClampNeg ((0 : Int32)).toNatClampNeg ((32 : Int32)).toNatClampNeg)) fun t_6 => (fb_g (¬ ((0 : Int32)) < 0 ∧ ¬ ((0 : Int32)) < 0 ∧ ¬ ((32 : Int32)) < 0 ∧ ((0 : Int32)).toNatClampNeg + ((32 : Int32)).toNatClampNeg ≤ 32 ∧ ((0 : Int32)).toNatClampNeg + ((32 : Int32)).toNatClampNeg ≤ 32) (fb_l (up_F t_6 21 (va_cpy (st_F t_6 14) (st_F t_6 21) ((0 : Int32)).toNatClampNeg ((0 : Int32)).toNatClampNeg ((32 : Int32)).toNatClampNeg)) fun t_7 => (fb_g (¬ ((0 : Int32)) < 0 ∧ ¬ ((0 : Int32)) < 0 ∧ ¬ ((32 : Int32)) < 0 ∧ ((0 : Int32)).toNatClampNeg + ((32 : Int32)).toNatClampNeg ≤ 32 ∧ ((0 : Int32)).toNatClampNeg + ((32 : Int32)).toNatClampNeg ≤ 32) (fb_l (up_G t_7 3 (va_cpy (st_G t_7 1) (st_G t_7 3) ((0 : Int32)).toNatClampNeg ((0 : Int32)).toNatClampNeg ((32 : Int32)).toNatClampNeg)) fun t_8 => (b_X_X0_takeFrom__5_4_122 3000 t_8 ((0 : Int32))))))))))))))))))
def f_X_X0_takeFrom__5_4 (t : fw_S)  : Option fw_S := b_X_X0_takeFrom__5_4_0 t 
set_option maxRecDepth 20000 in
theorem w_X_X0_takeFrom__5_4_182 {p : Program} {l : Launch} {e : Env} {s : State} {m : MethodId} {args : Array Value} {below : List Frame} {meth : Method} {c : Code} {A : Nat → Prop} {Q : State → Prop} {D : va_G} {ca : Nat → ClassId} {a : Nat → Nat} {u : fw_S}  (C : CX (WX ca a) D (tyv ca) p s m args c A prog_2_method_2_code 4 RX0) (hr : True → RX (WX ca a) D p l e rm_X_X0_takeFrom__5_4 s m args below meth c A prog_2_method_2_code Q .return_ [] u) {t : fw_S}  {H : Heap} {locs : List Loc} {ls : Array Slot} (hf : b_X_X0_takeFrom__5_4_182  t  = some u) (hP : va_P D classes (WX ca a t) H) (hS : va_S A s.heap H locs) (hl : lv_has ls 4 [(0, .ref (a 5)), (1, .ref (a 4))]) : W p l e rm_X_X0_takeFrom__5_4 s m args below meth c H locs 0 0 Q (F0 m 182 ls []) := by
  obtain ⟨hx, hb, hml, hown, hts, hN, hK, hD, hA⟩ := id C
  have hf : (fb_l (up_J t 6 (st_J t 4)) fun t_1 => (fb_l (up_J t_1 7 (st_J t_1 5)) fun t_2 => (some t_2))) = some u := hf
  refine lv_aload_n hx hb dX0_takeFrom_182 rfl (lv_at hl 0 rfl) ?_
  refine lv_aload_n hx hb dX0_takeFrom_183 rfl (lv_at hl 1 rfl) ?_
  refine va_get (D := D) (ci := 0) (v := .long (st_J t 4)) (C := RX0) (T := TX0) (N := 12) hx hb hts inX0 hown hK hP 4 (heX_4 ca a t) rfl 10 (by decide) (hts _ kw_197) (fun _ h9 => h9) rfl dX0_takeFrom_184 ?_
  refine va_put (D := D) (ci := 0) (v := .long (st_J t 4)) (ty := .long) (C := RX0) (T := TX0) (N := 12) hx hb hts inX0 tyX0 tyX0_ok nmX0 hown hK hP (hD t) hS 5 (heX_5 ca a t) rfl 10 (by decide) (hts _ kw_197) (fun _ h9 => h9) rfl (by decide +kernel) rfl rfl (Nat.le_of_ble_eq_true rfl) dX0_takeFrom_187 (fun H locs hP _ hS => ?_)
  rw [suX_5_10] at hP
  obtain ⟨t_1, e_187, hf⟩ := fb_ls hf
  rw [← e_187] at hP
  refine lv_aload_n hx hb dX0_takeFrom_190 rfl (lv_at hl 0 rfl) ?_
  refine lv_aload_n hx hb dX0_takeFrom_191 rfl (lv_at hl 1 rfl) ?_
  refine va_get (D := D) (ci := 0) (v := .long (st_J t_1 5)) (C := RX0) (T := TX0) (N := 12) hx hb hts inX0 hown hK hP 4 (heX_4 ca a t_1) rfl 11 (by decide) (hts _ kw_198) (fun _ h9 => h9) rfl dX0_takeFrom_192 ?_
  refine va_put (D := D) (ci := 0) (v := .long (st_J t_1 5)) (ty := .long) (C := RX0) (T := TX0) (N := 12) hx hb hts inX0 tyX0 tyX0_ok nmX0 hown hK hP (hD t_1) hS 5 (heX_5 ca a t_1) rfl 11 (by decide) (hts _ kw_198) (fun _ h9 => h9) rfl (by decide +kernel) rfl rfl (Nat.le_of_ble_eq_true rfl) dX0_takeFrom_195 (fun H locs hP _ hS => ?_)
  rw [suX_5_11] at hP
  obtain ⟨t_2, e_195, hf⟩ := fb_ls hf
  rw [← e_195] at hP
  have e_198 := fb_ev hf
  subst e_198
  exact hr trivial _ _ _ _ hP hS dX0_takeFrom_198
set_option maxRecDepth 20000 in
theorem w_X_X0_takeFrom__5_4_176 {p : Program} {l : Launch} {e : Env} {s : State} {m : MethodId} {args : Array Value} {below : List Frame} {meth : Method} {c : Code} {A : Nat → Prop} {Q : State → Prop} {D : va_G} {ca : Nat → ClassId} {a : Nat → Nat} {u : fw_S} {k122 : fw_S → Int32 → Option fw_S} (C : CX (WX ca a) D (tyv ca) p s m args c A prog_2_method_2_code 4 RX0) (hr : True → RX (WX ca a) D p l e rm_X_X0_takeFrom__5_4 s m args below meth c A prog_2_method_2_code Q .return_ [] u) (hk122 : ∀ (t : fw_S) (x2 : Int32) (H : Heap) (locs : List Loc) (ls : Array Slot), k122 t x2 = some u → va_P D classes (WX ca a t) H → va_S A s.heap H locs → lv_has ls 4 [(0, .ref (a 5)), (1, .ref (a 4)), (2, .int x2)] → W p l e rm_X_X0_takeFrom__5_4 s m args below meth c H locs 0 0 Q (F0 m 122 ls [])) {t : fw_S} {x2 : Int32} {H : Heap} {locs : List Loc} {ls : Array Slot} (hf : b_X_X0_takeFrom__5_4_176 k122 t x2 = some u) (hP : va_P D classes (WX ca a t) H) (hS : va_S A s.heap H locs) (hl : lv_has ls 4 [(0, .ref (a 5)), (1, .ref (a 4)), (2, .int x2)]) : W p l e rm_X_X0_takeFrom__5_4 s m args below meth c H locs 0 0 Q (F0 m 176 ls []) := by
  obtain ⟨hx, hb, hml, hown, hts, hN, hK, hD, hA⟩ := id C
  have hf : (k122 t (x2 + 1)) = some u := hf
  refine lv_iinc (v := x2 + 1) (lv' := [(2, .int (x2 + 1)), (0, .ref (a 5)), (1, .ref (a 4))]) hx hb dX0_takeFrom_176 hl (k := 2) rfl rfl (by decide) rfl (fun ls hl => ?_)
  refine lv_goto (tgt := 122) hx hb dX0_takeFrom_179 (by decide) ?_
  exact hk122 t (x2 + 1) _ _ _ hf hP hS (lv_sub hl [1, 2, 0] rfl)
set_option maxRecDepth 20000 in
theorem w_X_X0_takeFrom__5_4_156 {p : Program} {l : Launch} {e : Env} {s : State} {m : MethodId} {args : Array Value} {below : List Frame} {meth : Method} {c : Code} {A : Nat → Prop} {Q : State → Prop} {D : va_G} {ca : Nat → ClassId} {a : Nat → Nat} {u : fw_S} {k122 : fw_S → Int32 → Option fw_S} (C : CX (WX ca a) D (tyv ca) p s m args c A prog_2_method_2_code 4 RX0) (hr : True → RX (WX ca a) D p l e rm_X_X0_takeFrom__5_4 s m args below meth c A prog_2_method_2_code Q .return_ [] u) (hk122 : ∀ (t : fw_S) (x2 : Int32) (H : Heap) (locs : List Loc) (ls : Array Slot), k122 t x2 = some u → va_P D classes (WX ca a t) H → va_S A s.heap H locs → lv_has ls 4 [(0, .ref (a 5)), (1, .ref (a 4)), (2, .int x2)] → W p l e rm_X_X0_takeFrom__5_4 s m args below meth c H locs 0 0 Q (F0 m 122 ls [])) {t : fw_S} {x2 : Int32} {x3 : Int32} {H : Heap} {locs : List Loc} {ls : Array Slot} (hf : b_X_X0_takeFrom__5_4_156 k122 t x2 x3 = some u) (hP : va_P D classes (WX ca a t) H) (hS : va_S A s.heap H locs) (hl : lv_has ls 4 [(0, .ref (a 5)), (1, .ref (a 4)), (2, .int x2), (3, .int x3)]) : W p l e rm_X_X0_takeFrom__5_4 s m args below meth c H locs 0 0 Q (F0 m 156 ls []) := by
  obtain ⟨hx, hb, hml, hown, hts, hN, hK, hD, hA⟩ := id C
  have hf : (fb_g (¬ (x2 * ((32 : Int32))) < 0 ∧ ¬ (x2 * ((32 : Int32))) < 0 ∧ ¬ x3 < 0 ∧ (x2 * ((32 : Int32))).toNatClampNeg + x3.toNatClampNeg ≤ 1024 ∧ (x2 * ((32 : Int32))).toNatClampNeg + x3.toNatClampNeg ≤ 1024) (fb_l (up_F t 20 (va_cpy (st_F t 13) (st_F t 20) (x2 * ((32 : Int32))).toNatClampNeg (x2 * ((32 : Int32))).toNatClampNeg x3.toNatClampNeg)) fun t_1 => (b_X_X0_takeFrom__5_4_176 k122 t_1 x2))) = some u := hf
  refine lv_aload_n hx hb dX0_takeFrom_156 rfl (lv_at hl 1 rfl) ?_
  refine va_get (D := D) (ci := 0) (v := .ref (a 29)) (C := RX0) (T := TX0) (N := 12) hx hb hts inX0 hown hK hP 4 (heX_4 ca a t) rfl 7 (by decide) (hts _ kw_194) (fun _ h9 => h9) rfl dX0_takeFrom_157 ?_
  refine lv_iload_n hx hb dX0_takeFrom_160 rfl (lv_at hl 2 rfl) ?_
  refine lv_bipush (v := 32) hx hb dX0_takeFrom_161 (by decide) ?_
  refine lv_imul hx hb dX0_takeFrom_163 ?_
  refine lv_aload_n hx hb dX0_takeFrom_164 rfl (lv_at hl 0 rfl) ?_
  refine va_get (D := D) (ci := 0) (v := .ref (a 39)) (C := RX0) (T := TX0) (N := 12) hx hb hts inX0 hown hK hP 5 (heX_5 ca a t) rfl 7 (by decide) (hts _ kw_194) (fun _ h9 => h9) rfl dX0_takeFrom_165 ?_
  refine lv_iload_n hx hb dX0_takeFrom_168 rfl (lv_at hl 2 rfl) ?_
  refine lv_bipush (v := 32) hx hb dX0_takeFrom_169 (by decide) ?_
  refine lv_imul hx hb dX0_takeFrom_171 ?_
  refine lv_iload_n hx hb dX0_takeFrom_172 rfl (lv_at hl 3 rfl) ?_
  obtain ⟨⟨h1_173, h2_173, h3_173, h4_173, h5_173⟩, hf⟩ := fb_if hf
  refine va_copyi hx hb (hml.trans hl.1.symm) hown (hts _ kw_422) (hts _ kw_424) (hts _ kw_423) (hts _ kw_103) hK hP (hD t) hS 29 39 0 0 (haX_29 ca a t) (haX_39 ca a t) rfl rfl rfl h1_173 h2_173 h3_173 h4_173 h5_173 (fun _ _ => rfl) (Nat.le_of_ble_eq_true rfl) (Nat.le_of_ble_eq_true rfl) dX0_takeFrom_173 (fun H locs hP _ hS => ?_)
  rw [saX_39] at hP
  obtain ⟨t_1, e_173, hf⟩ := fb_ls hf
  rw [← e_173] at hP
  exact w_X_X0_takeFrom__5_4_176 C hr hk122 hf hP hS (lv_sub hl [0, 1, 2] rfl)
set_option maxRecDepth 20000 in
theorem w_X_X0_takeFrom__5_4_150 {p : Program} {l : Launch} {e : Env} {s : State} {m : MethodId} {args : Array Value} {below : List Frame} {meth : Method} {c : Code} {A : Nat → Prop} {Q : State → Prop} {D : va_G} {ca : Nat → ClassId} {a : Nat → Nat} {u : fw_S} {k122 : fw_S → Int32 → Option fw_S} (C : CX (WX ca a) D (tyv ca) p s m args c A prog_2_method_2_code 4 RX0) (hr : True → RX (WX ca a) D p l e rm_X_X0_takeFrom__5_4 s m args below meth c A prog_2_method_2_code Q .return_ [] u) (hk122 : ∀ (t : fw_S) (x2 : Int32) (H : Heap) (locs : List Loc) (ls : Array Slot), k122 t x2 = some u → va_P D classes (WX ca a t) H → va_S A s.heap H locs → lv_has ls 4 [(0, .ref (a 5)), (1, .ref (a 4)), (2, .int x2)] → W p l e rm_X_X0_takeFrom__5_4 s m args below meth c H locs 0 0 Q (F0 m 122 ls [])) {t : fw_S} {x2 : Int32} {x3 : Int32} {H : Heap} {locs : List Loc} {ls : Array Slot} (hf : b_X_X0_takeFrom__5_4_150 k122 t x2 x3 = some u) (hP : va_P D classes (WX ca a t) H) (hS : va_S A s.heap H locs) (hl : lv_has ls 4 [(0, .ref (a 5)), (1, .ref (a 4)), (2, .int x2), (3, .int x3)]) : W p l e rm_X_X0_takeFrom__5_4 s m args below meth c H locs 0 0 Q (F0 m 150 ls []) := by
  obtain ⟨hx, hb, hml, hown, hts, hN, hK, hD, hA⟩ := id C
  have hf : (if ((32 : Int32)) < x3 then b_X_X0_takeFrom__5_4_176 k122 t x2 else b_X_X0_takeFrom__5_4_156 k122 t x2 x3) = some u := hf
  refine lv_iload_n hx hb dX0_takeFrom_150 rfl (lv_at hl 3 rfl) ?_
  refine lv_bipush (v := 32) hx hb dX0_takeFrom_151 (by decide) ?_
  refine lv_icmp_gt (tgt := 176) hx hb dX0_takeFrom_153 (by decide) (fun h_153 => ?_) (fun h_153 => ?_)
  · have hf := fb_t h_153 hf
    exact w_X_X0_takeFrom__5_4_176 C hr hk122 hf hP hS (lv_sub hl [0, 1, 2] rfl)
  · have hf := fb_f h_153 hf
    exact w_X_X0_takeFrom__5_4_156 C hr hk122 hf hP hS (lv_sub hl [0, 1, 2, 3] rfl)
set_option maxRecDepth 20000 in
theorem w_X_X0_takeFrom__5_4_128 {p : Program} {l : Launch} {e : Env} {s : State} {m : MethodId} {args : Array Value} {below : List Frame} {meth : Method} {c : Code} {A : Nat → Prop} {Q : State → Prop} {D : va_G} {ca : Nat → ClassId} {a : Nat → Nat} {u : fw_S} {k122 : fw_S → Int32 → Option fw_S} (C : CX (WX ca a) D (tyv ca) p s m args c A prog_2_method_2_code 4 RX0) (hr : True → RX (WX ca a) D p l e rm_X_X0_takeFrom__5_4 s m args below meth c A prog_2_method_2_code Q .return_ [] u) (hk122 : ∀ (t : fw_S) (x2 : Int32) (H : Heap) (locs : List Loc) (ls : Array Slot), k122 t x2 = some u → va_P D classes (WX ca a t) H → va_S A s.heap H locs → lv_has ls 4 [(0, .ref (a 5)), (1, .ref (a 4)), (2, .int x2)] → W p l e rm_X_X0_takeFrom__5_4 s m args below meth c H locs 0 0 Q (F0 m 122 ls [])) {t : fw_S} {x2 : Int32} {H : Heap} {locs : List Loc} {ls : Array Slot} (hf : b_X_X0_takeFrom__5_4_128 k122 t x2 = some u) (hP : va_P D classes (WX ca a t) H) (hS : va_S A s.heap H locs) (hl : lv_has ls 4 [(0, .ref (a 5)), (1, .ref (a 4)), (2, .int x2)]) : W p l e rm_X_X0_takeFrom__5_4 s m args below meth c H locs 0 0 Q (F0 m 128 ls []) := by
  obtain ⟨hx, hb, hml, hown, hts, hN, hK, hD, hA⟩ := id C
  have hf : (fb_g (¬ (x2 < 0 ∨ 32 ≤ x2.toNatClampNeg)) (fb_g (¬ (x2 < 0 ∨ 32 ≤ x2.toNatClampNeg)) (fb_b (f_X_X0_readCount__4 t x2) fun v_2 t_1 => (if v_2 ≤ 0 then b_X_X0_takeFrom__5_4_176 k122 t_1 x2 else b_X_X0_takeFrom__5_4_150 k122 t_1 x2 v_2)))) = some u := hf
  refine lv_aload_n hx hb dX0_takeFrom_128 rfl (lv_at hl 0 rfl) ?_
  refine va_get (D := D) (ci := 0) (v := .ref (a 35)) (C := RX0) (T := TX0) (N := 12) hx hb hts inX0 hown hK hP 5 (heX_5 ca a t) rfl 3 (by decide) (hts _ kw_190) (fun _ h9 => h9) rfl dX0_takeFrom_129 ?_
  refine lv_iload_n hx hb dX0_takeFrom_132 rfl (lv_at hl 2 rfl) ?_
  refine lv_aload_n hx hb dX0_takeFrom_133 rfl (lv_at hl 1 rfl) ?_
  refine va_get (D := D) (ci := 0) (v := .ref (a 25)) (C := RX0) (T := TX0) (N := 12) hx hb hts inX0 hown hK hP 4 (heX_4 ca a t) rfl 3 (by decide) (hts _ kw_190) (fun _ h9 => h9) rfl dX0_takeFrom_134 ?_
  refine lv_iload_n hx hb dX0_takeFrom_137 rfl (lv_at hl 2 rfl) ?_
  obtain ⟨h_138, hf⟩ := fb_if hf
  refine va_aldq hx hb hK hP 25 3 (haX_25 ca a t) rfl h_138 dX0_takeFrom_138 ?_
  obtain ⟨h_139, hf⟩ := fb_if hf
  refine va_astqN (C := "ReactiveSheet$Formula") hx hb hK hP (hD t) hS 35 3 (haX_35 ca a t) rfl h_139 dX0_takeFrom_139 (fun H locs hP _ hS => ?_)
  rw [fb_nq, saX_35] at hP
  refine lv_aload_n hx hb dX0_takeFrom_140 rfl (lv_at hl 1 rfl) ?_
  refine lv_iload_n hx hb dX0_takeFrom_141 rfl (lv_at hl 2 rfl) ?_
  obtain ⟨v_2, t_1, g_142, hf⟩ := fb_bs hf
  refine fw_V1 (As := [.int x2]) (rest := []) (n := 1) (q0 := 4) C (c_X_X0_readCount__4 (l := l) (D := D) (ca := ca) (a := a) g_142) kw_425 kw_426 kw_96 kw_428 kw_427 hP hS hl (heX_4 ca a t) rfl rfl rfl (by decide) (by decide +kernel) ⟨Nat.le_of_ble_eq_true rfl, Nat.le_of_ble_eq_true rfl⟩ rfl rfl (Nat.le_of_ble_eq_true rfl) dX0_takeFrom_142 (fun H locs hP hS => ?_)
  refine W.eq (g2 := F0 m 145 ls [.int v_2]) rfl ?_
  refine lv_istore_n (lv' := [(3, .int v_2), (0, .ref (a 5)), (1, .ref (a 4)), (2, .int x2)]) hx hb dX0_takeFrom_145 rfl hl (by decide) rfl (fun ls hl => ?_)
  refine lv_iload_n hx hb dX0_takeFrom_146 rfl (lv_at hl 0 rfl) ?_
  refine lv_if_le (tgt := 176) hx hb dX0_takeFrom_147 (by decide) (fun h_147 => ?_) (fun h_147 => ?_)
  · have hf := fb_t h_147 hf
    exact w_X_X0_takeFrom__5_4_176 C hr hk122 hf hP hS (lv_sub hl [1, 2, 3] rfl)
  · have hf := fb_f h_147 hf
    exact w_X_X0_takeFrom__5_4_150 C hr hk122 hf hP hS (lv_sub hl [1, 2, 3, 0] rfl)
set_option maxRecDepth 20000 in
theorem w_X_X0_takeFrom__5_4_122 {p : Program} {l : Launch} {e : Env} {s : State} {m : MethodId} {args : Array Value} {below : List Frame} {meth : Method} {c : Code} {A : Nat → Prop} {Q : State → Prop} {D : va_G} {ca : Nat → ClassId} {a : Nat → Nat} {u : fw_S}  (C : CX (WX ca a) D (tyv ca) p s m args c A prog_2_method_2_code 4 RX0) (hr : True → RX (WX ca a) D p l e rm_X_X0_takeFrom__5_4 s m args below meth c A prog_2_method_2_code Q .return_ [] u) : ∀ (n : Nat) (t : fw_S) (x2 : Int32) (H : Heap) (locs : List Loc) (ls : Array Slot), b_X_X0_takeFrom__5_4_122  n t x2 = some u → va_P D classes (WX ca a t) H → va_S A s.heap H locs → lv_has ls 4 [(0, .ref (a 5)), (1, .ref (a 4)), (2, .int x2)] → W p l e rm_X_X0_takeFrom__5_4 s m args below meth c H locs 0 0 Q (F0 m 122 ls []) := by
  obtain ⟨hx, hb, hml, hown, hts, hN, hK, hD, hA⟩ := id C
  intro n
  induction n with
  | zero => intro t x2 H locs ls hf; cases hf
  | succ n hk122 =>
    intro t x2 H locs ls hf hP hS hl
    have hf : (if ((32 : Int32)) ≤ x2 then b_X_X0_takeFrom__5_4_182 t else b_X_X0_takeFrom__5_4_128 (b_X_X0_takeFrom__5_4_122 n) t x2) = some u := hf
    refine lv_iload_n hx hb dX0_takeFrom_122 rfl (lv_at hl 2 rfl) ?_
    refine lv_bipush (v := 32) hx hb dX0_takeFrom_123 (by decide) ?_
    refine lv_icmp_ge (tgt := 182) hx hb dX0_takeFrom_125 (by decide) (fun h_125 => ?_) (fun h_125 => ?_)
    · have hf := fb_t h_125 hf
      exact w_X_X0_takeFrom__5_4_182 C hr hf hP hS (lv_sub hl [0, 1] rfl)
    · have hf := fb_f h_125 hf
      exact w_X_X0_takeFrom__5_4_128 C hr hk122 hf hP hS (lv_sub hl [0, 1, 2] rfl)
set_option maxRecDepth 20000 in
theorem w_X_X0_takeFrom__5_4_0 {p : Program} {l : Launch} {e : Env} {s : State} {m : MethodId} {args : Array Value} {below : List Frame} {meth : Method} {c : Code} {A : Nat → Prop} {Q : State → Prop} {D : va_G} {ca : Nat → ClassId} {a : Nat → Nat} {u : fw_S}  (C : CX (WX ca a) D (tyv ca) p s m args c A prog_2_method_2_code 4 RX0) (hr : True → RX (WX ca a) D p l e rm_X_X0_takeFrom__5_4 s m args below meth c A prog_2_method_2_code Q .return_ [] u) {t : fw_S}  {H : Heap} {locs : List Loc} {ls : Array Slot} (hf : b_X_X0_takeFrom__5_4_0  t  = some u) (hP : va_P D classes (WX ca a t) H) (hS : va_S A s.heap H locs) (hl : lv_has ls 4 [(0, .ref (a 5)), (1, .ref (a 4))]) : W p l e rm_X_X0_takeFrom__5_4 s m args below meth c H locs 0 0 Q (F0 m 0 ls []) := by
  obtain ⟨hx, hb, hml, hown, hts, hN, hK, hD, hA⟩ := id C
  have hf : (fb_g (¬ ((0 : Int32)) < 0 ∧ ¬ ((0 : Int32)) < 0 ∧ ¬ ((32 : Int32)) < 0 ∧ ((0 : Int32)).toNatClampNeg + ((32 : Int32)).toNatClampNeg ≤ 32 ∧ ((0 : Int32)).toNatClampNeg + ((32 : Int32)).toNatClampNeg ≤ 32) (fb_l (up_F t 15 (va_cpy (st_F t 8) (st_F t 15) ((0 : Int32)).toNatClampNeg ((0 : Int32)).toNatClampNeg ((32 : Int32)).toNatClampNeg)) fun t_1 => (fb_g (¬ ((0 : Int32)) < 0 ∧ ¬ ((0 : Int32)) < 0 ∧ ¬ ((32 : Int32)) < 0 ∧ ((0 : Int32)).toNatClampNeg + ((32 : Int32)).toNatClampNeg ≤ 32 ∧ ((0 : Int32)).toNatClampNeg + ((32 : Int32)).toNatClampNeg ≤ 32) (fb_l (up_G t_1 2 (va_cpy (st_G t_1 0) (st_G t_1 2) ((0 : Int32)).toNatClampNeg ((0 : Int32)).toNatClampNeg ((32 : Int32)).toNatClampNeg)) fun t_2 => (fb_g (¬ ((0 : Int32)) < 0 ∧ ¬ ((0 : Int32)) < 0 ∧ ¬ ((32 : Int32)) < 0 ∧ ((0 : Int32)).toNatClampNeg + ((32 : Int32)).toNatClampNeg ≤ 32 ∧ ((0 : Int32)).toNatClampNeg + ((32 : Int32)).toNatClampNeg ≤ 32) (fb_l (up_F t_2 16 (va_cpy (st_F t_2 9) (st_F t_2 16) ((0 : Int32)).toNatClampNeg ((0 : Int32)).toNatClampNeg ((32 : Int32)).toNatClampNeg)) fun t_3 => (fb_g (¬ ((0 : Int32)) < 0 ∧ ¬ ((0 : Int32)) < 0 ∧ ¬ ((32 : Int32)) < 0 ∧ ((0 : Int32)).toNatClampNeg + ((32 : Int32)).toNatClampNeg ≤ 32 ∧ ((0 : Int32)).toNatClampNeg + ((32 : Int32)).toNatClampNeg ≤ 32) (fb_l (up_F t_3 17 (va_cpy (st_F t_3 10) (st_F t_3 17) ((0 : Int32)).toNatClampNeg ((0 : Int32)).toNatClampNeg ((32 : Int32)).toNatClampNeg)) fun t_4 => (fb_g (¬ ((0 : Int32)) < 0 ∧ ¬ ((0 : Int32)) < 0 ∧ ¬ ((32 : Int32)) < 0 ∧ ((0 : Int32)).toNatClampNeg + ((32 : Int32)).toNatClampNeg ≤ 32 ∧ ((0 : Int32)).toNatClampNeg + ((32 : Int32)).toNatClampNeg ≤ 32) (fb_l (up_F t_4 18 (va_cpy (st_F t_4 11) (st_F t_4 18) ((0 : Int32)).toNatClampNeg ((0 : Int32)).toNatClampNeg ((32 : Int32)).toNatClampNeg)) fun t_5 => (fb_g (¬ ((0 : Int32)) < 0 ∧ ¬ ((0 : Int32)) < 0 ∧ ¬ ((32 : Int32)) < 0 ∧ ((0 : Int32)).toNatClampNeg + ((32 : Int32)).toNatClampNeg ≤ 32 ∧ ((0 : Int32)).toNatClampNeg + ((32 : Int32)).toNatClampNeg ≤ 32) (fb_l (up_F t_5 19 (va_cpy (st_F t_5 12) (st_F t_5 19) ((0 : Int32)).toNatClampNeg ((0 : Int32)).toNatClampNeg ((32 : Int32)).toNatClampNeg)) fun t_6 => (fb_g (¬ ((0 : Int32)) < 0 ∧ ¬ ((0 : Int32)) < 0 ∧ ¬ ((32 : Int32)) < 0 ∧ ((0 : Int32)).toNatClampNeg + ((32 : Int32)).toNatClampNeg ≤ 32 ∧ ((0 : Int32)).toNatClampNeg + ((32 : Int32)).toNatClampNeg ≤ 32) (fb_l (up_F t_6 21 (va_cpy (st_F t_6 14) (st_F t_6 21) ((0 : Int32)).toNatClampNeg ((0 : Int32)).toNatClampNeg ((32 : Int32)).toNatClampNeg)) fun t_7 => (fb_g (¬ ((0 : Int32)) < 0 ∧ ¬ ((0 : Int32)) < 0 ∧ ¬ ((32 : Int32)) < 0 ∧ ((0 : Int32)).toNatClampNeg + ((32 : Int32)).toNatClampNeg ≤ 32 ∧ ((0 : Int32)).toNatClampNeg + ((32 : Int32)).toNatClampNeg ≤ 32) (fb_l (up_G t_7 3 (va_cpy (st_G t_7 1) (st_G t_7 3) ((0 : Int32)).toNatClampNeg ((0 : Int32)).toNatClampNeg ((32 : Int32)).toNatClampNeg)) fun t_8 => (b_X_X0_takeFrom__5_4_122 3000 t_8 ((0 : Int32))))))))))))))))))) = some u := hf
  refine lv_aload_n hx hb dX0_takeFrom_0 rfl (lv_at hl 1 rfl) ?_
  refine va_get (D := D) (ci := 0) (v := .ref (a 22)) (C := RX0) (T := TX0) (N := 12) hx hb hts inX0 hown hK hP 4 (heX_4 ca a t) rfl 0 (by decide) (hts _ kw_187) (fun _ h9 => h9) rfl dX0_takeFrom_1 ?_
  refine lv_iconst (v := 0) hx hb dX0_takeFrom_4 (by decide) ?_
  refine lv_aload_n hx hb dX0_takeFrom_5 rfl (lv_at hl 0 rfl) ?_
  refine va_get (D := D) (ci := 0) (v := .ref (a 32)) (C := RX0) (T := TX0) (N := 12) hx hb hts inX0 hown hK hP 5 (heX_5 ca a t) rfl 0 (by decide) (hts _ kw_187) (fun _ h9 => h9) rfl dX0_takeFrom_6 ?_
  refine lv_iconst (v := 0) hx hb dX0_takeFrom_9 (by decide) ?_
  refine lv_bipush (v := 32) hx hb dX0_takeFrom_10 (by decide) ?_
  obtain ⟨⟨h1_12, h2_12, h3_12, h4_12, h5_12⟩, hf⟩ := fb_if hf
  refine va_copyi hx hb (hml.trans hl.1.symm) hown (hts _ kw_422) (hts _ kw_424) (hts _ kw_423) (hts _ kw_103) hK hP (hD t) hS 22 32 0 0 (haX_22 ca a t) (haX_32 ca a t) rfl rfl rfl h1_12 h2_12 h3_12 h4_12 h5_12 (fun _ _ => rfl) (Nat.le_of_ble_eq_true rfl) (Nat.le_of_ble_eq_true rfl) dX0_takeFrom_12 (fun H locs hP _ hS => ?_)
  rw [saX_32] at hP
  obtain ⟨t_1, e_12, hf⟩ := fb_ls hf
  rw [← e_12] at hP
  refine lv_aload_n hx hb dX0_takeFrom_15 rfl (lv_at hl 1 rfl) ?_
  refine va_get (D := D) (ci := 0) (v := .ref (a 23)) (C := RX0) (T := TX0) (N := 12) hx hb hts inX0 hown hK hP 4 (heX_4 ca a t_1) rfl 1 (by decide) (hts _ kw_188) (fun _ h9 => h9) rfl dX0_takeFrom_16 ?_
  refine lv_iconst (v := 0) hx hb dX0_takeFrom_19 (by decide) ?_
  refine lv_aload_n hx hb dX0_takeFrom_20 rfl (lv_at hl 0 rfl) ?_
  refine va_get (D := D) (ci := 0) (v := .ref (a 33)) (C := RX0) (T := TX0) (N := 12) hx hb hts inX0 hown hK hP 5 (heX_5 ca a t_1) rfl 1 (by decide) (hts _ kw_188) (fun _ h9 => h9) rfl dX0_takeFrom_21 ?_
  refine lv_iconst (v := 0) hx hb dX0_takeFrom_24 (by decide) ?_
  refine lv_bipush (v := 32) hx hb dX0_takeFrom_25 (by decide) ?_
  obtain ⟨⟨h1_27, h2_27, h3_27, h4_27, h5_27⟩, hf⟩ := fb_if hf
  refine va_copyl hx hb (hml.trans hl.1.symm) hown (hts _ kw_422) (hts _ kw_424) (hts _ kw_423) (hts _ kw_103) hK hP (hD t_1) hS 23 33 1 1 (haX_23 ca a t_1) (haX_33 ca a t_1) rfl rfl rfl h1_27 h2_27 h3_27 h4_27 h5_27 (fun _ _ => rfl) (Nat.le_of_ble_eq_true rfl) (Nat.le_of_ble_eq_true rfl) dX0_takeFrom_27 (fun H locs hP _ hS => ?_)
  rw [saX_33] at hP
  obtain ⟨t_2, e_27, hf⟩ := fb_ls hf
  rw [← e_27] at hP
  refine lv_aload_n hx hb dX0_takeFrom_30 rfl (lv_at hl 1 rfl) ?_
  refine va_get (D := D) (ci := 0) (v := .ref (a 24)) (C := RX0) (T := TX0) (N := 12) hx hb hts inX0 hown hK hP 4 (heX_4 ca a t_2) rfl 2 (by decide) (hts _ kw_189) (fun _ h9 => h9) rfl dX0_takeFrom_31 ?_
  refine lv_iconst (v := 0) hx hb dX0_takeFrom_34 (by decide) ?_
  refine lv_aload_n hx hb dX0_takeFrom_35 rfl (lv_at hl 0 rfl) ?_
  refine va_get (D := D) (ci := 0) (v := .ref (a 34)) (C := RX0) (T := TX0) (N := 12) hx hb hts inX0 hown hK hP 5 (heX_5 ca a t_2) rfl 2 (by decide) (hts _ kw_189) (fun _ h9 => h9) rfl dX0_takeFrom_36 ?_
  refine lv_iconst (v := 0) hx hb dX0_takeFrom_39 (by decide) ?_
  refine lv_bipush (v := 32) hx hb dX0_takeFrom_40 (by decide) ?_
  obtain ⟨⟨h1_42, h2_42, h3_42, h4_42, h5_42⟩, hf⟩ := fb_if hf
  refine va_copyi hx hb (hml.trans hl.1.symm) hown (hts _ kw_422) (hts _ kw_424) (hts _ kw_423) (hts _ kw_103) hK hP (hD t_2) hS 24 34 0 0 (haX_24 ca a t_2) (haX_34 ca a t_2) rfl rfl rfl h1_42 h2_42 h3_42 h4_42 h5_42 (fun _ _ => rfl) (Nat.le_of_ble_eq_true rfl) (Nat.le_of_ble_eq_true rfl) dX0_takeFrom_42 (fun H locs hP _ hS => ?_)
  rw [saX_34] at hP
  obtain ⟨t_3, e_42, hf⟩ := fb_ls hf
  rw [← e_42] at hP
  refine lv_aload_n hx hb dX0_takeFrom_45 rfl (lv_at hl 1 rfl) ?_
  refine va_get (D := D) (ci := 0) (v := .ref (a 26)) (C := RX0) (T := TX0) (N := 12) hx hb hts inX0 hown hK hP 4 (heX_4 ca a t_3) rfl 4 (by decide) (hts _ kw_191) (fun _ h9 => h9) rfl dX0_takeFrom_46 ?_
  refine lv_iconst (v := 0) hx hb dX0_takeFrom_49 (by decide) ?_
  refine lv_aload_n hx hb dX0_takeFrom_50 rfl (lv_at hl 0 rfl) ?_
  refine va_get (D := D) (ci := 0) (v := .ref (a 36)) (C := RX0) (T := TX0) (N := 12) hx hb hts inX0 hown hK hP 5 (heX_5 ca a t_3) rfl 4 (by decide) (hts _ kw_191) (fun _ h9 => h9) rfl dX0_takeFrom_51 ?_
  refine lv_iconst (v := 0) hx hb dX0_takeFrom_54 (by decide) ?_
  refine lv_bipush (v := 32) hx hb dX0_takeFrom_55 (by decide) ?_
  obtain ⟨⟨h1_57, h2_57, h3_57, h4_57, h5_57⟩, hf⟩ := fb_if hf
  refine va_copyi hx hb (hml.trans hl.1.symm) hown (hts _ kw_422) (hts _ kw_424) (hts _ kw_423) (hts _ kw_103) hK hP (hD t_3) hS 26 36 0 0 (haX_26 ca a t_3) (haX_36 ca a t_3) rfl rfl rfl h1_57 h2_57 h3_57 h4_57 h5_57 (fun _ _ => rfl) (Nat.le_of_ble_eq_true rfl) (Nat.le_of_ble_eq_true rfl) dX0_takeFrom_57 (fun H locs hP _ hS => ?_)
  rw [saX_36] at hP
  obtain ⟨t_4, e_57, hf⟩ := fb_ls hf
  rw [← e_57] at hP
  refine lv_aload_n hx hb dX0_takeFrom_60 rfl (lv_at hl 1 rfl) ?_
  refine va_get (D := D) (ci := 0) (v := .ref (a 27)) (C := RX0) (T := TX0) (N := 12) hx hb hts inX0 hown hK hP 4 (heX_4 ca a t_4) rfl 5 (by decide) (hts _ kw_192) (fun _ h9 => h9) rfl dX0_takeFrom_61 ?_
  refine lv_iconst (v := 0) hx hb dX0_takeFrom_64 (by decide) ?_
  refine lv_aload_n hx hb dX0_takeFrom_65 rfl (lv_at hl 0 rfl) ?_
  refine va_get (D := D) (ci := 0) (v := .ref (a 37)) (C := RX0) (T := TX0) (N := 12) hx hb hts inX0 hown hK hP 5 (heX_5 ca a t_4) rfl 5 (by decide) (hts _ kw_192) (fun _ h9 => h9) rfl dX0_takeFrom_66 ?_
  refine lv_iconst (v := 0) hx hb dX0_takeFrom_69 (by decide) ?_
  refine lv_bipush (v := 32) hx hb dX0_takeFrom_70 (by decide) ?_
  obtain ⟨⟨h1_72, h2_72, h3_72, h4_72, h5_72⟩, hf⟩ := fb_if hf
  refine va_copyi hx hb (hml.trans hl.1.symm) hown (hts _ kw_422) (hts _ kw_424) (hts _ kw_423) (hts _ kw_103) hK hP (hD t_4) hS 27 37 0 0 (haX_27 ca a t_4) (haX_37 ca a t_4) rfl rfl rfl h1_72 h2_72 h3_72 h4_72 h5_72 (fun _ _ => rfl) (Nat.le_of_ble_eq_true rfl) (Nat.le_of_ble_eq_true rfl) dX0_takeFrom_72 (fun H locs hP _ hS => ?_)
  rw [saX_37] at hP
  obtain ⟨t_5, e_72, hf⟩ := fb_ls hf
  rw [← e_72] at hP
  refine lv_aload_n hx hb dX0_takeFrom_75 rfl (lv_at hl 1 rfl) ?_
  refine va_get (D := D) (ci := 0) (v := .ref (a 28)) (C := RX0) (T := TX0) (N := 12) hx hb hts inX0 hown hK hP 4 (heX_4 ca a t_5) rfl 6 (by decide) (hts _ kw_193) (fun _ h9 => h9) rfl dX0_takeFrom_76 ?_
  refine lv_iconst (v := 0) hx hb dX0_takeFrom_79 (by decide) ?_
  refine lv_aload_n hx hb dX0_takeFrom_80 rfl (lv_at hl 0 rfl) ?_
  refine va_get (D := D) (ci := 0) (v := .ref (a 38)) (C := RX0) (T := TX0) (N := 12) hx hb hts inX0 hown hK hP 5 (heX_5 ca a t_5) rfl 6 (by decide) (hts _ kw_193) (fun _ h9 => h9) rfl dX0_takeFrom_81 ?_
  refine lv_iconst (v := 0) hx hb dX0_takeFrom_84 (by decide) ?_
  refine lv_bipush (v := 32) hx hb dX0_takeFrom_85 (by decide) ?_
  obtain ⟨⟨h1_87, h2_87, h3_87, h4_87, h5_87⟩, hf⟩ := fb_if hf
  refine va_copyi hx hb (hml.trans hl.1.symm) hown (hts _ kw_422) (hts _ kw_424) (hts _ kw_423) (hts _ kw_103) hK hP (hD t_5) hS 28 38 0 0 (haX_28 ca a t_5) (haX_38 ca a t_5) rfl rfl rfl h1_87 h2_87 h3_87 h4_87 h5_87 (fun _ _ => rfl) (Nat.le_of_ble_eq_true rfl) (Nat.le_of_ble_eq_true rfl) dX0_takeFrom_87 (fun H locs hP _ hS => ?_)
  rw [saX_38] at hP
  obtain ⟨t_6, e_87, hf⟩ := fb_ls hf
  rw [← e_87] at hP
  refine lv_aload_n hx hb dX0_takeFrom_90 rfl (lv_at hl 1 rfl) ?_
  refine va_get (D := D) (ci := 0) (v := .ref (a 30)) (C := RX0) (T := TX0) (N := 12) hx hb hts inX0 hown hK hP 4 (heX_4 ca a t_6) rfl 8 (by decide) (hts _ kw_195) (fun _ h9 => h9) rfl dX0_takeFrom_91 ?_
  refine lv_iconst (v := 0) hx hb dX0_takeFrom_94 (by decide) ?_
  refine lv_aload_n hx hb dX0_takeFrom_95 rfl (lv_at hl 0 rfl) ?_
  refine va_get (D := D) (ci := 0) (v := .ref (a 40)) (C := RX0) (T := TX0) (N := 12) hx hb hts inX0 hown hK hP 5 (heX_5 ca a t_6) rfl 8 (by decide) (hts _ kw_195) (fun _ h9 => h9) rfl dX0_takeFrom_96 ?_
  refine lv_iconst (v := 0) hx hb dX0_takeFrom_99 (by decide) ?_
  refine lv_bipush (v := 32) hx hb dX0_takeFrom_100 (by decide) ?_
  obtain ⟨⟨h1_102, h2_102, h3_102, h4_102, h5_102⟩, hf⟩ := fb_if hf
  refine va_copyi hx hb (hml.trans hl.1.symm) hown (hts _ kw_422) (hts _ kw_424) (hts _ kw_423) (hts _ kw_103) hK hP (hD t_6) hS 30 40 0 0 (haX_30 ca a t_6) (haX_40 ca a t_6) rfl rfl rfl h1_102 h2_102 h3_102 h4_102 h5_102 (fun _ _ => rfl) (Nat.le_of_ble_eq_true rfl) (Nat.le_of_ble_eq_true rfl) dX0_takeFrom_102 (fun H locs hP _ hS => ?_)
  rw [saX_40] at hP
  obtain ⟨t_7, e_102, hf⟩ := fb_ls hf
  rw [← e_102] at hP
  refine lv_aload_n hx hb dX0_takeFrom_105 rfl (lv_at hl 1 rfl) ?_
  refine va_get (D := D) (ci := 0) (v := .ref (a 31)) (C := RX0) (T := TX0) (N := 12) hx hb hts inX0 hown hK hP 4 (heX_4 ca a t_7) rfl 9 (by decide) (hts _ kw_196) (fun _ h9 => h9) rfl dX0_takeFrom_106 ?_
  refine lv_iconst (v := 0) hx hb dX0_takeFrom_109 (by decide) ?_
  refine lv_aload_n hx hb dX0_takeFrom_110 rfl (lv_at hl 0 rfl) ?_
  refine va_get (D := D) (ci := 0) (v := .ref (a 41)) (C := RX0) (T := TX0) (N := 12) hx hb hts inX0 hown hK hP 5 (heX_5 ca a t_7) rfl 9 (by decide) (hts _ kw_196) (fun _ h9 => h9) rfl dX0_takeFrom_111 ?_
  refine lv_iconst (v := 0) hx hb dX0_takeFrom_114 (by decide) ?_
  refine lv_bipush (v := 32) hx hb dX0_takeFrom_115 (by decide) ?_
  obtain ⟨⟨h1_117, h2_117, h3_117, h4_117, h5_117⟩, hf⟩ := fb_if hf
  refine va_copyl hx hb (hml.trans hl.1.symm) hown (hts _ kw_422) (hts _ kw_424) (hts _ kw_423) (hts _ kw_103) hK hP (hD t_7) hS 31 41 1 1 (haX_31 ca a t_7) (haX_41 ca a t_7) rfl rfl rfl h1_117 h2_117 h3_117 h4_117 h5_117 (fun _ _ => rfl) (Nat.le_of_ble_eq_true rfl) (Nat.le_of_ble_eq_true rfl) dX0_takeFrom_117 (fun H locs hP _ hS => ?_)
  rw [saX_41] at hP
  obtain ⟨t_8, e_117, hf⟩ := fb_ls hf
  rw [← e_117] at hP
  refine lv_iconst (v := 0) hx hb dX0_takeFrom_120 (by decide) ?_
  refine lv_istore_n (lv' := [(2, .int ((0 : Int32))), (0, .ref (a 5)), (1, .ref (a 4))]) hx hb dX0_takeFrom_121 rfl hl (by decide) rfl (fun ls hl => ?_)
  exact w_X_X0_takeFrom__5_4_122 C hr 3000 t_8 ((0 : Int32)) _ _ _ hf hP hS (lv_sub hl [1, 2, 0] rfl)
set_option maxRecDepth 20000 in
theorem c_X_X0_takeFrom__5_4 {l : Launch} {D : va_G} {ca : Nat → ClassId} {a : Nat → Nat} {t : fw_S}  {u : fw_S} (hf : f_X_X0_takeFrom__5_4 t  = some u) : MC (WX ca a) D (tyv ca) l yX0_takeFrom (.code yX0_takeFrom prog_2_method_2_code 4 none :: lw_gd) rm_X_X0_takeFrom__5_4 [.ref (a 5), .ref (a 4)] none t u := by
  refine fw_met (okX ca a) (by decide +kernel) rfl rfl (Nat.le_of_ble_eq_true rfl) ?_
  intro p e s m args below meth c A Q ls C hr hk hP hS hl hQ
  exact w_X_X0_takeFrom__5_4_0 C (fun _ => fw_rv C hr hk hQ) hf hP hS (lv_sub hl [0, 1] rfl)
/-! java/util/Arrays.fill([II)V ['x.engine.now.causes'] -/
abbrev rm_X_J7_fill_53178__28 : Room := { frames := 0, cells := 0, slots := 0, locals := 0 }
def b_X_J7_fill_53178__28_20  (t : fw_S)  : Option fw_S := some t
def b_X_J7_fill_53178__28_10 (k5 : fw_S → Int32 → Int32 → Int32 → Option fw_S) (t : fw_S) (x1 : Int32) (x2 : Int32) (x3 : Int32) : Option fw_S := fb_g (¬ (x2 < 0 ∨ 32 ≤ x2.toNatClampNeg)) (fb_l (up_F t 12 (upd (st_F t 12) x2.toNatClampNeg x1)) fun t_1 => (k5 t_1 x1 (x2 + 1) x3))
def b_X_J7_fill_53178__28_5  : Nat → (fw_S → Int32 → Int32 → Int32 → Option fw_S)
  | 0 => fun _ _ _ _ => none
  | n + 1 => fun t x1 x2 x3 => if x3 ≤ x2 then b_X_J7_fill_53178__28_20 t else b_X_J7_fill_53178__28_10 (b_X_J7_fill_53178__28_5 n) t x1 x2 x3
def b_X_J7_fill_53178__28_0  (t : fw_S) (x1 : Int32) : Option fw_S := b_X_J7_fill_53178__28_5 3000 t x1 ((0 : Int32)) ((32 : Int32))
def f_X_J7_fill_53178__28 (t : fw_S) (x1 : Int32) : Option fw_S := b_X_J7_fill_53178__28_0 t x1
set_option maxRecDepth 20000 in
theorem w_X_J7_fill_53178__28_20 {p : Program} {l : Launch} {e : Env} {s : State} {m : MethodId} {args : Array Value} {below : List Frame} {meth : Method} {c : Code} {A : Nat → Prop} {Q : State → Prop} {D : va_G} {ca : Nat → ClassId} {a : Nat → Nat} {u : fw_S}  (C : CX (WX ca a) D (tyv ca) p s m args c A prog_18_method_103_code 4 RJ7) (hr : True → RX (WX ca a) D p l e rm_X_J7_fill_53178__28 s m args below meth c A prog_18_method_103_code Q .return_ [] u) {t : fw_S}  {H : Heap} {locs : List Loc} {ls : Array Slot} (hf : b_X_J7_fill_53178__28_20  t  = some u) (hP : va_P D classes (WX ca a t) H) (hS : va_S A s.heap H locs) (hl : lv_has ls 4 []) : W p l e rm_X_J7_fill_53178__28 s m args below meth c H locs 0 0 Q (F0 m 20 ls []) := by
  obtain ⟨hx, hb, hml, hown, hts, hN, hK, hD, hA⟩ := id C
  have hf : (some t) = some u := hf
  have e_20 := fb_ev hf
  subst e_20
  exact hr trivial _ _ _ _ hP hS dJ7_fill_53178_20
set_option maxRecDepth 20000 in
theorem w_X_J7_fill_53178__28_10 {p : Program} {l : Launch} {e : Env} {s : State} {m : MethodId} {args : Array Value} {below : List Frame} {meth : Method} {c : Code} {A : Nat → Prop} {Q : State → Prop} {D : va_G} {ca : Nat → ClassId} {a : Nat → Nat} {u : fw_S} {k5 : fw_S → Int32 → Int32 → Int32 → Option fw_S} (C : CX (WX ca a) D (tyv ca) p s m args c A prog_18_method_103_code 4 RJ7) (hr : True → RX (WX ca a) D p l e rm_X_J7_fill_53178__28 s m args below meth c A prog_18_method_103_code Q .return_ [] u) (hk5 : ∀ (t : fw_S) (x1 : Int32) (x2 : Int32) (x3 : Int32) (H : Heap) (locs : List Loc) (ls : Array Slot), k5 t x1 x2 x3 = some u → va_P D classes (WX ca a t) H → va_S A s.heap H locs → lv_has ls 4 [(0, .ref (a 28)), (1, .int x1), (2, .int x2), (3, .int x3)] → W p l e rm_X_J7_fill_53178__28 s m args below meth c H locs 0 0 Q (F0 m 5 ls [])) {t : fw_S} {x1 : Int32} {x2 : Int32} {x3 : Int32} {H : Heap} {locs : List Loc} {ls : Array Slot} (hf : b_X_J7_fill_53178__28_10 k5 t x1 x2 x3 = some u) (hP : va_P D classes (WX ca a t) H) (hS : va_S A s.heap H locs) (hl : lv_has ls 4 [(0, .ref (a 28)), (1, .int x1), (2, .int x2), (3, .int x3)]) : W p l e rm_X_J7_fill_53178__28 s m args below meth c H locs 0 0 Q (F0 m 10 ls []) := by
  obtain ⟨hx, hb, hml, hown, hts, hN, hK, hD, hA⟩ := id C
  have hf : (fb_g (¬ (x2 < 0 ∨ 32 ≤ x2.toNatClampNeg)) (fb_l (up_F t 12 (upd (st_F t 12) x2.toNatClampNeg x1)) fun t_1 => (k5 t_1 x1 (x2 + 1) x3))) = some u := hf
  refine lv_aload_n hx hb dJ7_fill_53178_10 rfl (lv_at hl 0 rfl) ?_
  refine lv_iload_n hx hb dJ7_fill_53178_11 rfl (lv_at hl 2 rfl) ?_
  refine lv_iload_n hx hb dJ7_fill_53178_12 rfl (lv_at hl 1 rfl) ?_
  obtain ⟨h_13, hf⟩ := fb_if hf
  refine va_iast hx hb hK hP (hD t) hS 28 0 (haX_28 ca a t) rfl h_13 dJ7_fill_53178_13 (fun H locs hP _ hS => ?_)
  rw [saX_28] at hP
  obtain ⟨t_1, e_13, hf⟩ := fb_ls hf
  rw [← e_13] at hP
  refine lv_iinc (v := x2 + 1) (lv' := [(2, .int (x2 + 1)), (0, .ref (a 28)), (1, .int x1), (3, .int x3)]) hx hb dJ7_fill_53178_14 hl (k := 2) rfl rfl (by decide) rfl (fun ls hl => ?_)
  refine lv_goto (tgt := 5) hx hb dJ7_fill_53178_17 (by decide) ?_
  exact hk5 t_1 x1 (x2 + 1) x3 _ _ _ hf hP hS (lv_sub hl [1, 2, 0, 3] rfl)
set_option maxRecDepth 20000 in
theorem w_X_J7_fill_53178__28_5 {p : Program} {l : Launch} {e : Env} {s : State} {m : MethodId} {args : Array Value} {below : List Frame} {meth : Method} {c : Code} {A : Nat → Prop} {Q : State → Prop} {D : va_G} {ca : Nat → ClassId} {a : Nat → Nat} {u : fw_S}  (C : CX (WX ca a) D (tyv ca) p s m args c A prog_18_method_103_code 4 RJ7) (hr : True → RX (WX ca a) D p l e rm_X_J7_fill_53178__28 s m args below meth c A prog_18_method_103_code Q .return_ [] u) : ∀ (n : Nat) (t : fw_S) (x1 : Int32) (x2 : Int32) (x3 : Int32) (H : Heap) (locs : List Loc) (ls : Array Slot), b_X_J7_fill_53178__28_5  n t x1 x2 x3 = some u → va_P D classes (WX ca a t) H → va_S A s.heap H locs → lv_has ls 4 [(0, .ref (a 28)), (1, .int x1), (2, .int x2), (3, .int x3)] → W p l e rm_X_J7_fill_53178__28 s m args below meth c H locs 0 0 Q (F0 m 5 ls []) := by
  obtain ⟨hx, hb, hml, hown, hts, hN, hK, hD, hA⟩ := id C
  intro n
  induction n with
  | zero => intro t x1 x2 x3 H locs ls hf; cases hf
  | succ n hk5 =>
    intro t x1 x2 x3 H locs ls hf hP hS hl
    have hf : (if x3 ≤ x2 then b_X_J7_fill_53178__28_20 t else b_X_J7_fill_53178__28_10 (b_X_J7_fill_53178__28_5 n) t x1 x2 x3) = some u := hf
    refine lv_iload_n hx hb dJ7_fill_53178_5 rfl (lv_at hl 2 rfl) ?_
    refine lv_iload_n hx hb dJ7_fill_53178_6 rfl (lv_at hl 3 rfl) ?_
    refine lv_icmp_ge (tgt := 20) hx hb dJ7_fill_53178_7 (by decide) (fun h_7 => ?_) (fun h_7 => ?_)
    · have hf := fb_t h_7 hf
      exact w_X_J7_fill_53178__28_20 C hr hf hP hS (lv_sub hl [] rfl)
    · have hf := fb_f h_7 hf
      exact w_X_J7_fill_53178__28_10 C hr hk5 hf hP hS (lv_sub hl [0, 1, 2, 3] rfl)
set_option maxRecDepth 20000 in
theorem w_X_J7_fill_53178__28_0 {p : Program} {l : Launch} {e : Env} {s : State} {m : MethodId} {args : Array Value} {below : List Frame} {meth : Method} {c : Code} {A : Nat → Prop} {Q : State → Prop} {D : va_G} {ca : Nat → ClassId} {a : Nat → Nat} {u : fw_S}  (C : CX (WX ca a) D (tyv ca) p s m args c A prog_18_method_103_code 4 RJ7) (hr : True → RX (WX ca a) D p l e rm_X_J7_fill_53178__28 s m args below meth c A prog_18_method_103_code Q .return_ [] u) {t : fw_S} {x1 : Int32} {H : Heap} {locs : List Loc} {ls : Array Slot} (hf : b_X_J7_fill_53178__28_0  t x1 = some u) (hP : va_P D classes (WX ca a t) H) (hS : va_S A s.heap H locs) (hl : lv_has ls 4 [(0, .ref (a 28)), (1, .int x1)]) : W p l e rm_X_J7_fill_53178__28 s m args below meth c H locs 0 0 Q (F0 m 0 ls []) := by
  obtain ⟨hx, hb, hml, hown, hts, hN, hK, hD, hA⟩ := id C
  have hf : (b_X_J7_fill_53178__28_5 3000 t x1 ((0 : Int32)) ((32 : Int32))) = some u := hf
  refine lv_iconst (v := 0) hx hb dJ7_fill_53178_0 (by decide) ?_
  refine lv_istore_n (lv' := [(2, .int ((0 : Int32))), (0, .ref (a 28)), (1, .int x1)]) hx hb dJ7_fill_53178_1 rfl hl (by decide) rfl (fun ls hl => ?_)
  refine lv_aload_n hx hb dJ7_fill_53178_2 rfl (lv_at hl 1 rfl) ?_
  refine va_alen (v := 32) hx hb hK hP 28 0 (haX_28 ca a t) rfl rfl dJ7_fill_53178_3 ?_
  refine lv_istore_n (lv' := [(3, .int ((32 : Int32))), (2, .int ((0 : Int32))), (0, .ref (a 28)), (1, .int x1)]) hx hb dJ7_fill_53178_4 rfl hl (by decide) rfl (fun ls hl => ?_)
  exact w_X_J7_fill_53178__28_5 C hr 3000 t x1 ((0 : Int32)) ((32 : Int32)) _ _ _ hf hP hS (lv_sub hl [2, 3, 1, 0] rfl)
set_option maxRecDepth 20000 in
theorem c_X_J7_fill_53178__28 {l : Launch} {D : va_G} {ca : Nat → ClassId} {a : Nat → Nat} {t : fw_S} {x1 : Int32} {u : fw_S} (hf : f_X_J7_fill_53178__28 t x1 = some u) : MC (WX ca a) D (tyv ca) l yJ7_fill_53178 (.code yJ7_fill_53178 prog_18_method_103_code 4 none :: lw_gd) rm_X_J7_fill_53178__28 [.ref (a 28), .int x1] none t u := by
  refine fw_met (okX ca a) (by decide +kernel) rfl rfl (Nat.le_of_ble_eq_true rfl) ?_
  intro p e s m args below meth c A Q ls C hr hk hP hS hl hQ
  exact w_X_J7_fill_53178__28_0 C (fun _ => fw_rv C hr hk hQ) hf hP hS (lv_sub hl [0, 1] rfl)
/-! ReactiveSheet.Cells.startWave()V ['x.engine.now'] -/
abbrev rm_X_X0_startWave__4 : Room := { frames := 1, cells := 0, slots := 0, locals := 23 }
def b_X_X0_startWave__4_0  (t : fw_S)  : Option fw_S := fb_l (up_J t 4 ((0 : Int64))) fun t_1 => (fb_l (up_J t_1 5 ((0 : Int64))) fun t_2 => (fb_v (f_X_J7_fill_53178__28 t_2 ((-5 : Int32))) fun t_3 => (some t_3)))
def f_X_X0_startWave__4 (t : fw_S)  : Option fw_S := b_X_X0_startWave__4_0 t 
set_option maxRecDepth 20000 in
theorem w_X_X0_startWave__4_0 {p : Program} {l : Launch} {e : Env} {s : State} {m : MethodId} {args : Array Value} {below : List Frame} {meth : Method} {c : Code} {A : Nat → Prop} {Q : State → Prop} {D : va_G} {ca : Nat → ClassId} {a : Nat → Nat} {u : fw_S}  (C : CX (WX ca a) D (tyv ca) p s m args c A prog_2_method_3_code 1 RX0) (hr : True → RX (WX ca a) D p l e rm_X_X0_startWave__4 s m args below meth c A prog_2_method_3_code Q .return_ [] u) {t : fw_S}  {H : Heap} {locs : List Loc} {ls : Array Slot} (hf : b_X_X0_startWave__4_0  t  = some u) (hP : va_P D classes (WX ca a t) H) (hS : va_S A s.heap H locs) (hl : lv_has ls 1 [(0, .ref (a 4))]) : W p l e rm_X_X0_startWave__4 s m args below meth c H locs 0 0 Q (F0 m 0 ls []) := by
  obtain ⟨hx, hb, hml, hown, hts, hN, hK, hD, hA⟩ := id C
  have hf : (fb_l (up_J t 4 ((0 : Int64))) fun t_1 => (fb_l (up_J t_1 5 ((0 : Int64))) fun t_2 => (fb_v (f_X_J7_fill_53178__28 t_2 ((-5 : Int32))) fun t_3 => (some t_3)))) = some u := hf
  refine lv_aload_n hx hb dX0_startWave_0 rfl (lv_at hl 0 rfl) ?_
  refine lv_lconst (v := 0) hx hb dX0_startWave_1 (by decide) ?_
  refine va_put (D := D) (ci := 0) (v := .long ((0 : Int64))) (ty := .long) (C := RX0) (T := TX0) (N := 12) hx hb hts inX0 tyX0 tyX0_ok nmX0 hown hK hP (hD t) hS 4 (heX_4 ca a t) rfl 10 (by decide) (hts _ kw_197) (fun _ h9 => h9) rfl (by decide +kernel) rfl rfl (Nat.le_of_ble_eq_true rfl) dX0_startWave_2 (fun H locs hP _ hS => ?_)
  rw [suX_4_10] at hP
  obtain ⟨t_1, e_2, hf⟩ := fb_ls hf
  rw [← e_2] at hP
  refine lv_aload_n hx hb dX0_startWave_5 rfl (lv_at hl 0 rfl) ?_
  refine lv_lconst (v := 0) hx hb dX0_startWave_6 (by decide) ?_
  refine va_put (D := D) (ci := 0) (v := .long ((0 : Int64))) (ty := .long) (C := RX0) (T := TX0) (N := 12) hx hb hts inX0 tyX0 tyX0_ok nmX0 hown hK hP (hD t_1) hS 4 (heX_4 ca a t_1) rfl 11 (by decide) (hts _ kw_198) (fun _ h9 => h9) rfl (by decide +kernel) rfl rfl (Nat.le_of_ble_eq_true rfl) dX0_startWave_7 (fun H locs hP _ hS => ?_)
  rw [suX_4_11] at hP
  obtain ⟨t_2, e_7, hf⟩ := fb_ls hf
  rw [← e_7] at hP
  refine lv_aload_n hx hb dX0_startWave_10 rfl (lv_at hl 0 rfl) ?_
  refine va_get (D := D) (ci := 0) (v := .ref (a 28)) (C := RX0) (T := TX0) (N := 12) hx hb hts inX0 hown hK hP 4 (heX_4 ca a t_2) rfl 6 (by decide) (hts _ kw_193) (fun _ h9 => h9) rfl dX0_startWave_11 ?_
  refine lv_bipush (v := (-5)) hx hb dX0_startWave_14 (by decide) ?_
  obtain ⟨t_3, g_16, hf⟩ := fb_vs hf
  refine fw_S1 (As := [.ref (a 28), .int ((-5 : Int32))]) (rest := []) (n := 2) C (c_X_J7_fill_53178__28 (l := l) (D := D) (ca := ca) (a := a) g_16) kw_434 kw_435 kw_104 kw_436 hP hS hl rfl rfl (by decide) (by decide +kernel) ⟨Nat.le_of_ble_eq_true rfl, Nat.le_of_ble_eq_true rfl⟩ rfl rfl (Nat.le_of_ble_eq_true rfl) dX0_startWave_16 (fun H locs hP hS => ?_)
  refine W.eq (g2 := F0 m 19 ls []) rfl ?_
  have e_19 := fb_ev hf
  subst e_19
  exact hr trivial _ _ _ _ hP hS dX0_startWave_19
set_option maxRecDepth 20000 in
theorem c_X_X0_startWave__4 {l : Launch} {D : va_G} {ca : Nat → ClassId} {a : Nat → Nat} {t : fw_S}  {u : fw_S} (hf : f_X_X0_startWave__4 t  = some u) : MC (WX ca a) D (tyv ca) l yX0_startWave (.code yX0_startWave prog_2_method_3_code 1 none :: lw_gd) rm_X_X0_startWave__4 [.ref (a 4)] none t u := by
  refine fw_met (okX ca a) (by decide +kernel) rfl rfl (Nat.le_of_ble_eq_true rfl) ?_
  intro p e s m args below meth c A Q ls C hr hk hP hS hl hQ
  exact w_X_X0_startWave__4_0 C (fun _ => fw_rv C hr hk hQ) hf hP hS (lv_sub hl [0] rfl)
/-! ReactiveSheet.has(JI)Z [] -/
abbrev rm_X_X10_has : Room := { frames := 0, cells := 0, slots := 0, locals := 0 }
def b_X_X10_has_15  (t : fw_S) (z0 : Int32) : Option (Int32 × fw_S) := fb_g (z0 = 0 ∨ z0 = 1) (some (z0, t))
def b_X_X10_has_14  (t : fw_S)  : Option (Int32 × fw_S) := b_X_X10_has_15 t ((0 : Int32))
def b_X_X10_has_10  (t : fw_S)  : Option (Int32 × fw_S) := b_X_X10_has_15 t ((1 : Int32))
def b_X_X10_has_0  (t : fw_S) (y0 : Int64) (x2 : Int32) : Option (Int32 × fw_S) := if (lg_cmp ((y0 >>> (x2.toInt64 &&& 63)) &&& ((1 : Int64))) ((0 : Int64))) = 0 then b_X_X10_has_14 t else b_X_X10_has_10 t
def f_X_X10_has (t : fw_S) (y0 : Int64) (x2 : Int32) : Option (Int32 × fw_S) := b_X_X10_has_0 t y0 x2
set_option maxRecDepth 20000 in
theorem w_X_X10_has_15 {p : Program} {l : Launch} {e : Env} {s : State} {m : MethodId} {args : Array Value} {below : List Frame} {meth : Method} {c : Code} {A : Nat → Prop} {Q : State → Prop} {D : va_G} {ca : Nat → ClassId} {a : Nat → Nat} {u : fw_S} {r : Int32}  (C : CX (WX ca a) D (tyv ca) p s m args c A prog_1_method_40_code 3 RX10) (hr : (r = 0 ∨ r = 1) → RX (WX ca a) D p l e rm_X_X10_has s m args below meth c A prog_1_method_40_code Q .ireturn [.int r] u) {t : fw_S} {z0 : Int32} {H : Heap} {locs : List Loc} {ls : Array Slot} (hf : b_X_X10_has_15  t z0 = some (r, u)) (hP : va_P D classes (WX ca a t) H) (hS : va_S A s.heap H locs) (hl : lv_has ls 3 []) : W p l e rm_X_X10_has s m args below meth c H locs 0 0 Q (F0 m 15 ls [.int z0]) := by
  obtain ⟨hx, hb, hml, hown, hts, hN, hK, hD, hA⟩ := id C
  have hf : (fb_g (z0 = 0 ∨ z0 = 1) (some (z0, t))) = some (r, u) := hf
  obtain ⟨h_15, hf⟩ := fb_if hf
  obtain ⟨e_15, e2_15⟩ := fb_e hf
  subst e_15; subst e2_15
  exact hr h_15 _ _ _ _ hP hS dX10_has_15
set_option maxRecDepth 20000 in
theorem w_X_X10_has_14 {p : Program} {l : Launch} {e : Env} {s : State} {m : MethodId} {args : Array Value} {below : List Frame} {meth : Method} {c : Code} {A : Nat → Prop} {Q : State → Prop} {D : va_G} {ca : Nat → ClassId} {a : Nat → Nat} {u : fw_S} {r : Int32}  (C : CX (WX ca a) D (tyv ca) p s m args c A prog_1_method_40_code 3 RX10) (hr : (r = 0 ∨ r = 1) → RX (WX ca a) D p l e rm_X_X10_has s m args below meth c A prog_1_method_40_code Q .ireturn [.int r] u) {t : fw_S}  {H : Heap} {locs : List Loc} {ls : Array Slot} (hf : b_X_X10_has_14  t  = some (r, u)) (hP : va_P D classes (WX ca a t) H) (hS : va_S A s.heap H locs) (hl : lv_has ls 3 []) : W p l e rm_X_X10_has s m args below meth c H locs 0 0 Q (F0 m 14 ls []) := by
  obtain ⟨hx, hb, hml, hown, hts, hN, hK, hD, hA⟩ := id C
  have hf : (b_X_X10_has_15 t ((0 : Int32))) = some (r, u) := hf
  refine lv_iconst (v := 0) hx hb dX10_has_14 (by decide) ?_
  exact w_X_X10_has_15 C hr hf hP hS (lv_sub hl [] rfl)
set_option maxRecDepth 20000 in
theorem w_X_X10_has_10 {p : Program} {l : Launch} {e : Env} {s : State} {m : MethodId} {args : Array Value} {below : List Frame} {meth : Method} {c : Code} {A : Nat → Prop} {Q : State → Prop} {D : va_G} {ca : Nat → ClassId} {a : Nat → Nat} {u : fw_S} {r : Int32}  (C : CX (WX ca a) D (tyv ca) p s m args c A prog_1_method_40_code 3 RX10) (hr : (r = 0 ∨ r = 1) → RX (WX ca a) D p l e rm_X_X10_has s m args below meth c A prog_1_method_40_code Q .ireturn [.int r] u) {t : fw_S}  {H : Heap} {locs : List Loc} {ls : Array Slot} (hf : b_X_X10_has_10  t  = some (r, u)) (hP : va_P D classes (WX ca a t) H) (hS : va_S A s.heap H locs) (hl : lv_has ls 3 []) : W p l e rm_X_X10_has s m args below meth c H locs 0 0 Q (F0 m 10 ls []) := by
  obtain ⟨hx, hb, hml, hown, hts, hN, hK, hD, hA⟩ := id C
  have hf : (b_X_X10_has_15 t ((1 : Int32))) = some (r, u) := hf
  refine lv_iconst (v := 1) hx hb dX10_has_10 (by decide) ?_
  refine lv_goto (tgt := 15) hx hb dX10_has_11 (by decide) ?_
  exact w_X_X10_has_15 C hr hf hP hS (lv_sub hl [] rfl)
set_option maxRecDepth 20000 in
theorem w_X_X10_has_0 {p : Program} {l : Launch} {e : Env} {s : State} {m : MethodId} {args : Array Value} {below : List Frame} {meth : Method} {c : Code} {A : Nat → Prop} {Q : State → Prop} {D : va_G} {ca : Nat → ClassId} {a : Nat → Nat} {u : fw_S} {r : Int32}  (C : CX (WX ca a) D (tyv ca) p s m args c A prog_1_method_40_code 3 RX10) (hr : (r = 0 ∨ r = 1) → RX (WX ca a) D p l e rm_X_X10_has s m args below meth c A prog_1_method_40_code Q .ireturn [.int r] u) {t : fw_S} {y0 : Int64} {x2 : Int32} {H : Heap} {locs : List Loc} {ls : Array Slot} (hf : b_X_X10_has_0  t y0 x2 = some (r, u)) (hP : va_P D classes (WX ca a t) H) (hS : va_S A s.heap H locs) (hl : lv_has ls 3 [(0, .long y0), (2, .int x2)]) : W p l e rm_X_X10_has s m args below meth c H locs 0 0 Q (F0 m 0 ls []) := by
  obtain ⟨hx, hb, hml, hown, hts, hN, hK, hD, hA⟩ := id C
  have hf : (if (lg_cmp ((y0 >>> (x2.toInt64 &&& 63)) &&& ((1 : Int64))) ((0 : Int64))) = 0 then b_X_X10_has_14 t else b_X_X10_has_10 t) = some (r, u) := hf
  refine lv_lload_n hx hb dX10_has_0 rfl (lv_at hl 0 rfl) ?_
  refine lv_iload_n hx hb dX10_has_1 rfl (lv_at hl 1 rfl) ?_
  refine lv_lshr hx hb dX10_has_2 rfl ?_
  refine lv_lconst (v := 1) hx hb dX10_has_3 (by decide) ?_
  refine lv_land hx hb dX10_has_4 ?_
  refine lv_lconst (v := 0) hx hb dX10_has_5 (by decide) ?_
  refine W.lcmp hx hb dX10_has_6 ?_
  refine lv_if_eq (tgt := 14) hx hb dX10_has_7 (by decide) (fun h_7 => ?_) (fun h_7 => ?_)
  · have hf := fb_t h_7 hf
    exact w_X_X10_has_14 C hr hf hP hS (lv_sub hl [] rfl)
  · have hf := fb_f h_7 hf
    exact w_X_X10_has_10 C hr hf hP hS (lv_sub hl [] rfl)
set_option maxRecDepth 20000 in
theorem c_X_X10_has {l : Launch} {D : va_G} {ca : Nat → ClassId} {a : Nat → Nat} {t : fw_S} {y0 : Int64} {x2 : Int32} {u : fw_S} {r : Int32} (hf : f_X_X10_has t y0 x2 = some (r, u)) : MC (WX ca a) D (tyv ca) l yX10_has (.code yX10_has prog_1_method_40_code 3 (some .boolean) :: lw_gd) rm_X_X10_has [.long y0, .int x2] (some (.int r)) t u := by
  refine fw_met (okX ca a) (by decide +kernel) rfl rfl (Nat.le_of_ble_eq_true rfl) ?_
  intro p e s m args below meth c A Q ls C hr hk hP hS hl hQ
  exact w_X_X10_has_0 C (fun hz => fw_rz C hr hk hz hQ) hf hP hS (lv_sub hl [0, 1] rfl)
/-! ReactiveSheet.Cells.become(IIJLReactiveSheet.Formula;)V ['x.engine.now', 'null'] -/
abbrev rm_X_X0_become__4_N : Room := { frames := 1, cells := 0, slots := 0, locals := 21 }
def b_X_X0_become__4_N_92  (t : fw_S)  : Option fw_S := some t
def b_X_X0_become__4_N_78  (t : fw_S) (x1 : Int32) : Option fw_S := fb_g (¬ (x1 < 0 ∨ 32 ≤ x1.toNatClampNeg)) (fb_l (up_G t 0 (vp_updL (st_G t 0) x1.toNatClampNeg ((0 : Int64)))) fun t_1 => (fb_g (¬ (x1 < 0 ∨ 32 ≤ x1.toNatClampNeg)) (fb_l (up_F t_1 9 (upd (st_F t_1 9) x1.toNatClampNeg ((3 : Int32)))) fun t_2 => (b_X_X0_become__4_N_92 t_2))))
def b_X_X0_become__4_N_74  (t : fw_S) (x1 : Int32) (x2 : Int32) : Option fw_S := if x2 = 0 then b_X_X0_become__4_N_78 t x1 else b_X_X0_become__4_N_92 t
def b_X_X0_become__4_N_57  (t : fw_S) (x1 : Int32) (y3 : Int64) : Option fw_S := fb_g (¬ (x1 < 0 ∨ 32 ≤ x1.toNatClampNeg)) (fb_l (up_G t 0 (vp_updL (st_G t 0) x1.toNatClampNeg y3)) fun t_1 => (fb_g (¬ (x1 < 0 ∨ 32 ≤ x1.toNatClampNeg)) (fb_l (up_F t_1 9 (upd (st_F t_1 9) x1.toNatClampNeg ((0 : Int32)))) fun t_2 => (b_X_X0_become__4_N_92 t_2))))
def b_X_X0_become__4_N_9  (t : fw_S) (x1 : Int32) (x2 : Int32) (y3 : Int64) : Option fw_S := fb_g (¬ (x1 < 0 ∨ 32 ≤ x1.toNatClampNeg)) (fb_l (up_F t 8 (upd (st_F t 8) x1.toNatClampNeg x2)) fun t_1 => (fb_g (¬ (x1 < 0 ∨ 32 ≤ x1.toNatClampNeg)) (fb_g (¬ (x1 < 0 ∨ 32 ≤ x1.toNatClampNeg)) (fb_l (up_F t_1 10 (upd (st_F t_1 10) x1.toNatClampNeg ((0 : Int32)))) fun t_2 => (fb_g (¬ (x1 < 0 ∨ 32 ≤ x1.toNatClampNeg)) (fb_l (up_F t_2 11 (upd (st_F t_2 11) x1.toNatClampNeg ((0 : Int32)))) fun t_3 => (fb_g (¬ (x1 < 0 ∨ 32 ≤ x1.toNatClampNeg)) (fb_l (up_F t_3 14 (upd (st_F t_3 14) x1.toNatClampNeg ((0 : Int32)))) fun t_4 => (fb_g (¬ (x1 < 0 ∨ 32 ≤ x1.toNatClampNeg)) (fb_l (up_G t_4 1 (vp_updL (st_G t_4 1) x1.toNatClampNeg ((0 : Int64)))) fun t_5 => (if x2 = ((1 : Int32)) then b_X_X0_become__4_N_57 t_5 x1 y3 else b_X_X0_become__4_N_74 t_5 x1 x2)))))))))))
def b_X_X0_become__4_N_8  (t : fw_S)  : Option fw_S := some t
def b_X_X0_become__4_N_0  (t : fw_S) (x1 : Int32) (x2 : Int32) (y3 : Int64) : Option fw_S := fb_b (f_X_X10_isCell t x1.toInt64) fun v_2 t_1 => (if v_2 = 0 then b_X_X0_become__4_N_8 t_1 else b_X_X0_become__4_N_9 t_1 x1 x2 y3)
def f_X_X0_become__4_N (t : fw_S) (x1 : Int32) (x2 : Int32) (y3 : Int64) : Option fw_S := b_X_X0_become__4_N_0 t x1 x2 y3
set_option maxRecDepth 20000 in
theorem w_X_X0_become__4_N_92 {p : Program} {l : Launch} {e : Env} {s : State} {m : MethodId} {args : Array Value} {below : List Frame} {meth : Method} {c : Code} {A : Nat → Prop} {Q : State → Prop} {D : va_G} {ca : Nat → ClassId} {a : Nat → Nat} {u : fw_S}  (C : CX (WX ca a) D (tyv ca) p s m args c A prog_2_method_4_code 6 RX0) (hr : True → RX (WX ca a) D p l e rm_X_X0_become__4_N s m args below meth c A prog_2_method_4_code Q .return_ [] u) {t : fw_S}  {H : Heap} {locs : List Loc} {ls : Array Slot} (hf : b_X_X0_become__4_N_92  t  = some u) (hP : va_P D classes (WX ca a t) H) (hS : va_S A s.heap H locs) (hl : lv_has ls 6 []) : W p l e rm_X_X0_become__4_N s m args below meth c H locs 0 0 Q (F0 m 92 ls []) := by
  obtain ⟨hx, hb, hml, hown, hts, hN, hK, hD, hA⟩ := id C
  have hf : (some t) = some u := hf
  have e_92 := fb_ev hf
  subst e_92
  exact hr trivial _ _ _ _ hP hS dX0_become_92
set_option maxRecDepth 20000 in
theorem w_X_X0_become__4_N_78 {p : Program} {l : Launch} {e : Env} {s : State} {m : MethodId} {args : Array Value} {below : List Frame} {meth : Method} {c : Code} {A : Nat → Prop} {Q : State → Prop} {D : va_G} {ca : Nat → ClassId} {a : Nat → Nat} {u : fw_S}  (C : CX (WX ca a) D (tyv ca) p s m args c A prog_2_method_4_code 6 RX0) (hr : True → RX (WX ca a) D p l e rm_X_X0_become__4_N s m args below meth c A prog_2_method_4_code Q .return_ [] u) {t : fw_S} {x1 : Int32} {H : Heap} {locs : List Loc} {ls : Array Slot} (hf : b_X_X0_become__4_N_78  t x1 = some u) (hP : va_P D classes (WX ca a t) H) (hS : va_S A s.heap H locs) (hl : lv_has ls 6 [(0, .ref (a 4)), (1, .int x1)]) : W p l e rm_X_X0_become__4_N s m args below meth c H locs 0 0 Q (F0 m 78 ls []) := by
  obtain ⟨hx, hb, hml, hown, hts, hN, hK, hD, hA⟩ := id C
  have hf : (fb_g (¬ (x1 < 0 ∨ 32 ≤ x1.toNatClampNeg)) (fb_l (up_G t 0 (vp_updL (st_G t 0) x1.toNatClampNeg ((0 : Int64)))) fun t_1 => (fb_g (¬ (x1 < 0 ∨ 32 ≤ x1.toNatClampNeg)) (fb_l (up_F t_1 9 (upd (st_F t_1 9) x1.toNatClampNeg ((3 : Int32)))) fun t_2 => (b_X_X0_become__4_N_92 t_2))))) = some u := hf
  refine lv_aload_n hx hb dX0_become_78 rfl (lv_at hl 0 rfl) ?_
  refine va_get (D := D) (ci := 0) (v := .ref (a 23)) (C := RX0) (T := TX0) (N := 12) hx hb hts inX0 hown hK hP 4 (heX_4 ca a t) rfl 1 (by decide) (hts _ kw_188) (fun _ h9 => h9) rfl dX0_become_79 ?_
  refine lv_iload_n hx hb dX0_become_82 rfl (lv_at hl 1 rfl) ?_
  refine lv_lconst (v := 0) hx hb dX0_become_83 (by decide) ?_
  obtain ⟨h_84, hf⟩ := fb_if hf
  refine va_last hx hb hK hP (hD t) hS 23 1 (haX_23 ca a t) rfl h_84 dX0_become_84 (fun H locs hP _ hS => ?_)
  rw [saX_23] at hP
  obtain ⟨t_1, e_84, hf⟩ := fb_ls hf
  rw [← e_84] at hP
  refine lv_aload_n hx hb dX0_become_85 rfl (lv_at hl 0 rfl) ?_
  refine va_get (D := D) (ci := 0) (v := .ref (a 24)) (C := RX0) (T := TX0) (N := 12) hx hb hts inX0 hown hK hP 4 (heX_4 ca a t_1) rfl 2 (by decide) (hts _ kw_189) (fun _ h9 => h9) rfl dX0_become_86 ?_
  refine lv_iload_n hx hb dX0_become_89 rfl (lv_at hl 1 rfl) ?_
  refine lv_iconst (v := 3) hx hb dX0_become_90 (by decide) ?_
  obtain ⟨h_91, hf⟩ := fb_if hf
  refine va_iast hx hb hK hP (hD t_1) hS 24 0 (haX_24 ca a t_1) rfl h_91 dX0_become_91 (fun H locs hP _ hS => ?_)
  rw [saX_24] at hP
  obtain ⟨t_2, e_91, hf⟩ := fb_ls hf
  rw [← e_91] at hP
  exact w_X_X0_become__4_N_92 C hr hf hP hS (lv_sub hl [] rfl)
set_option maxRecDepth 20000 in
theorem w_X_X0_become__4_N_74 {p : Program} {l : Launch} {e : Env} {s : State} {m : MethodId} {args : Array Value} {below : List Frame} {meth : Method} {c : Code} {A : Nat → Prop} {Q : State → Prop} {D : va_G} {ca : Nat → ClassId} {a : Nat → Nat} {u : fw_S}  (C : CX (WX ca a) D (tyv ca) p s m args c A prog_2_method_4_code 6 RX0) (hr : True → RX (WX ca a) D p l e rm_X_X0_become__4_N s m args below meth c A prog_2_method_4_code Q .return_ [] u) {t : fw_S} {x1 : Int32} {x2 : Int32} {H : Heap} {locs : List Loc} {ls : Array Slot} (hf : b_X_X0_become__4_N_74  t x1 x2 = some u) (hP : va_P D classes (WX ca a t) H) (hS : va_S A s.heap H locs) (hl : lv_has ls 6 [(0, .ref (a 4)), (1, .int x1), (2, .int x2)]) : W p l e rm_X_X0_become__4_N s m args below meth c H locs 0 0 Q (F0 m 74 ls []) := by
  obtain ⟨hx, hb, hml, hown, hts, hN, hK, hD, hA⟩ := id C
  have hf : (if x2 = 0 then b_X_X0_become__4_N_78 t x1 else b_X_X0_become__4_N_92 t) = some u := hf
  refine lv_iload_n hx hb dX0_become_74 rfl (lv_at hl 2 rfl) ?_
  refine lv_if_ne (tgt := 92) hx hb dX0_become_75 (by decide) (fun h_75 => ?_) (fun h_75 => ?_)
  · have hf := fb_f h_75 hf
    exact w_X_X0_become__4_N_92 C hr hf hP hS (lv_sub hl [] rfl)
  · have hf := fb_t h_75 hf
    exact w_X_X0_become__4_N_78 C hr hf hP hS (lv_sub hl [0, 1] rfl)
set_option maxRecDepth 20000 in
theorem w_X_X0_become__4_N_57 {p : Program} {l : Launch} {e : Env} {s : State} {m : MethodId} {args : Array Value} {below : List Frame} {meth : Method} {c : Code} {A : Nat → Prop} {Q : State → Prop} {D : va_G} {ca : Nat → ClassId} {a : Nat → Nat} {u : fw_S}  (C : CX (WX ca a) D (tyv ca) p s m args c A prog_2_method_4_code 6 RX0) (hr : True → RX (WX ca a) D p l e rm_X_X0_become__4_N s m args below meth c A prog_2_method_4_code Q .return_ [] u) {t : fw_S} {x1 : Int32} {y3 : Int64} {H : Heap} {locs : List Loc} {ls : Array Slot} (hf : b_X_X0_become__4_N_57  t x1 y3 = some u) (hP : va_P D classes (WX ca a t) H) (hS : va_S A s.heap H locs) (hl : lv_has ls 6 [(0, .ref (a 4)), (1, .int x1), (3, .long y3)]) : W p l e rm_X_X0_become__4_N s m args below meth c H locs 0 0 Q (F0 m 57 ls []) := by
  obtain ⟨hx, hb, hml, hown, hts, hN, hK, hD, hA⟩ := id C
  have hf : (fb_g (¬ (x1 < 0 ∨ 32 ≤ x1.toNatClampNeg)) (fb_l (up_G t 0 (vp_updL (st_G t 0) x1.toNatClampNeg y3)) fun t_1 => (fb_g (¬ (x1 < 0 ∨ 32 ≤ x1.toNatClampNeg)) (fb_l (up_F t_1 9 (upd (st_F t_1 9) x1.toNatClampNeg ((0 : Int32)))) fun t_2 => (b_X_X0_become__4_N_92 t_2))))) = some u := hf
  refine lv_aload_n hx hb dX0_become_57 rfl (lv_at hl 0 rfl) ?_
  refine va_get (D := D) (ci := 0) (v := .ref (a 23)) (C := RX0) (T := TX0) (N := 12) hx hb hts inX0 hown hK hP 4 (heX_4 ca a t) rfl 1 (by decide) (hts _ kw_188) (fun _ h9 => h9) rfl dX0_become_58 ?_
  refine lv_iload_n hx hb dX0_become_61 rfl (lv_at hl 1 rfl) ?_
  refine lv_lload_n hx hb dX0_become_62 rfl (lv_at hl 2 rfl) ?_
  obtain ⟨h_63, hf⟩ := fb_if hf
  refine va_last hx hb hK hP (hD t) hS 23 1 (haX_23 ca a t) rfl h_63 dX0_become_63 (fun H locs hP _ hS => ?_)
  rw [saX_23] at hP
  obtain ⟨t_1, e_63, hf⟩ := fb_ls hf
  rw [← e_63] at hP
  refine lv_aload_n hx hb dX0_become_64 rfl (lv_at hl 0 rfl) ?_
  refine va_get (D := D) (ci := 0) (v := .ref (a 24)) (C := RX0) (T := TX0) (N := 12) hx hb hts inX0 hown hK hP 4 (heX_4 ca a t_1) rfl 2 (by decide) (hts _ kw_189) (fun _ h9 => h9) rfl dX0_become_65 ?_
  refine lv_iload_n hx hb dX0_become_68 rfl (lv_at hl 1 rfl) ?_
  refine lv_iconst (v := 0) hx hb dX0_become_69 (by decide) ?_
  obtain ⟨h_70, hf⟩ := fb_if hf
  refine va_iast hx hb hK hP (hD t_1) hS 24 0 (haX_24 ca a t_1) rfl h_70 dX0_become_70 (fun H locs hP _ hS => ?_)
  rw [saX_24] at hP
  obtain ⟨t_2, e_70, hf⟩ := fb_ls hf
  rw [← e_70] at hP
  refine lv_goto (tgt := 92) hx hb dX0_become_71 (by decide) ?_
  exact w_X_X0_become__4_N_92 C hr hf hP hS (lv_sub hl [] rfl)
set_option maxRecDepth 20000 in
theorem w_X_X0_become__4_N_9 {p : Program} {l : Launch} {e : Env} {s : State} {m : MethodId} {args : Array Value} {below : List Frame} {meth : Method} {c : Code} {A : Nat → Prop} {Q : State → Prop} {D : va_G} {ca : Nat → ClassId} {a : Nat → Nat} {u : fw_S}  (C : CX (WX ca a) D (tyv ca) p s m args c A prog_2_method_4_code 6 RX0) (hr : True → RX (WX ca a) D p l e rm_X_X0_become__4_N s m args below meth c A prog_2_method_4_code Q .return_ [] u) {t : fw_S} {x1 : Int32} {x2 : Int32} {y3 : Int64} {H : Heap} {locs : List Loc} {ls : Array Slot} (hf : b_X_X0_become__4_N_9  t x1 x2 y3 = some u) (hP : va_P D classes (WX ca a t) H) (hS : va_S A s.heap H locs) (hl : lv_has ls 6 [(0, .ref (a 4)), (1, .int x1), (2, .int x2), (3, .long y3), (5, .null)]) : W p l e rm_X_X0_become__4_N s m args below meth c H locs 0 0 Q (F0 m 9 ls []) := by
  obtain ⟨hx, hb, hml, hown, hts, hN, hK, hD, hA⟩ := id C
  have hf : (fb_g (¬ (x1 < 0 ∨ 32 ≤ x1.toNatClampNeg)) (fb_l (up_F t 8 (upd (st_F t 8) x1.toNatClampNeg x2)) fun t_1 => (fb_g (¬ (x1 < 0 ∨ 32 ≤ x1.toNatClampNeg)) (fb_g (¬ (x1 < 0 ∨ 32 ≤ x1.toNatClampNeg)) (fb_l (up_F t_1 10 (upd (st_F t_1 10) x1.toNatClampNeg ((0 : Int32)))) fun t_2 => (fb_g (¬ (x1 < 0 ∨ 32 ≤ x1.toNatClampNeg)) (fb_l (up_F t_2 11 (upd (st_F t_2 11) x1.toNatClampNeg ((0 : Int32)))) fun t_3 => (fb_g (¬ (x1 < 0 ∨ 32 ≤ x1.toNatClampNeg)) (fb_l (up_F t_3 14 (upd (st_F t_3 14) x1.toNatClampNeg ((0 : Int32)))) fun t_4 => (fb_g (¬ (x1 < 0 ∨ 32 ≤ x1.toNatClampNeg)) (fb_l (up_G t_4 1 (vp_updL (st_G t_4 1) x1.toNatClampNeg ((0 : Int64)))) fun t_5 => (if x2 = ((1 : Int32)) then b_X_X0_become__4_N_57 t_5 x1 y3 else b_X_X0_become__4_N_74 t_5 x1 x2)))))))))))) = some u := hf
  refine lv_aload_n hx hb dX0_become_9 rfl (lv_at hl 0 rfl) ?_
  refine va_get (D := D) (ci := 0) (v := .ref (a 22)) (C := RX0) (T := TX0) (N := 12) hx hb hts inX0 hown hK hP 4 (heX_4 ca a t) rfl 0 (by decide) (hts _ kw_187) (fun _ h9 => h9) rfl dX0_become_10 ?_
  refine lv_iload_n hx hb dX0_become_13 rfl (lv_at hl 1 rfl) ?_
  refine lv_iload_n hx hb dX0_become_14 rfl (lv_at hl 2 rfl) ?_
  obtain ⟨h_15, hf⟩ := fb_if hf
  refine va_iast hx hb hK hP (hD t) hS 22 0 (haX_22 ca a t) rfl h_15 dX0_become_15 (fun H locs hP _ hS => ?_)
  rw [saX_22] at hP
  obtain ⟨t_1, e_15, hf⟩ := fb_ls hf
  rw [← e_15] at hP
  refine lv_aload_n hx hb dX0_become_16 rfl (lv_at hl 0 rfl) ?_
  refine va_get (D := D) (ci := 0) (v := .ref (a 25)) (C := RX0) (T := TX0) (N := 12) hx hb hts inX0 hown hK hP 4 (heX_4 ca a t_1) rfl 3 (by decide) (hts _ kw_190) (fun _ h9 => h9) rfl dX0_become_17 ?_
  refine lv_iload_n hx hb dX0_become_20 rfl (lv_at hl 1 rfl) ?_
  refine lv_aloadN hx hb dX0_become_21 (lv_at hl 4 rfl) ?_
  obtain ⟨h_23, hf⟩ := fb_if hf
  refine va_astqN (C := "ReactiveSheet$Formula") hx hb hK hP (hD t_1) hS 25 3 (haX_25 ca a t_1) rfl h_23 dX0_become_23 (fun H locs hP _ hS => ?_)
  rw [fb_nq, saX_25] at hP
  refine lv_aload_n hx hb dX0_become_24 rfl (lv_at hl 0 rfl) ?_
  refine va_get (D := D) (ci := 0) (v := .ref (a 26)) (C := RX0) (T := TX0) (N := 12) hx hb hts inX0 hown hK hP 4 (heX_4 ca a t_1) rfl 4 (by decide) (hts _ kw_191) (fun _ h9 => h9) rfl dX0_become_25 ?_
  refine lv_iload_n hx hb dX0_become_28 rfl (lv_at hl 1 rfl) ?_
  refine lv_iconst (v := 0) hx hb dX0_become_29 (by decide) ?_
  obtain ⟨h_30, hf⟩ := fb_if hf
  refine va_iast hx hb hK hP (hD t_1) hS 26 0 (haX_26 ca a t_1) rfl h_30 dX0_become_30 (fun H locs hP _ hS => ?_)
  rw [saX_26] at hP
  obtain ⟨t_2, e_30, hf⟩ := fb_ls hf
  rw [← e_30] at hP
  refine lv_aload_n hx hb dX0_become_31 rfl (lv_at hl 0 rfl) ?_
  refine va_get (D := D) (ci := 0) (v := .ref (a 27)) (C := RX0) (T := TX0) (N := 12) hx hb hts inX0 hown hK hP 4 (heX_4 ca a t_2) rfl 5 (by decide) (hts _ kw_192) (fun _ h9 => h9) rfl dX0_become_32 ?_
  refine lv_iload_n hx hb dX0_become_35 rfl (lv_at hl 1 rfl) ?_
  refine lv_iconst (v := 0) hx hb dX0_become_36 (by decide) ?_
  obtain ⟨h_37, hf⟩ := fb_if hf
  refine va_iast hx hb hK hP (hD t_2) hS 27 0 (haX_27 ca a t_2) rfl h_37 dX0_become_37 (fun H locs hP _ hS => ?_)
  rw [saX_27] at hP
  obtain ⟨t_3, e_37, hf⟩ := fb_ls hf
  rw [← e_37] at hP
  refine lv_aload_n hx hb dX0_become_38 rfl (lv_at hl 0 rfl) ?_
  refine va_get (D := D) (ci := 0) (v := .ref (a 30)) (C := RX0) (T := TX0) (N := 12) hx hb hts inX0 hown hK hP 4 (heX_4 ca a t_3) rfl 8 (by decide) (hts _ kw_195) (fun _ h9 => h9) rfl dX0_become_39 ?_
  refine lv_iload_n hx hb dX0_become_42 rfl (lv_at hl 1 rfl) ?_
  refine lv_iconst (v := 0) hx hb dX0_become_43 (by decide) ?_
  obtain ⟨h_44, hf⟩ := fb_if hf
  refine va_iast hx hb hK hP (hD t_3) hS 30 0 (haX_30 ca a t_3) rfl h_44 dX0_become_44 (fun H locs hP _ hS => ?_)
  rw [saX_30] at hP
  obtain ⟨t_4, e_44, hf⟩ := fb_ls hf
  rw [← e_44] at hP
  refine lv_aload_n hx hb dX0_become_45 rfl (lv_at hl 0 rfl) ?_
  refine va_get (D := D) (ci := 0) (v := .ref (a 31)) (C := RX0) (T := TX0) (N := 12) hx hb hts inX0 hown hK hP 4 (heX_4 ca a t_4) rfl 9 (by decide) (hts _ kw_196) (fun _ h9 => h9) rfl dX0_become_46 ?_
  refine lv_iload_n hx hb dX0_become_49 rfl (lv_at hl 1 rfl) ?_
  refine lv_lconst (v := 0) hx hb dX0_become_50 (by decide) ?_
  obtain ⟨h_51, hf⟩ := fb_if hf
  refine va_last hx hb hK hP (hD t_4) hS 31 1 (haX_31 ca a t_4) rfl h_51 dX0_become_51 (fun H locs hP _ hS => ?_)
  rw [saX_31] at hP
  obtain ⟨t_5, e_51, hf⟩ := fb_ls hf
  rw [← e_51] at hP
  refine lv_iload_n hx hb dX0_become_52 rfl (lv_at hl 2 rfl) ?_
  refine lv_iconst (v := 1) hx hb dX0_become_53 (by decide) ?_
  refine lv_icmp_ne (tgt := 74) hx hb dX0_become_54 (by decide) (fun h_54 => ?_) (fun h_54 => ?_)
  · have hf := fb_f h_54 hf
    exact w_X_X0_become__4_N_74 C hr hf hP hS (lv_sub hl [0, 1, 2] rfl)
  · have hf := fb_t h_54 hf
    exact w_X_X0_become__4_N_57 C hr hf hP hS (lv_sub hl [0, 1, 3] rfl)
set_option maxRecDepth 20000 in
theorem w_X_X0_become__4_N_8 {p : Program} {l : Launch} {e : Env} {s : State} {m : MethodId} {args : Array Value} {below : List Frame} {meth : Method} {c : Code} {A : Nat → Prop} {Q : State → Prop} {D : va_G} {ca : Nat → ClassId} {a : Nat → Nat} {u : fw_S}  (C : CX (WX ca a) D (tyv ca) p s m args c A prog_2_method_4_code 6 RX0) (hr : True → RX (WX ca a) D p l e rm_X_X0_become__4_N s m args below meth c A prog_2_method_4_code Q .return_ [] u) {t : fw_S}  {H : Heap} {locs : List Loc} {ls : Array Slot} (hf : b_X_X0_become__4_N_8  t  = some u) (hP : va_P D classes (WX ca a t) H) (hS : va_S A s.heap H locs) (hl : lv_has ls 6 []) : W p l e rm_X_X0_become__4_N s m args below meth c H locs 0 0 Q (F0 m 8 ls []) := by
  obtain ⟨hx, hb, hml, hown, hts, hN, hK, hD, hA⟩ := id C
  have hf : (some t) = some u := hf
  have e_8 := fb_ev hf
  subst e_8
  exact hr trivial _ _ _ _ hP hS dX0_become_8
set_option maxRecDepth 20000 in
theorem w_X_X0_become__4_N_0 {p : Program} {l : Launch} {e : Env} {s : State} {m : MethodId} {args : Array Value} {below : List Frame} {meth : Method} {c : Code} {A : Nat → Prop} {Q : State → Prop} {D : va_G} {ca : Nat → ClassId} {a : Nat → Nat} {u : fw_S}  (C : CX (WX ca a) D (tyv ca) p s m args c A prog_2_method_4_code 6 RX0) (hr : True → RX (WX ca a) D p l e rm_X_X0_become__4_N s m args below meth c A prog_2_method_4_code Q .return_ [] u) {t : fw_S} {x1 : Int32} {x2 : Int32} {y3 : Int64} {H : Heap} {locs : List Loc} {ls : Array Slot} (hf : b_X_X0_become__4_N_0  t x1 x2 y3 = some u) (hP : va_P D classes (WX ca a t) H) (hS : va_S A s.heap H locs) (hl : lv_has ls 6 [(0, .ref (a 4)), (1, .int x1), (2, .int x2), (3, .long y3), (5, .null)]) : W p l e rm_X_X0_become__4_N s m args below meth c H locs 0 0 Q (F0 m 0 ls []) := by
  obtain ⟨hx, hb, hml, hown, hts, hN, hK, hD, hA⟩ := id C
  have hf : (fb_b (f_X_X10_isCell t x1.toInt64) fun v_2 t_1 => (if v_2 = 0 then b_X_X0_become__4_N_8 t_1 else b_X_X0_become__4_N_9 t_1 x1 x2 y3)) = some u := hf
  refine lv_iload_n hx hb dX0_become_0 rfl (lv_at hl 1 rfl) ?_
  refine lv_i2l hx hb dX0_become_1 rfl ?_
  obtain ⟨v_2, t_1, g_2, hf⟩ := fb_bs hf
  refine fw_S2 (As := [.long x1.toInt64]) (rest := []) (n := 1) C (c_X_X10_isCell (l := l) (D := D) (ca := ca) (a := a) g_2) kw_429 kw_399 kw_92 kw_400 hP hS hl rfl rfl (by decide) (by decide +kernel) ⟨Nat.le_of_ble_eq_true rfl, Nat.le_of_ble_eq_true rfl⟩ rfl rfl (Nat.le_of_ble_eq_true rfl) dX0_become_2 (fun H locs hP hS => ?_)
  refine W.eq (g2 := F0 m 5 ls [.int v_2]) rfl ?_
  refine lv_if_ne (tgt := 9) hx hb dX0_become_5 (by decide) (fun h_5 => ?_) (fun h_5 => ?_)
  · have hf := fb_f h_5 hf
    exact w_X_X0_become__4_N_9 C hr hf hP hS (lv_sub hl [0, 1, 2, 3, 4] rfl)
  · have hf := fb_t h_5 hf
    exact w_X_X0_become__4_N_8 C hr hf hP hS (lv_sub hl [] rfl)
set_option maxRecDepth 20000 in
theorem c_X_X0_become__4_N {l : Launch} {D : va_G} {ca : Nat → ClassId} {a : Nat → Nat} {t : fw_S} {x1 : Int32} {x2 : Int32} {y3 : Int64} {u : fw_S} (hf : f_X_X0_become__4_N t x1 x2 y3 = some u) : MC (WX ca a) D (tyv ca) l yX0_become (.code yX0_become prog_2_method_4_code 6 none :: lw_gd) rm_X_X0_become__4_N [.ref (a 4), .int x1, .int x2, .long y3, .null] none t u := by
  refine fw_met (okX ca a) (by decide +kernel) rfl rfl (Nat.le_of_ble_eq_true rfl) ?_
  intro p e s m args below meth c A Q ls C hr hk hP hS hl hQ
  exact w_X_X0_become__4_N_0 C (fun _ => fw_rv C hr hk hQ) hf hP hS (lv_sub hl [0, 1, 2, 3, 4] rfl)
/-! ReactiveSheet.Telling.tell(LReactiveSheet.Cells;)V ['x.telling', 'x.engine.now'] -/
abbrev rm_X_X7_tell__6_4 : Room := { frames := 2, cells := 0, slots := 0, locals := 46 }
def b_X_X7_tell__6_4_48  (t : fw_S)  : Option fw_S := some t
def b_X_X7_tell__6_4_42 (k2 : fw_S → Int32 → Option fw_S) (t : fw_S) (x2 : Int32) : Option fw_S := k2 t (x2 + 1)
def b_X_X7_tell__6_4_19 (k2 : fw_S → Int32 → Option fw_S) (t : fw_S) (x2 : Int32) : Option fw_S := fb_g (¬ (x2 < 0 ∨ 32 ≤ x2.toNatClampNeg)) (fb_g (¬ (x2 < 0 ∨ 32 ≤ x2.toNatClampNeg)) (fb_g (¬ (x2 < 0 ∨ 32 ≤ x2.toNatClampNeg)) (fb_v (f_X_X0_become__4_N t x2 (st_F t 22 x2.toNatClampNeg) (st_G t 5 x2.toNatClampNeg)) fun t_1 => (b_X_X7_tell__6_4_42 k2 t_1 x2))))
def b_X_X7_tell__6_4_8 (k2 : fw_S → Int32 → Option fw_S) (t : fw_S) (x2 : Int32) : Option fw_S := fb_b (f_X_X10_has t (st_J t 8) x2) fun v_2 t_1 => (if v_2 = 0 then b_X_X7_tell__6_4_42 k2 t_1 x2 else b_X_X7_tell__6_4_19 k2 t_1 x2)
def b_X_X7_tell__6_4_2  : Nat → (fw_S → Int32 → Option fw_S)
  | 0 => fun _ _ => none
  | n + 1 => fun t x2 => if ((32 : Int32)) ≤ x2 then b_X_X7_tell__6_4_48 t else b_X_X7_tell__6_4_8 (b_X_X7_tell__6_4_2 n) t x2
def b_X_X7_tell__6_4_0  (t : fw_S)  : Option fw_S := b_X_X7_tell__6_4_2 3000 t ((0 : Int32))
def f_X_X7_tell__6_4 (t : fw_S)  : Option fw_S := b_X_X7_tell__6_4_0 t 
set_option maxRecDepth 20000 in
theorem w_X_X7_tell__6_4_48 {p : Program} {l : Launch} {e : Env} {s : State} {m : MethodId} {args : Array Value} {below : List Frame} {meth : Method} {c : Code} {A : Nat → Prop} {Q : State → Prop} {D : va_G} {ca : Nat → ClassId} {a : Nat → Nat} {u : fw_S}  (C : CX (WX ca a) D (tyv ca) p s m args c A prog_9_method_6_code 3 RX7) (hr : True → RX (WX ca a) D p l e rm_X_X7_tell__6_4 s m args below meth c A prog_9_method_6_code Q .return_ [] u) {t : fw_S}  {H : Heap} {locs : List Loc} {ls : Array Slot} (hf : b_X_X7_tell__6_4_48  t  = some u) (hP : va_P D classes (WX ca a t) H) (hS : va_S A s.heap H locs) (hl : lv_has ls 3 []) : W p l e rm_X_X7_tell__6_4 s m args below meth c H locs 0 0 Q (F0 m 48 ls []) := by
  obtain ⟨hx, hb, hml, hown, hts, hN, hK, hD, hA⟩ := id C
  have hf : (some t) = some u := hf
  have e_48 := fb_ev hf
  subst e_48
  exact hr trivial _ _ _ _ hP hS dX7_tell_48
set_option maxRecDepth 20000 in
theorem w_X_X7_tell__6_4_42 {p : Program} {l : Launch} {e : Env} {s : State} {m : MethodId} {args : Array Value} {below : List Frame} {meth : Method} {c : Code} {A : Nat → Prop} {Q : State → Prop} {D : va_G} {ca : Nat → ClassId} {a : Nat → Nat} {u : fw_S} {k2 : fw_S → Int32 → Option fw_S} (C : CX (WX ca a) D (tyv ca) p s m args c A prog_9_method_6_code 3 RX7) (hr : True → RX (WX ca a) D p l e rm_X_X7_tell__6_4 s m args below meth c A prog_9_method_6_code Q .return_ [] u) (hk2 : ∀ (t : fw_S) (x2 : Int32) (H : Heap) (locs : List Loc) (ls : Array Slot), k2 t x2 = some u → va_P D classes (WX ca a t) H → va_S A s.heap H locs → lv_has ls 3 [(0, .ref (a 6)), (1, .ref (a 4)), (2, .int x2)] → W p l e rm_X_X7_tell__6_4 s m args below meth c H locs 0 0 Q (F0 m 2 ls [])) {t : fw_S} {x2 : Int32} {H : Heap} {locs : List Loc} {ls : Array Slot} (hf : b_X_X7_tell__6_4_42 k2 t x2 = some u) (hP : va_P D classes (WX ca a t) H) (hS : va_S A s.heap H locs) (hl : lv_has ls 3 [(0, .ref (a 6)), (1, .ref (a 4)), (2, .int x2)]) : W p l e rm_X_X7_tell__6_4 s m args below meth c H locs 0 0 Q (F0 m 42 ls []) := by
  obtain ⟨hx, hb, hml, hown, hts, hN, hK, hD, hA⟩ := id C
  have hf : (k2 t (x2 + 1)) = some u := hf
  refine lv_iinc (v := x2 + 1) (lv' := [(2, .int (x2 + 1)), (0, .ref (a 6)), (1, .ref (a 4))]) hx hb dX7_tell_42 hl (k := 2) rfl rfl (by decide) rfl (fun ls hl => ?_)
  refine lv_goto (tgt := 2) hx hb dX7_tell_45 (by decide) ?_
  exact hk2 t (x2 + 1) _ _ _ hf hP hS (lv_sub hl [1, 2, 0] rfl)
set_option maxRecDepth 20000 in
theorem w_X_X7_tell__6_4_19 {p : Program} {l : Launch} {e : Env} {s : State} {m : MethodId} {args : Array Value} {below : List Frame} {meth : Method} {c : Code} {A : Nat → Prop} {Q : State → Prop} {D : va_G} {ca : Nat → ClassId} {a : Nat → Nat} {u : fw_S} {k2 : fw_S → Int32 → Option fw_S} (C : CX (WX ca a) D (tyv ca) p s m args c A prog_9_method_6_code 3 RX7) (hr : True → RX (WX ca a) D p l e rm_X_X7_tell__6_4 s m args below meth c A prog_9_method_6_code Q .return_ [] u) (hk2 : ∀ (t : fw_S) (x2 : Int32) (H : Heap) (locs : List Loc) (ls : Array Slot), k2 t x2 = some u → va_P D classes (WX ca a t) H → va_S A s.heap H locs → lv_has ls 3 [(0, .ref (a 6)), (1, .ref (a 4)), (2, .int x2)] → W p l e rm_X_X7_tell__6_4 s m args below meth c H locs 0 0 Q (F0 m 2 ls [])) {t : fw_S} {x2 : Int32} {H : Heap} {locs : List Loc} {ls : Array Slot} (hf : b_X_X7_tell__6_4_19 k2 t x2 = some u) (hP : va_P D classes (WX ca a t) H) (hS : va_S A s.heap H locs) (hl : lv_has ls 3 [(0, .ref (a 6)), (1, .ref (a 4)), (2, .int x2)]) : W p l e rm_X_X7_tell__6_4 s m args below meth c H locs 0 0 Q (F0 m 19 ls []) := by
  obtain ⟨hx, hb, hml, hown, hts, hN, hK, hD, hA⟩ := id C
  have hf : (fb_g (¬ (x2 < 0 ∨ 32 ≤ x2.toNatClampNeg)) (fb_g (¬ (x2 < 0 ∨ 32 ≤ x2.toNatClampNeg)) (fb_g (¬ (x2 < 0 ∨ 32 ≤ x2.toNatClampNeg)) (fb_v (f_X_X0_become__4_N t x2 (st_F t 22 x2.toNatClampNeg) (st_G t 5 x2.toNatClampNeg)) fun t_1 => (b_X_X7_tell__6_4_42 k2 t_1 x2))))) = some u := hf
  refine lv_aload_n hx hb dX7_tell_19 rfl (lv_at hl 1 rfl) ?_
  refine lv_iload_n hx hb dX7_tell_20 rfl (lv_at hl 2 rfl) ?_
  refine lv_aload_n hx hb dX7_tell_21 rfl (lv_at hl 0 rfl) ?_
  refine va_get (D := D) (ci := 7) (v := .ref (a 43)) (C := RX7) (T := TX7) (N := 4) hx hb hts inX7 hown hK hP 6 (heX_6 ca a t) rfl 0 (by decide) (hts _ kw_257) (fun _ h9 => h9) rfl dX7_tell_22 ?_
  refine lv_iload_n hx hb dX7_tell_25 rfl (lv_at hl 2 rfl) ?_
  obtain ⟨h_26, hf⟩ := fb_if hf
  refine va_iald hx hb hK hP 43 0 (haX_43 ca a t) rfl h_26 dX7_tell_26 ?_
  refine lv_aload_n hx hb dX7_tell_27 rfl (lv_at hl 0 rfl) ?_
  refine va_get (D := D) (ci := 7) (v := .ref (a 44)) (C := RX7) (T := TX7) (N := 4) hx hb hts inX7 hown hK hP 6 (heX_6 ca a t) rfl 1 (by decide) (hts _ kw_258) (fun _ h9 => h9) rfl dX7_tell_28 ?_
  refine lv_iload_n hx hb dX7_tell_31 rfl (lv_at hl 2 rfl) ?_
  obtain ⟨h_32, hf⟩ := fb_if hf
  refine va_lald hx hb hK hP 44 1 (haX_44 ca a t) rfl h_32 dX7_tell_32 ?_
  refine lv_aload_n hx hb dX7_tell_33 rfl (lv_at hl 0 rfl) ?_
  refine va_get (D := D) (ci := 7) (v := .ref (a 45)) (C := RX7) (T := TX7) (N := 4) hx hb hts inX7 hown hK hP 6 (heX_6 ca a t) rfl 2 (by decide) (hts _ kw_259) (fun _ h9 => h9) rfl dX7_tell_34 ?_
  refine lv_iload_n hx hb dX7_tell_37 rfl (lv_at hl 2 rfl) ?_
  obtain ⟨h_38, hf⟩ := fb_if hf
  refine va_aldq hx hb hK hP 45 3 (haX_45 ca a t) rfl h_38 dX7_tell_38 ?_
  obtain ⟨t_1, g_39, hf⟩ := fb_vs hf
  refine fw_V1 (As := [.int x2, .int (st_F t 22 x2.toNatClampNeg), .long (st_G t 5 x2.toNatClampNeg), .null]) (rest := []) (n := 4) (q0 := 4) C (c_X_X0_become__4_N (l := l) (D := D) (ca := ca) (a := a) g_39) kw_444 kw_445 kw_96 kw_447 kw_446 hP hS hl (heX_4 ca a t) rfl rfl rfl (by decide) (by decide +kernel) ⟨Nat.le_of_ble_eq_true rfl, Nat.le_of_ble_eq_true rfl⟩ rfl rfl (Nat.le_of_ble_eq_true rfl) dX7_tell_39 (fun H locs hP hS => ?_)
  refine W.eq (g2 := F0 m 42 ls []) rfl ?_
  exact w_X_X7_tell__6_4_42 C hr hk2 hf hP hS (lv_sub hl [0, 1, 2] rfl)
set_option maxRecDepth 20000 in
theorem w_X_X7_tell__6_4_8 {p : Program} {l : Launch} {e : Env} {s : State} {m : MethodId} {args : Array Value} {below : List Frame} {meth : Method} {c : Code} {A : Nat → Prop} {Q : State → Prop} {D : va_G} {ca : Nat → ClassId} {a : Nat → Nat} {u : fw_S} {k2 : fw_S → Int32 → Option fw_S} (C : CX (WX ca a) D (tyv ca) p s m args c A prog_9_method_6_code 3 RX7) (hr : True → RX (WX ca a) D p l e rm_X_X7_tell__6_4 s m args below meth c A prog_9_method_6_code Q .return_ [] u) (hk2 : ∀ (t : fw_S) (x2 : Int32) (H : Heap) (locs : List Loc) (ls : Array Slot), k2 t x2 = some u → va_P D classes (WX ca a t) H → va_S A s.heap H locs → lv_has ls 3 [(0, .ref (a 6)), (1, .ref (a 4)), (2, .int x2)] → W p l e rm_X_X7_tell__6_4 s m args below meth c H locs 0 0 Q (F0 m 2 ls [])) {t : fw_S} {x2 : Int32} {H : Heap} {locs : List Loc} {ls : Array Slot} (hf : b_X_X7_tell__6_4_8 k2 t x2 = some u) (hP : va_P D classes (WX ca a t) H) (hS : va_S A s.heap H locs) (hl : lv_has ls 3 [(0, .ref (a 6)), (1, .ref (a 4)), (2, .int x2)]) : W p l e rm_X_X7_tell__6_4 s m args below meth c H locs 0 0 Q (F0 m 8 ls []) := by
  obtain ⟨hx, hb, hml, hown, hts, hN, hK, hD, hA⟩ := id C
  have hf : (fb_b (f_X_X10_has t (st_J t 8) x2) fun v_2 t_1 => (if v_2 = 0 then b_X_X7_tell__6_4_42 k2 t_1 x2 else b_X_X7_tell__6_4_19 k2 t_1 x2)) = some u := hf
  refine lv_aload_n hx hb dX7_tell_8 rfl (lv_at hl 0 rfl) ?_
  refine va_get (D := D) (ci := 7) (v := .long (st_J t 8)) (C := RX7) (T := TX7) (N := 4) hx hb hts inX7 hown hK hP 6 (heX_6 ca a t) rfl 3 (by decide) (hts _ kw_260) (fun _ h9 => h9) rfl dX7_tell_9 ?_
  refine lv_iload_n hx hb dX7_tell_12 rfl (lv_at hl 2 rfl) ?_
  obtain ⟨v_2, t_1, g_13, hf⟩ := fb_bs hf
  refine fw_S2 (As := [.long (st_J t 8), .int x2]) (rest := []) (n := 2) C (c_X_X10_has (l := l) (D := D) (ca := ca) (a := a) g_13) kw_441 kw_442 kw_92 kw_443 hP hS hl rfl rfl (by decide) (by decide +kernel) ⟨Nat.le_of_ble_eq_true rfl, Nat.le_of_ble_eq_true rfl⟩ rfl rfl (Nat.le_of_ble_eq_true rfl) dX7_tell_13 (fun H locs hP hS => ?_)
  refine W.eq (g2 := F0 m 16 ls [.int v_2]) rfl ?_
  refine lv_if_eq (tgt := 42) hx hb dX7_tell_16 (by decide) (fun h_16 => ?_) (fun h_16 => ?_)
  · have hf := fb_t h_16 hf
    exact w_X_X7_tell__6_4_42 C hr hk2 hf hP hS (lv_sub hl [0, 1, 2] rfl)
  · have hf := fb_f h_16 hf
    exact w_X_X7_tell__6_4_19 C hr hk2 hf hP hS (lv_sub hl [0, 1, 2] rfl)
set_option maxRecDepth 20000 in
theorem w_X_X7_tell__6_4_2 {p : Program} {l : Launch} {e : Env} {s : State} {m : MethodId} {args : Array Value} {below : List Frame} {meth : Method} {c : Code} {A : Nat → Prop} {Q : State → Prop} {D : va_G} {ca : Nat → ClassId} {a : Nat → Nat} {u : fw_S}  (C : CX (WX ca a) D (tyv ca) p s m args c A prog_9_method_6_code 3 RX7) (hr : True → RX (WX ca a) D p l e rm_X_X7_tell__6_4 s m args below meth c A prog_9_method_6_code Q .return_ [] u) : ∀ (n : Nat) (t : fw_S) (x2 : Int32) (H : Heap) (locs : List Loc) (ls : Array Slot), b_X_X7_tell__6_4_2  n t x2 = some u → va_P D classes (WX ca a t) H → va_S A s.heap H locs → lv_has ls 3 [(0, .ref (a 6)), (1, .ref (a 4)), (2, .int x2)] → W p l e rm_X_X7_tell__6_4 s m args below meth c H locs 0 0 Q (F0 m 2 ls []) := by
  obtain ⟨hx, hb, hml, hown, hts, hN, hK, hD, hA⟩ := id C
  intro n
  induction n with
  | zero => intro t x2 H locs ls hf; cases hf
  | succ n hk2 =>
    intro t x2 H locs ls hf hP hS hl
    have hf : (if ((32 : Int32)) ≤ x2 then b_X_X7_tell__6_4_48 t else b_X_X7_tell__6_4_8 (b_X_X7_tell__6_4_2 n) t x2) = some u := hf
    refine lv_iload_n hx hb dX7_tell_2 rfl (lv_at hl 2 rfl) ?_
    refine lv_bipush (v := 32) hx hb dX7_tell_3 (by decide) ?_
    refine lv_icmp_ge (tgt := 48) hx hb dX7_tell_5 (by decide) (fun h_5 => ?_) (fun h_5 => ?_)
    · have hf := fb_t h_5 hf
      exact w_X_X7_tell__6_4_48 C hr hf hP hS (lv_sub hl [] rfl)
    · have hf := fb_f h_5 hf
      exact w_X_X7_tell__6_4_8 C hr hk2 hf hP hS (lv_sub hl [0, 1, 2] rfl)
set_option maxRecDepth 20000 in
theorem w_X_X7_tell__6_4_0 {p : Program} {l : Launch} {e : Env} {s : State} {m : MethodId} {args : Array Value} {below : List Frame} {meth : Method} {c : Code} {A : Nat → Prop} {Q : State → Prop} {D : va_G} {ca : Nat → ClassId} {a : Nat → Nat} {u : fw_S}  (C : CX (WX ca a) D (tyv ca) p s m args c A prog_9_method_6_code 3 RX7) (hr : True → RX (WX ca a) D p l e rm_X_X7_tell__6_4 s m args below meth c A prog_9_method_6_code Q .return_ [] u) {t : fw_S}  {H : Heap} {locs : List Loc} {ls : Array Slot} (hf : b_X_X7_tell__6_4_0  t  = some u) (hP : va_P D classes (WX ca a t) H) (hS : va_S A s.heap H locs) (hl : lv_has ls 3 [(0, .ref (a 6)), (1, .ref (a 4))]) : W p l e rm_X_X7_tell__6_4 s m args below meth c H locs 0 0 Q (F0 m 0 ls []) := by
  obtain ⟨hx, hb, hml, hown, hts, hN, hK, hD, hA⟩ := id C
  have hf : (b_X_X7_tell__6_4_2 3000 t ((0 : Int32))) = some u := hf
  refine lv_iconst (v := 0) hx hb dX7_tell_0 (by decide) ?_
  refine lv_istore_n (lv' := [(2, .int ((0 : Int32))), (0, .ref (a 6)), (1, .ref (a 4))]) hx hb dX7_tell_1 rfl hl (by decide) rfl (fun ls hl => ?_)
  exact w_X_X7_tell__6_4_2 C hr 3000 t ((0 : Int32)) _ _ _ hf hP hS (lv_sub hl [1, 2, 0] rfl)
set_option maxRecDepth 20000 in
theorem c_X_X7_tell__6_4 {l : Launch} {D : va_G} {ca : Nat → ClassId} {a : Nat → Nat} {t : fw_S}  {u : fw_S} (hf : f_X_X7_tell__6_4 t  = some u) : MC (WX ca a) D (tyv ca) l yX7_tell (.code yX7_tell prog_9_method_6_code 3 none :: lw_gd) rm_X_X7_tell__6_4 [.ref (a 6), .ref (a 4)] none t u := by
  refine fw_met (okX ca a) (by decide +kernel) rfl rfl (Nat.le_of_ble_eq_true rfl) ?_
  intro p e s m args below meth c A Q ls C hr hk hP hS hl hQ
  exact w_X_X7_tell__6_4_0 C (fun _ => fw_rv C hr hk hQ) hf hP hS (lv_sub hl [0, 1] rfl)
/-! ReactiveSheet.Telling.cells()J ['x.telling'] -/
abbrev rm_X_X7_cells__6 : Room := { frames := 0, cells := 0, slots := 0, locals := 0 }
def b_X_X7_cells__6_0  (t : fw_S)  : Option (Int64 × fw_S) := some (st_J t 8, t)
def f_X_X7_cells__6 (t : fw_S)  : Option (Int64 × fw_S) := b_X_X7_cells__6_0 t 
set_option maxRecDepth 20000 in
theorem w_X_X7_cells__6_0 {p : Program} {l : Launch} {e : Env} {s : State} {m : MethodId} {args : Array Value} {below : List Frame} {meth : Method} {c : Code} {A : Nat → Prop} {Q : State → Prop} {D : va_G} {ca : Nat → ClassId} {a : Nat → Nat} {u : fw_S} {r : Int64}  (C : CX (WX ca a) D (tyv ca) p s m args c A prog_9_method_4_code 1 RX7) (hr : True → RX (WX ca a) D p l e rm_X_X7_cells__6 s m args below meth c A prog_9_method_4_code Q .lreturn [.long r] u) {t : fw_S}  {H : Heap} {locs : List Loc} {ls : Array Slot} (hf : b_X_X7_cells__6_0  t  = some (r, u)) (hP : va_P D classes (WX ca a t) H) (hS : va_S A s.heap H locs) (hl : lv_has ls 1 [(0, .ref (a 6))]) : W p l e rm_X_X7_cells__6 s m args below meth c H locs 0 0 Q (F0 m 0 ls []) := by
  obtain ⟨hx, hb, hml, hown, hts, hN, hK, hD, hA⟩ := id C
  have hf : (some (st_J t 8, t)) = some (r, u) := hf
  refine lv_aload_n hx hb dX7_cells_0 rfl (lv_at hl 0 rfl) ?_
  refine va_get (D := D) (ci := 7) (v := .long (st_J t 8)) (C := RX7) (T := TX7) (N := 4) hx hb hts inX7 hown hK hP 6 (heX_6 ca a t) rfl 3 (by decide) (hts _ kw_260) (fun _ h9 => h9) rfl dX7_cells_1 ?_
  obtain ⟨e_4, e2_4⟩ := fb_e hf
  subst e_4; subst e2_4
  exact hr trivial _ _ _ _ hP hS dX7_cells_4
set_option maxRecDepth 20000 in
theorem c_X_X7_cells__6 {l : Launch} {D : va_G} {ca : Nat → ClassId} {a : Nat → Nat} {t : fw_S}  {u : fw_S} {r : Int64} (hf : f_X_X7_cells__6 t  = some (r, u)) : MC (WX ca a) D (tyv ca) l yX7_cells (.code yX7_cells prog_9_method_4_code 1 (some .long) :: lw_gd) rm_X_X7_cells__6 [.ref (a 6)] (some (.long r)) t u := by
  refine fw_met (okX ca a) (by decide +kernel) rfl rfl (Nat.le_of_ble_eq_true rfl) ?_
  intro p e s m args below meth c A Q ls C hr hk hP hS hl hQ
  exact w_X_X7_cells__6_0 C (fun _ => fw_rl C hr hk hQ) hf hP hS (lv_sub hl [0] rfl)
/-! ReactiveSheet.Cells.plain()J ['x.engine.now'] -/
abbrev rm_X_X0_plain__4 : Room := { frames := 1, cells := 0, slots := 0, locals := 20 }
def b_X_X0_plain__4_33  (t : fw_S) (y1 : Int64) : Option (Int64 × fw_S) := some (y1, t)
def b_X_X0_plain__4_27 (k4 : fw_S → Int64 → Int32 → Option (Int64 × fw_S)) (t : fw_S) (y1 : Int64) (x3 : Int32) : Option (Int64 × fw_S) := k4 t y1 (x3 + 1)
def b_X_X0_plain__4_20 (k4 : fw_S → Int64 → Int32 → Option (Int64 × fw_S)) (t : fw_S) (y1 : Int64) (x3 : Int32) : Option (Int64 × fw_S) := fb_b (f_X_X10_bit t x3) fun v_2 t_1 => (b_X_X0_plain__4_27 k4 t_1 (y1 ||| v_2) x3)
def b_X_X0_plain__4_10 (k4 : fw_S → Int64 → Int32 → Option (Int64 × fw_S)) (t : fw_S) (y1 : Int64) (x3 : Int32) : Option (Int64 × fw_S) := fb_g (¬ (x3 < 0 ∨ 32 ≤ x3.toNatClampNeg)) (if (st_F t 8 x3.toNatClampNeg) = ((2 : Int32)) then b_X_X0_plain__4_27 k4 t y1 x3 else b_X_X0_plain__4_20 k4 t y1 x3)
def b_X_X0_plain__4_4  : Nat → (fw_S → Int64 → Int32 → Option (Int64 × fw_S))
  | 0 => fun _ _ _ => none
  | n + 1 => fun t y1 x3 => if ((32 : Int32)) ≤ x3 then b_X_X0_plain__4_33 t y1 else b_X_X0_plain__4_10 (b_X_X0_plain__4_4 n) t y1 x3
def b_X_X0_plain__4_0  (t : fw_S)  : Option (Int64 × fw_S) := b_X_X0_plain__4_4 3000 t ((0 : Int64)) ((0 : Int32))
def f_X_X0_plain__4 (t : fw_S)  : Option (Int64 × fw_S) := b_X_X0_plain__4_0 t 
set_option maxRecDepth 20000 in
theorem w_X_X0_plain__4_33 {p : Program} {l : Launch} {e : Env} {s : State} {m : MethodId} {args : Array Value} {below : List Frame} {meth : Method} {c : Code} {A : Nat → Prop} {Q : State → Prop} {D : va_G} {ca : Nat → ClassId} {a : Nat → Nat} {u : fw_S} {r : Int64}  (C : CX (WX ca a) D (tyv ca) p s m args c A prog_2_method_30_code 4 RX0) (hr : True → RX (WX ca a) D p l e rm_X_X0_plain__4 s m args below meth c A prog_2_method_30_code Q .lreturn [.long r] u) {t : fw_S} {y1 : Int64} {H : Heap} {locs : List Loc} {ls : Array Slot} (hf : b_X_X0_plain__4_33  t y1 = some (r, u)) (hP : va_P D classes (WX ca a t) H) (hS : va_S A s.heap H locs) (hl : lv_has ls 4 [(1, .long y1)]) : W p l e rm_X_X0_plain__4 s m args below meth c H locs 0 0 Q (F0 m 33 ls []) := by
  obtain ⟨hx, hb, hml, hown, hts, hN, hK, hD, hA⟩ := id C
  have hf : (some (y1, t)) = some (r, u) := hf
  refine lv_lload_n hx hb dX0_plain_33 rfl (lv_at hl 0 rfl) ?_
  obtain ⟨e_34, e2_34⟩ := fb_e hf
  subst e_34; subst e2_34
  exact hr trivial _ _ _ _ hP hS dX0_plain_34
set_option maxRecDepth 20000 in
theorem w_X_X0_plain__4_27 {p : Program} {l : Launch} {e : Env} {s : State} {m : MethodId} {args : Array Value} {below : List Frame} {meth : Method} {c : Code} {A : Nat → Prop} {Q : State → Prop} {D : va_G} {ca : Nat → ClassId} {a : Nat → Nat} {u : fw_S} {r : Int64} {k4 : fw_S → Int64 → Int32 → Option (Int64 × fw_S)} (C : CX (WX ca a) D (tyv ca) p s m args c A prog_2_method_30_code 4 RX0) (hr : True → RX (WX ca a) D p l e rm_X_X0_plain__4 s m args below meth c A prog_2_method_30_code Q .lreturn [.long r] u) (hk4 : ∀ (t : fw_S) (y1 : Int64) (x3 : Int32) (H : Heap) (locs : List Loc) (ls : Array Slot), k4 t y1 x3 = some (r, u) → va_P D classes (WX ca a t) H → va_S A s.heap H locs → lv_has ls 4 [(0, .ref (a 4)), (1, .long y1), (3, .int x3)] → W p l e rm_X_X0_plain__4 s m args below meth c H locs 0 0 Q (F0 m 4 ls [])) {t : fw_S} {y1 : Int64} {x3 : Int32} {H : Heap} {locs : List Loc} {ls : Array Slot} (hf : b_X_X0_plain__4_27 k4 t y1 x3 = some (r, u)) (hP : va_P D classes (WX ca a t) H) (hS : va_S A s.heap H locs) (hl : lv_has ls 4 [(0, .ref (a 4)), (1, .long y1), (3, .int x3)]) : W p l e rm_X_X0_plain__4 s m args below meth c H locs 0 0 Q (F0 m 27 ls []) := by
  obtain ⟨hx, hb, hml, hown, hts, hN, hK, hD, hA⟩ := id C
  have hf : (k4 t y1 (x3 + 1)) = some (r, u) := hf
  refine lv_iinc (v := x3 + 1) (lv' := [(3, .int (x3 + 1)), (0, .ref (a 4)), (1, .long y1)]) hx hb dX0_plain_27 hl (k := 2) rfl rfl (by decide) rfl (fun ls hl => ?_)
  refine lv_goto (tgt := 4) hx hb dX0_plain_30 (by decide) ?_
  exact hk4 t y1 (x3 + 1) _ _ _ hf hP hS (lv_sub hl [1, 2, 0] rfl)
set_option maxRecDepth 20000 in
theorem w_X_X0_plain__4_20 {p : Program} {l : Launch} {e : Env} {s : State} {m : MethodId} {args : Array Value} {below : List Frame} {meth : Method} {c : Code} {A : Nat → Prop} {Q : State → Prop} {D : va_G} {ca : Nat → ClassId} {a : Nat → Nat} {u : fw_S} {r : Int64} {k4 : fw_S → Int64 → Int32 → Option (Int64 × fw_S)} (C : CX (WX ca a) D (tyv ca) p s m args c A prog_2_method_30_code 4 RX0) (hr : True → RX (WX ca a) D p l e rm_X_X0_plain__4 s m args below meth c A prog_2_method_30_code Q .lreturn [.long r] u) (hk4 : ∀ (t : fw_S) (y1 : Int64) (x3 : Int32) (H : Heap) (locs : List Loc) (ls : Array Slot), k4 t y1 x3 = some (r, u) → va_P D classes (WX ca a t) H → va_S A s.heap H locs → lv_has ls 4 [(0, .ref (a 4)), (1, .long y1), (3, .int x3)] → W p l e rm_X_X0_plain__4 s m args below meth c H locs 0 0 Q (F0 m 4 ls [])) {t : fw_S} {y1 : Int64} {x3 : Int32} {H : Heap} {locs : List Loc} {ls : Array Slot} (hf : b_X_X0_plain__4_20 k4 t y1 x3 = some (r, u)) (hP : va_P D classes (WX ca a t) H) (hS : va_S A s.heap H locs) (hl : lv_has ls 4 [(0, .ref (a 4)), (1, .long y1), (3, .int x3)]) : W p l e rm_X_X0_plain__4 s m args below meth c H locs 0 0 Q (F0 m 20 ls []) := by
  obtain ⟨hx, hb, hml, hown, hts, hN, hK, hD, hA⟩ := id C
  have hf : (fb_b (f_X_X10_bit t x3) fun v_2 t_1 => (b_X_X0_plain__4_27 k4 t_1 (y1 ||| v_2) x3)) = some (r, u) := hf
  refine lv_lload_n hx hb dX0_plain_20 rfl (lv_at hl 1 rfl) ?_
  refine lv_iload_n hx hb dX0_plain_21 rfl (lv_at hl 2 rfl) ?_
  obtain ⟨v_2, t_1, g_22, hf⟩ := fb_bs hf
  refine fw_S2 (As := [.int x3]) (rest := [.long y1]) (n := 1) C (c_X_X10_bit (l := l) (D := D) (ca := ca) (a := a) g_22) kw_456 kw_408 kw_92 kw_409 hP hS hl rfl rfl (by decide) (by decide +kernel) ⟨Nat.le_of_ble_eq_true rfl, Nat.le_of_ble_eq_true rfl⟩ rfl rfl (Nat.le_of_ble_eq_true rfl) dX0_plain_22 (fun H locs hP hS => ?_)
  refine W.eq (g2 := F0 m 25 ls [.long v_2, .long y1]) rfl ?_
  refine lv_lor hx hb dX0_plain_25 ?_
  refine lv_lstore_n (lv' := [(1, .long (y1 ||| v_2)), (0, .ref (a 4)), (3, .int x3)]) hx hb dX0_plain_26 rfl hl (by decide) rfl (fun ls hl => ?_)
  exact w_X_X0_plain__4_27 C hr hk4 hf hP hS (lv_sub hl [1, 0, 2] rfl)
set_option maxRecDepth 20000 in
theorem w_X_X0_plain__4_10 {p : Program} {l : Launch} {e : Env} {s : State} {m : MethodId} {args : Array Value} {below : List Frame} {meth : Method} {c : Code} {A : Nat → Prop} {Q : State → Prop} {D : va_G} {ca : Nat → ClassId} {a : Nat → Nat} {u : fw_S} {r : Int64} {k4 : fw_S → Int64 → Int32 → Option (Int64 × fw_S)} (C : CX (WX ca a) D (tyv ca) p s m args c A prog_2_method_30_code 4 RX0) (hr : True → RX (WX ca a) D p l e rm_X_X0_plain__4 s m args below meth c A prog_2_method_30_code Q .lreturn [.long r] u) (hk4 : ∀ (t : fw_S) (y1 : Int64) (x3 : Int32) (H : Heap) (locs : List Loc) (ls : Array Slot), k4 t y1 x3 = some (r, u) → va_P D classes (WX ca a t) H → va_S A s.heap H locs → lv_has ls 4 [(0, .ref (a 4)), (1, .long y1), (3, .int x3)] → W p l e rm_X_X0_plain__4 s m args below meth c H locs 0 0 Q (F0 m 4 ls [])) {t : fw_S} {y1 : Int64} {x3 : Int32} {H : Heap} {locs : List Loc} {ls : Array Slot} (hf : b_X_X0_plain__4_10 k4 t y1 x3 = some (r, u)) (hP : va_P D classes (WX ca a t) H) (hS : va_S A s.heap H locs) (hl : lv_has ls 4 [(0, .ref (a 4)), (1, .long y1), (3, .int x3)]) : W p l e rm_X_X0_plain__4 s m args below meth c H locs 0 0 Q (F0 m 10 ls []) := by
  obtain ⟨hx, hb, hml, hown, hts, hN, hK, hD, hA⟩ := id C
  have hf : (fb_g (¬ (x3 < 0 ∨ 32 ≤ x3.toNatClampNeg)) (if (st_F t 8 x3.toNatClampNeg) = ((2 : Int32)) then b_X_X0_plain__4_27 k4 t y1 x3 else b_X_X0_plain__4_20 k4 t y1 x3)) = some (r, u) := hf
  refine lv_aload_n hx hb dX0_plain_10 rfl (lv_at hl 0 rfl) ?_
  refine va_get (D := D) (ci := 0) (v := .ref (a 22)) (C := RX0) (T := TX0) (N := 12) hx hb hts inX0 hown hK hP 4 (heX_4 ca a t) rfl 0 (by decide) (hts _ kw_187) (fun _ h9 => h9) rfl dX0_plain_11 ?_
  refine lv_iload_n hx hb dX0_plain_14 rfl (lv_at hl 2 rfl) ?_
  obtain ⟨h_15, hf⟩ := fb_if hf
  refine va_iald hx hb hK hP 22 0 (haX_22 ca a t) rfl h_15 dX0_plain_15 ?_
  refine lv_iconst (v := 2) hx hb dX0_plain_16 (by decide) ?_
  refine lv_icmp_eq (tgt := 27) hx hb dX0_plain_17 (by decide) (fun h_17 => ?_) (fun h_17 => ?_)
  · have hf := fb_t h_17 hf
    exact w_X_X0_plain__4_27 C hr hk4 hf hP hS (lv_sub hl [0, 1, 2] rfl)
  · have hf := fb_f h_17 hf
    exact w_X_X0_plain__4_20 C hr hk4 hf hP hS (lv_sub hl [0, 1, 2] rfl)
set_option maxRecDepth 20000 in
theorem w_X_X0_plain__4_4 {p : Program} {l : Launch} {e : Env} {s : State} {m : MethodId} {args : Array Value} {below : List Frame} {meth : Method} {c : Code} {A : Nat → Prop} {Q : State → Prop} {D : va_G} {ca : Nat → ClassId} {a : Nat → Nat} {u : fw_S} {r : Int64}  (C : CX (WX ca a) D (tyv ca) p s m args c A prog_2_method_30_code 4 RX0) (hr : True → RX (WX ca a) D p l e rm_X_X0_plain__4 s m args below meth c A prog_2_method_30_code Q .lreturn [.long r] u) : ∀ (n : Nat) (t : fw_S) (y1 : Int64) (x3 : Int32) (H : Heap) (locs : List Loc) (ls : Array Slot), b_X_X0_plain__4_4  n t y1 x3 = some (r, u) → va_P D classes (WX ca a t) H → va_S A s.heap H locs → lv_has ls 4 [(0, .ref (a 4)), (1, .long y1), (3, .int x3)] → W p l e rm_X_X0_plain__4 s m args below meth c H locs 0 0 Q (F0 m 4 ls []) := by
  obtain ⟨hx, hb, hml, hown, hts, hN, hK, hD, hA⟩ := id C
  intro n
  induction n with
  | zero => intro t y1 x3 H locs ls hf; cases hf
  | succ n hk4 =>
    intro t y1 x3 H locs ls hf hP hS hl
    have hf : (if ((32 : Int32)) ≤ x3 then b_X_X0_plain__4_33 t y1 else b_X_X0_plain__4_10 (b_X_X0_plain__4_4 n) t y1 x3) = some (r, u) := hf
    refine lv_iload_n hx hb dX0_plain_4 rfl (lv_at hl 2 rfl) ?_
    refine lv_bipush (v := 32) hx hb dX0_plain_5 (by decide) ?_
    refine lv_icmp_ge (tgt := 33) hx hb dX0_plain_7 (by decide) (fun h_7 => ?_) (fun h_7 => ?_)
    · have hf := fb_t h_7 hf
      exact w_X_X0_plain__4_33 C hr hf hP hS (lv_sub hl [1] rfl)
    · have hf := fb_f h_7 hf
      exact w_X_X0_plain__4_10 C hr hk4 hf hP hS (lv_sub hl [0, 1, 2] rfl)
set_option maxRecDepth 20000 in
theorem w_X_X0_plain__4_0 {p : Program} {l : Launch} {e : Env} {s : State} {m : MethodId} {args : Array Value} {below : List Frame} {meth : Method} {c : Code} {A : Nat → Prop} {Q : State → Prop} {D : va_G} {ca : Nat → ClassId} {a : Nat → Nat} {u : fw_S} {r : Int64}  (C : CX (WX ca a) D (tyv ca) p s m args c A prog_2_method_30_code 4 RX0) (hr : True → RX (WX ca a) D p l e rm_X_X0_plain__4 s m args below meth c A prog_2_method_30_code Q .lreturn [.long r] u) {t : fw_S}  {H : Heap} {locs : List Loc} {ls : Array Slot} (hf : b_X_X0_plain__4_0  t  = some (r, u)) (hP : va_P D classes (WX ca a t) H) (hS : va_S A s.heap H locs) (hl : lv_has ls 4 [(0, .ref (a 4))]) : W p l e rm_X_X0_plain__4 s m args below meth c H locs 0 0 Q (F0 m 0 ls []) := by
  obtain ⟨hx, hb, hml, hown, hts, hN, hK, hD, hA⟩ := id C
  have hf : (b_X_X0_plain__4_4 3000 t ((0 : Int64)) ((0 : Int32))) = some (r, u) := hf
  refine lv_lconst (v := 0) hx hb dX0_plain_0 (by decide) ?_
  refine lv_lstore_n (lv' := [(1, .long ((0 : Int64))), (0, .ref (a 4))]) hx hb dX0_plain_1 rfl hl (by decide) rfl (fun ls hl => ?_)
  refine lv_iconst (v := 0) hx hb dX0_plain_2 (by decide) ?_
  refine lv_istore_n (lv' := [(3, .int ((0 : Int32))), (1, .long ((0 : Int64))), (0, .ref (a 4))]) hx hb dX0_plain_3 rfl hl (by decide) rfl (fun ls hl => ?_)
  exact w_X_X0_plain__4_4 C hr 3000 t ((0 : Int64)) ((0 : Int32)) _ _ _ hf hP hS (lv_sub hl [2, 1, 0] rfl)
set_option maxRecDepth 20000 in
theorem c_X_X0_plain__4 {l : Launch} {D : va_G} {ca : Nat → ClassId} {a : Nat → Nat} {t : fw_S}  {u : fw_S} {r : Int64} (hf : f_X_X0_plain__4 t  = some (r, u)) : MC (WX ca a) D (tyv ca) l yX0_plain (.code yX0_plain prog_2_method_30_code 4 (some .long) :: lw_gd) rm_X_X0_plain__4 [.ref (a 4)] (some (.long r)) t u := by
  refine fw_met (okX ca a) (by decide +kernel) rfl rfl (Nat.le_of_ble_eq_true rfl) ?_
  intro p e s m args below meth c A Q ls C hr hk hP hS hl hQ
  exact w_X_X0_plain__4_0 C (fun _ => fw_rl C hr hk hQ) hf hP hS (lv_sub hl [0] rfl)
/-! ReactiveSheet.Cells.compare(ILReactiveSheet.Cells;)V ['x.engine.now', 'x.engine.before'] -/
abbrev rm_X_X0_compare__4_5 : Room := { frames := 1, cells := 0, slots := 0, locals := 21 }
def b_X_X0_compare__4_5_52  (t : fw_S)  : Option fw_S := some t
def b_X_X0_compare__4_5_39  (t : fw_S) (x1 : Int32) : Option fw_S := fb_b (f_X_X10_bit t x1) fun v_2 t_1 => (fb_l (up_J t_1 4 ((st_J t 4) ||| v_2)) fun t_3 => (b_X_X0_compare__4_5_52 t_3))
def b_X_X0_compare__4_5_23  (t : fw_S) (x1 : Int32) : Option fw_S := fb_g (¬ (x1 < 0 ∨ 32 ≤ x1.toNatClampNeg)) (fb_g (¬ (x1 < 0 ∨ 32 ≤ x1.toNatClampNeg)) (if (lg_cmp (st_G t 0 x1.toNatClampNeg) (st_G t 2 x1.toNatClampNeg)) = 0 then b_X_X0_compare__4_5_52 t else b_X_X0_compare__4_5_39 t x1))
def b_X_X0_compare__4_5_8  (t : fw_S) (x1 : Int32) : Option fw_S := fb_g (¬ (x1 < 0 ∨ 32 ≤ x1.toNatClampNeg)) (fb_g (¬ (x1 < 0 ∨ 32 ≤ x1.toNatClampNeg)) (if (st_F t 9 x1.toNatClampNeg) = (st_F t 16 x1.toNatClampNeg) then b_X_X0_compare__4_5_23 t x1 else b_X_X0_compare__4_5_39 t x1))
def b_X_X0_compare__4_5_0  (t : fw_S) (x1 : Int32) : Option fw_S := fb_b (f_X_X10_isCell t x1.toInt64) fun v_2 t_1 => (if v_2 = 0 then b_X_X0_compare__4_5_52 t_1 else b_X_X0_compare__4_5_8 t_1 x1)
def f_X_X0_compare__4_5 (t : fw_S) (x1 : Int32) : Option fw_S := b_X_X0_compare__4_5_0 t x1
set_option maxRecDepth 20000 in
theorem w_X_X0_compare__4_5_52 {p : Program} {l : Launch} {e : Env} {s : State} {m : MethodId} {args : Array Value} {below : List Frame} {meth : Method} {c : Code} {A : Nat → Prop} {Q : State → Prop} {D : va_G} {ca : Nat → ClassId} {a : Nat → Nat} {u : fw_S}  (C : CX (WX ca a) D (tyv ca) p s m args c A prog_2_method_8_code 3 RX0) (hr : True → RX (WX ca a) D p l e rm_X_X0_compare__4_5 s m args below meth c A prog_2_method_8_code Q .return_ [] u) {t : fw_S}  {H : Heap} {locs : List Loc} {ls : Array Slot} (hf : b_X_X0_compare__4_5_52  t  = some u) (hP : va_P D classes (WX ca a t) H) (hS : va_S A s.heap H locs) (hl : lv_has ls 3 []) : W p l e rm_X_X0_compare__4_5 s m args below meth c H locs 0 0 Q (F0 m 52 ls []) := by
  obtain ⟨hx, hb, hml, hown, hts, hN, hK, hD, hA⟩ := id C
  have hf : (some t) = some u := hf
  have e_52 := fb_ev hf
  subst e_52
  exact hr trivial _ _ _ _ hP hS dX0_compare_52
set_option maxRecDepth 20000 in
theorem w_X_X0_compare__4_5_39 {p : Program} {l : Launch} {e : Env} {s : State} {m : MethodId} {args : Array Value} {below : List Frame} {meth : Method} {c : Code} {A : Nat → Prop} {Q : State → Prop} {D : va_G} {ca : Nat → ClassId} {a : Nat → Nat} {u : fw_S}  (C : CX (WX ca a) D (tyv ca) p s m args c A prog_2_method_8_code 3 RX0) (hr : True → RX (WX ca a) D p l e rm_X_X0_compare__4_5 s m args below meth c A prog_2_method_8_code Q .return_ [] u) {t : fw_S} {x1 : Int32} {H : Heap} {locs : List Loc} {ls : Array Slot} (hf : b_X_X0_compare__4_5_39  t x1 = some u) (hP : va_P D classes (WX ca a t) H) (hS : va_S A s.heap H locs) (hl : lv_has ls 3 [(0, .ref (a 4)), (1, .int x1)]) : W p l e rm_X_X0_compare__4_5 s m args below meth c H locs 0 0 Q (F0 m 39 ls []) := by
  obtain ⟨hx, hb, hml, hown, hts, hN, hK, hD, hA⟩ := id C
  have hf : (fb_b (f_X_X10_bit t x1) fun v_2 t_1 => (fb_l (up_J t_1 4 ((st_J t 4) ||| v_2)) fun t_3 => (b_X_X0_compare__4_5_52 t_3))) = some u := hf
  refine lv_aload_n hx hb dX0_compare_39 rfl (lv_at hl 0 rfl) ?_
  refine lv_dup hx hb dX0_compare_40 rfl ?_
  refine va_get (D := D) (ci := 0) (v := .long (st_J t 4)) (C := RX0) (T := TX0) (N := 12) hx hb hts inX0 hown hK hP 4 (heX_4 ca a t) rfl 10 (by decide) (hts _ kw_197) (fun _ h9 => h9) rfl dX0_compare_41 ?_
  refine lv_iload_n hx hb dX0_compare_44 rfl (lv_at hl 1 rfl) ?_
  obtain ⟨v_2, t_1, g_45, hf⟩ := fb_bs hf
  refine fw_S2 (As := [.int x1]) (rest := [.long (st_J t 4), .ref (a 4)]) (n := 1) C (c_X_X10_bit (l := l) (D := D) (ca := ca) (a := a) g_45) kw_456 kw_408 kw_92 kw_409 hP hS hl rfl rfl (by decide) (by decide +kernel) ⟨Nat.le_of_ble_eq_true rfl, Nat.le_of_ble_eq_true rfl⟩ rfl rfl (Nat.le_of_ble_eq_true rfl) dX0_compare_45 (fun H locs hP hS => ?_)
  refine W.eq (g2 := F0 m 48 ls [.long v_2, .long (st_J t 4), .ref (a 4)]) rfl ?_
  refine lv_lor hx hb dX0_compare_48 ?_
  refine va_put (D := D) (ci := 0) (v := .long ((st_J t 4) ||| v_2)) (ty := .long) (C := RX0) (T := TX0) (N := 12) hx hb hts inX0 tyX0 tyX0_ok nmX0 hown hK hP (hD t_1) hS 4 (heX_4 ca a t_1) rfl 10 (by decide) (hts _ kw_197) (fun _ h9 => h9) rfl (by decide +kernel) rfl rfl (Nat.le_of_ble_eq_true rfl) dX0_compare_49 (fun H locs hP _ hS => ?_)
  rw [suX_4_10] at hP
  obtain ⟨t_3, e_49, hf⟩ := fb_ls hf
  rw [← e_49] at hP
  exact w_X_X0_compare__4_5_52 C hr hf hP hS (lv_sub hl [] rfl)
set_option maxRecDepth 20000 in
theorem w_X_X0_compare__4_5_23 {p : Program} {l : Launch} {e : Env} {s : State} {m : MethodId} {args : Array Value} {below : List Frame} {meth : Method} {c : Code} {A : Nat → Prop} {Q : State → Prop} {D : va_G} {ca : Nat → ClassId} {a : Nat → Nat} {u : fw_S}  (C : CX (WX ca a) D (tyv ca) p s m args c A prog_2_method_8_code 3 RX0) (hr : True → RX (WX ca a) D p l e rm_X_X0_compare__4_5 s m args below meth c A prog_2_method_8_code Q .return_ [] u) {t : fw_S} {x1 : Int32} {H : Heap} {locs : List Loc} {ls : Array Slot} (hf : b_X_X0_compare__4_5_23  t x1 = some u) (hP : va_P D classes (WX ca a t) H) (hS : va_S A s.heap H locs) (hl : lv_has ls 3 [(0, .ref (a 4)), (1, .int x1), (2, .ref (a 5))]) : W p l e rm_X_X0_compare__4_5 s m args below meth c H locs 0 0 Q (F0 m 23 ls []) := by
  obtain ⟨hx, hb, hml, hown, hts, hN, hK, hD, hA⟩ := id C
  have hf : (fb_g (¬ (x1 < 0 ∨ 32 ≤ x1.toNatClampNeg)) (fb_g (¬ (x1 < 0 ∨ 32 ≤ x1.toNatClampNeg)) (if (lg_cmp (st_G t 0 x1.toNatClampNeg) (st_G t 2 x1.toNatClampNeg)) = 0 then b_X_X0_compare__4_5_52 t else b_X_X0_compare__4_5_39 t x1))) = some u := hf
  refine lv_aload_n hx hb dX0_compare_23 rfl (lv_at hl 0 rfl) ?_
  refine va_get (D := D) (ci := 0) (v := .ref (a 23)) (C := RX0) (T := TX0) (N := 12) hx hb hts inX0 hown hK hP 4 (heX_4 ca a t) rfl 1 (by decide) (hts _ kw_188) (fun _ h9 => h9) rfl dX0_compare_24 ?_
  refine lv_iload_n hx hb dX0_compare_27 rfl (lv_at hl 1 rfl) ?_
  obtain ⟨h_28, hf⟩ := fb_if hf
  refine va_lald hx hb hK hP 23 1 (haX_23 ca a t) rfl h_28 dX0_compare_28 ?_
  refine lv_aload_n hx hb dX0_compare_29 rfl (lv_at hl 2 rfl) ?_
  refine va_get (D := D) (ci := 0) (v := .ref (a 33)) (C := RX0) (T := TX0) (N := 12) hx hb hts inX0 hown hK hP 5 (heX_5 ca a t) rfl 1 (by decide) (hts _ kw_188) (fun _ h9 => h9) rfl dX0_compare_30 ?_
  refine lv_iload_n hx hb dX0_compare_33 rfl (lv_at hl 1 rfl) ?_
  obtain ⟨h_34, hf⟩ := fb_if hf
  refine va_lald hx hb hK hP 33 1 (haX_33 ca a t) rfl h_34 dX0_compare_34 ?_
  refine W.lcmp hx hb dX0_compare_35 ?_
  refine lv_if_eq (tgt := 52) hx hb dX0_compare_36 (by decide) (fun h_36 => ?_) (fun h_36 => ?_)
  · have hf := fb_t h_36 hf
    exact w_X_X0_compare__4_5_52 C hr hf hP hS (lv_sub hl [] rfl)
  · have hf := fb_f h_36 hf
    exact w_X_X0_compare__4_5_39 C hr hf hP hS (lv_sub hl [0, 1] rfl)
set_option maxRecDepth 20000 in
theorem w_X_X0_compare__4_5_8 {p : Program} {l : Launch} {e : Env} {s : State} {m : MethodId} {args : Array Value} {below : List Frame} {meth : Method} {c : Code} {A : Nat → Prop} {Q : State → Prop} {D : va_G} {ca : Nat → ClassId} {a : Nat → Nat} {u : fw_S}  (C : CX (WX ca a) D (tyv ca) p s m args c A prog_2_method_8_code 3 RX0) (hr : True → RX (WX ca a) D p l e rm_X_X0_compare__4_5 s m args below meth c A prog_2_method_8_code Q .return_ [] u) {t : fw_S} {x1 : Int32} {H : Heap} {locs : List Loc} {ls : Array Slot} (hf : b_X_X0_compare__4_5_8  t x1 = some u) (hP : va_P D classes (WX ca a t) H) (hS : va_S A s.heap H locs) (hl : lv_has ls 3 [(0, .ref (a 4)), (1, .int x1), (2, .ref (a 5))]) : W p l e rm_X_X0_compare__4_5 s m args below meth c H locs 0 0 Q (F0 m 8 ls []) := by
  obtain ⟨hx, hb, hml, hown, hts, hN, hK, hD, hA⟩ := id C
  have hf : (fb_g (¬ (x1 < 0 ∨ 32 ≤ x1.toNatClampNeg)) (fb_g (¬ (x1 < 0 ∨ 32 ≤ x1.toNatClampNeg)) (if (st_F t 9 x1.toNatClampNeg) = (st_F t 16 x1.toNatClampNeg) then b_X_X0_compare__4_5_23 t x1 else b_X_X0_compare__4_5_39 t x1))) = some u := hf
  refine lv_aload_n hx hb dX0_compare_8 rfl (lv_at hl 0 rfl) ?_
  refine va_get (D := D) (ci := 0) (v := .ref (a 24)) (C := RX0) (T := TX0) (N := 12) hx hb hts inX0 hown hK hP 4 (heX_4 ca a t) rfl 2 (by decide) (hts _ kw_189) (fun _ h9 => h9) rfl dX0_compare_9 ?_
  refine lv_iload_n hx hb dX0_compare_12 rfl (lv_at hl 1 rfl) ?_
  obtain ⟨h_13, hf⟩ := fb_if hf
  refine va_iald hx hb hK hP 24 0 (haX_24 ca a t) rfl h_13 dX0_compare_13 ?_
  refine lv_aload_n hx hb dX0_compare_14 rfl (lv_at hl 2 rfl) ?_
  refine va_get (D := D) (ci := 0) (v := .ref (a 34)) (C := RX0) (T := TX0) (N := 12) hx hb hts inX0 hown hK hP 5 (heX_5 ca a t) rfl 2 (by decide) (hts _ kw_189) (fun _ h9 => h9) rfl dX0_compare_15 ?_
  refine lv_iload_n hx hb dX0_compare_18 rfl (lv_at hl 1 rfl) ?_
  obtain ⟨h_19, hf⟩ := fb_if hf
  refine va_iald hx hb hK hP 34 0 (haX_34 ca a t) rfl h_19 dX0_compare_19 ?_
  refine lv_icmp_ne (tgt := 39) hx hb dX0_compare_20 (by decide) (fun h_20 => ?_) (fun h_20 => ?_)
  · have hf := fb_f h_20 hf
    exact w_X_X0_compare__4_5_39 C hr hf hP hS (lv_sub hl [0, 1] rfl)
  · have hf := fb_t h_20 hf
    exact w_X_X0_compare__4_5_23 C hr hf hP hS (lv_sub hl [0, 1, 2] rfl)
set_option maxRecDepth 20000 in
theorem w_X_X0_compare__4_5_0 {p : Program} {l : Launch} {e : Env} {s : State} {m : MethodId} {args : Array Value} {below : List Frame} {meth : Method} {c : Code} {A : Nat → Prop} {Q : State → Prop} {D : va_G} {ca : Nat → ClassId} {a : Nat → Nat} {u : fw_S}  (C : CX (WX ca a) D (tyv ca) p s m args c A prog_2_method_8_code 3 RX0) (hr : True → RX (WX ca a) D p l e rm_X_X0_compare__4_5 s m args below meth c A prog_2_method_8_code Q .return_ [] u) {t : fw_S} {x1 : Int32} {H : Heap} {locs : List Loc} {ls : Array Slot} (hf : b_X_X0_compare__4_5_0  t x1 = some u) (hP : va_P D classes (WX ca a t) H) (hS : va_S A s.heap H locs) (hl : lv_has ls 3 [(0, .ref (a 4)), (1, .int x1), (2, .ref (a 5))]) : W p l e rm_X_X0_compare__4_5 s m args below meth c H locs 0 0 Q (F0 m 0 ls []) := by
  obtain ⟨hx, hb, hml, hown, hts, hN, hK, hD, hA⟩ := id C
  have hf : (fb_b (f_X_X10_isCell t x1.toInt64) fun v_2 t_1 => (if v_2 = 0 then b_X_X0_compare__4_5_52 t_1 else b_X_X0_compare__4_5_8 t_1 x1)) = some u := hf
  refine lv_iload_n hx hb dX0_compare_0 rfl (lv_at hl 1 rfl) ?_
  refine lv_i2l hx hb dX0_compare_1 rfl ?_
  obtain ⟨v_2, t_1, g_2, hf⟩ := fb_bs hf
  refine fw_S2 (As := [.long x1.toInt64]) (rest := []) (n := 1) C (c_X_X10_isCell (l := l) (D := D) (ca := ca) (a := a) g_2) kw_429 kw_399 kw_92 kw_400 hP hS hl rfl rfl (by decide) (by decide +kernel) ⟨Nat.le_of_ble_eq_true rfl, Nat.le_of_ble_eq_true rfl⟩ rfl rfl (Nat.le_of_ble_eq_true rfl) dX0_compare_2 (fun H locs hP hS => ?_)
  refine W.eq (g2 := F0 m 5 ls [.int v_2]) rfl ?_
  refine lv_if_eq (tgt := 52) hx hb dX0_compare_5 (by decide) (fun h_5 => ?_) (fun h_5 => ?_)
  · have hf := fb_t h_5 hf
    exact w_X_X0_compare__4_5_52 C hr hf hP hS (lv_sub hl [] rfl)
  · have hf := fb_f h_5 hf
    exact w_X_X0_compare__4_5_8 C hr hf hP hS (lv_sub hl [0, 1, 2] rfl)
set_option maxRecDepth 20000 in
theorem c_X_X0_compare__4_5 {l : Launch} {D : va_G} {ca : Nat → ClassId} {a : Nat → Nat} {t : fw_S} {x1 : Int32} {u : fw_S} (hf : f_X_X0_compare__4_5 t x1 = some u) : MC (WX ca a) D (tyv ca) l yX0_compare (.code yX0_compare prog_2_method_8_code 3 none :: lw_gd) rm_X_X0_compare__4_5 [.ref (a 4), .int x1, .ref (a 5)] none t u := by
  refine fw_met (okX ca a) (by decide +kernel) rfl rfl (Nat.le_of_ble_eq_true rfl) ?_
  intro p e s m args below meth c A Q ls C hr hk hP hS hl hQ
  exact w_X_X0_compare__4_5_0 C (fun _ => fw_rv C hr hk hQ) hf hP hS (lv_sub hl [0, 1, 2] rfl)
/-! ReactiveSheet.Cells.startRun(II)V ['x.engine.now'] -/
abbrev rm_X_X0_startRun__4 : Room := { frames := 1, cells := 0, slots := 0, locals := 21 }
def b_X_X0_startRun__4_52  (t : fw_S)  : Option fw_S := some t
def b_X_X0_startRun__4_8  (t : fw_S) (x1 : Int32) (x2 : Int32) : Option fw_S := fb_b (f_X_X10_bit t x1) fun v_2 t_1 => (fb_l (up_J t_1 5 ((st_J t 5) ||| v_2)) fun t_3 => (fb_g (¬ (x1 < 0 ∨ 32 ≤ x1.toNatClampNeg)) (fb_l (up_F t_3 12 (upd (st_F t_3 12) x1.toNatClampNeg x2)) fun t_4 => (fb_g (¬ (x1 < 0 ∨ 32 ≤ x1.toNatClampNeg)) (fb_g (¬ (x1 < 0 ∨ 32 ≤ x1.toNatClampNeg)) (fb_l (up_F t_4 10 (upd (st_F t_4 10) x1.toNatClampNeg ((st_F t_4 10 x1.toNatClampNeg) + ((1 : Int32))))) fun t_5 => (fb_g (¬ (x1 < 0 ∨ 32 ≤ x1.toNatClampNeg)) (fb_l (up_F t_5 14 (upd (st_F t_5 14) x1.toNatClampNeg ((0 : Int32)))) fun t_6 => (fb_g (¬ (x1 < 0 ∨ 32 ≤ x1.toNatClampNeg)) (fb_l (up_G t_6 1 (vp_updL (st_G t_6 1) x1.toNatClampNeg ((0 : Int64)))) fun t_7 => (b_X_X0_startRun__4_52 t_7)))))))))))
def b_X_X0_startRun__4_0  (t : fw_S) (x1 : Int32) (x2 : Int32) : Option fw_S := fb_b (f_X_X10_isCell t x1.toInt64) fun v_2 t_1 => (if v_2 = 0 then b_X_X0_startRun__4_52 t_1 else b_X_X0_startRun__4_8 t_1 x1 x2)
def f_X_X0_startRun__4 (t : fw_S) (x1 : Int32) (x2 : Int32) : Option fw_S := b_X_X0_startRun__4_0 t x1 x2
set_option maxRecDepth 20000 in
theorem w_X_X0_startRun__4_52 {p : Program} {l : Launch} {e : Env} {s : State} {m : MethodId} {args : Array Value} {below : List Frame} {meth : Method} {c : Code} {A : Nat → Prop} {Q : State → Prop} {D : va_G} {ca : Nat → ClassId} {a : Nat → Nat} {u : fw_S}  (C : CX (WX ca a) D (tyv ca) p s m args c A prog_2_method_5_code 3 RX0) (hr : True → RX (WX ca a) D p l e rm_X_X0_startRun__4 s m args below meth c A prog_2_method_5_code Q .return_ [] u) {t : fw_S}  {H : Heap} {locs : List Loc} {ls : Array Slot} (hf : b_X_X0_startRun__4_52  t  = some u) (hP : va_P D classes (WX ca a t) H) (hS : va_S A s.heap H locs) (hl : lv_has ls 3 []) : W p l e rm_X_X0_startRun__4 s m args below meth c H locs 0 0 Q (F0 m 52 ls []) := by
  obtain ⟨hx, hb, hml, hown, hts, hN, hK, hD, hA⟩ := id C
  have hf : (some t) = some u := hf
  have e_52 := fb_ev hf
  subst e_52
  exact hr trivial _ _ _ _ hP hS dX0_startRun_52
set_option maxRecDepth 20000 in
theorem w_X_X0_startRun__4_8 {p : Program} {l : Launch} {e : Env} {s : State} {m : MethodId} {args : Array Value} {below : List Frame} {meth : Method} {c : Code} {A : Nat → Prop} {Q : State → Prop} {D : va_G} {ca : Nat → ClassId} {a : Nat → Nat} {u : fw_S}  (C : CX (WX ca a) D (tyv ca) p s m args c A prog_2_method_5_code 3 RX0) (hr : True → RX (WX ca a) D p l e rm_X_X0_startRun__4 s m args below meth c A prog_2_method_5_code Q .return_ [] u) {t : fw_S} {x1 : Int32} {x2 : Int32} {H : Heap} {locs : List Loc} {ls : Array Slot} (hf : b_X_X0_startRun__4_8  t x1 x2 = some u) (hP : va_P D classes (WX ca a t) H) (hS : va_S A s.heap H locs) (hl : lv_has ls 3 [(0, .ref (a 4)), (1, .int x1), (2, .int x2)]) : W p l e rm_X_X0_startRun__4 s m args below meth c H locs 0 0 Q (F0 m 8 ls []) := by
  obtain ⟨hx, hb, hml, hown, hts, hN, hK, hD, hA⟩ := id C
  have hf : (fb_b (f_X_X10_bit t x1) fun v_2 t_1 => (fb_l (up_J t_1 5 ((st_J t 5) ||| v_2)) fun t_3 => (fb_g (¬ (x1 < 0 ∨ 32 ≤ x1.toNatClampNeg)) (fb_l (up_F t_3 12 (upd (st_F t_3 12) x1.toNatClampNeg x2)) fun t_4 => (fb_g (¬ (x1 < 0 ∨ 32 ≤ x1.toNatClampNeg)) (fb_g (¬ (x1 < 0 ∨ 32 ≤ x1.toNatClampNeg)) (fb_l (up_F t_4 10 (upd (st_F t_4 10) x1.toNatClampNeg ((st_F t_4 10 x1.toNatClampNeg) + ((1 : Int32))))) fun t_5 => (fb_g (¬ (x1 < 0 ∨ 32 ≤ x1.toNatClampNeg)) (fb_l (up_F t_5 14 (upd (st_F t_5 14) x1.toNatClampNeg ((0 : Int32)))) fun t_6 => (fb_g (¬ (x1 < 0 ∨ 32 ≤ x1.toNatClampNeg)) (fb_l (up_G t_6 1 (vp_updL (st_G t_6 1) x1.toNatClampNeg ((0 : Int64)))) fun t_7 => (b_X_X0_startRun__4_52 t_7)))))))))))) = some u := hf
  refine lv_aload_n hx hb dX0_startRun_8 rfl (lv_at hl 0 rfl) ?_
  refine lv_dup hx hb dX0_startRun_9 rfl ?_
  refine va_get (D := D) (ci := 0) (v := .long (st_J t 5)) (C := RX0) (T := TX0) (N := 12) hx hb hts inX0 hown hK hP 4 (heX_4 ca a t) rfl 11 (by decide) (hts _ kw_198) (fun _ h9 => h9) rfl dX0_startRun_10 ?_
  refine lv_iload_n hx hb dX0_startRun_13 rfl (lv_at hl 1 rfl) ?_
  obtain ⟨v_2, t_1, g_14, hf⟩ := fb_bs hf
  refine fw_S2 (As := [.int x1]) (rest := [.long (st_J t 5), .ref (a 4)]) (n := 1) C (c_X_X10_bit (l := l) (D := D) (ca := ca) (a := a) g_14) kw_456 kw_408 kw_92 kw_409 hP hS hl rfl rfl (by decide) (by decide +kernel) ⟨Nat.le_of_ble_eq_true rfl, Nat.le_of_ble_eq_true rfl⟩ rfl rfl (Nat.le_of_ble_eq_true rfl) dX0_startRun_14 (fun H locs hP hS => ?_)
  refine W.eq (g2 := F0 m 17 ls [.long v_2, .long (st_J t 5), .ref (a 4)]) rfl ?_
  refine lv_lor hx hb dX0_startRun_17 ?_
  refine va_put (D := D) (ci := 0) (v := .long ((st_J t 5) ||| v_2)) (ty := .long) (C := RX0) (T := TX0) (N := 12) hx hb hts inX0 tyX0 tyX0_ok nmX0 hown hK hP (hD t_1) hS 4 (heX_4 ca a t_1) rfl 11 (by decide) (hts _ kw_198) (fun _ h9 => h9) rfl (by decide +kernel) rfl rfl (Nat.le_of_ble_eq_true rfl) dX0_startRun_18 (fun H locs hP _ hS => ?_)
  rw [suX_4_11] at hP
  obtain ⟨t_3, e_18, hf⟩ := fb_ls hf
  rw [← e_18] at hP
  refine lv_aload_n hx hb dX0_startRun_21 rfl (lv_at hl 0 rfl) ?_
  refine va_get (D := D) (ci := 0) (v := .ref (a 28)) (C := RX0) (T := TX0) (N := 12) hx hb hts inX0 hown hK hP 4 (heX_4 ca a t_3) rfl 6 (by decide) (hts _ kw_193) (fun _ h9 => h9) rfl dX0_startRun_22 ?_
  refine lv_iload_n hx hb dX0_startRun_25 rfl (lv_at hl 1 rfl) ?_
  refine lv_iload_n hx hb dX0_startRun_26 rfl (lv_at hl 2 rfl) ?_
  obtain ⟨h_27, hf⟩ := fb_if hf
  refine va_iast hx hb hK hP (hD t_3) hS 28 0 (haX_28 ca a t_3) rfl h_27 dX0_startRun_27 (fun H locs hP _ hS => ?_)
  rw [saX_28] at hP
  obtain ⟨t_4, e_27, hf⟩ := fb_ls hf
  rw [← e_27] at hP
  refine lv_aload_n hx hb dX0_startRun_28 rfl (lv_at hl 0 rfl) ?_
  refine va_get (D := D) (ci := 0) (v := .ref (a 26)) (C := RX0) (T := TX0) (N := 12) hx hb hts inX0 hown hK hP 4 (heX_4 ca a t_4) rfl 4 (by decide) (hts _ kw_191) (fun _ h9 => h9) rfl dX0_startRun_29 ?_
  refine lv_iload_n hx hb dX0_startRun_32 rfl (lv_at hl 1 rfl) ?_
  refine lv_dup2_11 hx hb dX0_startRun_33 rfl rfl ?_
  obtain ⟨h_34, hf⟩ := fb_if hf
  refine va_iald hx hb hK hP 26 0 (haX_26 ca a t_4) rfl h_34 dX0_startRun_34 ?_
  refine lv_iconst (v := 1) hx hb dX0_startRun_35 (by decide) ?_
  refine lv_iadd hx hb dX0_startRun_36 ?_
  obtain ⟨h_37, hf⟩ := fb_if hf
  refine va_iast hx hb hK hP (hD t_4) hS 26 0 (haX_26 ca a t_4) rfl h_37 dX0_startRun_37 (fun H locs hP _ hS => ?_)
  rw [saX_26] at hP
  obtain ⟨t_5, e_37, hf⟩ := fb_ls hf
  rw [← e_37] at hP
  refine lv_aload_n hx hb dX0_startRun_38 rfl (lv_at hl 0 rfl) ?_
  refine va_get (D := D) (ci := 0) (v := .ref (a 30)) (C := RX0) (T := TX0) (N := 12) hx hb hts inX0 hown hK hP 4 (heX_4 ca a t_5) rfl 8 (by decide) (hts _ kw_195) (fun _ h9 => h9) rfl dX0_startRun_39 ?_
  refine lv_iload_n hx hb dX0_startRun_42 rfl (lv_at hl 1 rfl) ?_
  refine lv_iconst (v := 0) hx hb dX0_startRun_43 (by decide) ?_
  obtain ⟨h_44, hf⟩ := fb_if hf
  refine va_iast hx hb hK hP (hD t_5) hS 30 0 (haX_30 ca a t_5) rfl h_44 dX0_startRun_44 (fun H locs hP _ hS => ?_)
  rw [saX_30] at hP
  obtain ⟨t_6, e_44, hf⟩ := fb_ls hf
  rw [← e_44] at hP
  refine lv_aload_n hx hb dX0_startRun_45 rfl (lv_at hl 0 rfl) ?_
  refine va_get (D := D) (ci := 0) (v := .ref (a 31)) (C := RX0) (T := TX0) (N := 12) hx hb hts inX0 hown hK hP 4 (heX_4 ca a t_6) rfl 9 (by decide) (hts _ kw_196) (fun _ h9 => h9) rfl dX0_startRun_46 ?_
  refine lv_iload_n hx hb dX0_startRun_49 rfl (lv_at hl 1 rfl) ?_
  refine lv_lconst (v := 0) hx hb dX0_startRun_50 (by decide) ?_
  obtain ⟨h_51, hf⟩ := fb_if hf
  refine va_last hx hb hK hP (hD t_6) hS 31 1 (haX_31 ca a t_6) rfl h_51 dX0_startRun_51 (fun H locs hP _ hS => ?_)
  rw [saX_31] at hP
  obtain ⟨t_7, e_51, hf⟩ := fb_ls hf
  rw [← e_51] at hP
  exact w_X_X0_startRun__4_52 C hr hf hP hS (lv_sub hl [] rfl)
set_option maxRecDepth 20000 in
theorem w_X_X0_startRun__4_0 {p : Program} {l : Launch} {e : Env} {s : State} {m : MethodId} {args : Array Value} {below : List Frame} {meth : Method} {c : Code} {A : Nat → Prop} {Q : State → Prop} {D : va_G} {ca : Nat → ClassId} {a : Nat → Nat} {u : fw_S}  (C : CX (WX ca a) D (tyv ca) p s m args c A prog_2_method_5_code 3 RX0) (hr : True → RX (WX ca a) D p l e rm_X_X0_startRun__4 s m args below meth c A prog_2_method_5_code Q .return_ [] u) {t : fw_S} {x1 : Int32} {x2 : Int32} {H : Heap} {locs : List Loc} {ls : Array Slot} (hf : b_X_X0_startRun__4_0  t x1 x2 = some u) (hP : va_P D classes (WX ca a t) H) (hS : va_S A s.heap H locs) (hl : lv_has ls 3 [(0, .ref (a 4)), (1, .int x1), (2, .int x2)]) : W p l e rm_X_X0_startRun__4 s m args below meth c H locs 0 0 Q (F0 m 0 ls []) := by
  obtain ⟨hx, hb, hml, hown, hts, hN, hK, hD, hA⟩ := id C
  have hf : (fb_b (f_X_X10_isCell t x1.toInt64) fun v_2 t_1 => (if v_2 = 0 then b_X_X0_startRun__4_52 t_1 else b_X_X0_startRun__4_8 t_1 x1 x2)) = some u := hf
  refine lv_iload_n hx hb dX0_startRun_0 rfl (lv_at hl 1 rfl) ?_
  refine lv_i2l hx hb dX0_startRun_1 rfl ?_
  obtain ⟨v_2, t_1, g_2, hf⟩ := fb_bs hf
  refine fw_S2 (As := [.long x1.toInt64]) (rest := []) (n := 1) C (c_X_X10_isCell (l := l) (D := D) (ca := ca) (a := a) g_2) kw_429 kw_399 kw_92 kw_400 hP hS hl rfl rfl (by decide) (by decide +kernel) ⟨Nat.le_of_ble_eq_true rfl, Nat.le_of_ble_eq_true rfl⟩ rfl rfl (Nat.le_of_ble_eq_true rfl) dX0_startRun_2 (fun H locs hP hS => ?_)
  refine W.eq (g2 := F0 m 5 ls [.int v_2]) rfl ?_
  refine lv_if_eq (tgt := 52) hx hb dX0_startRun_5 (by decide) (fun h_5 => ?_) (fun h_5 => ?_)
  · have hf := fb_t h_5 hf
    exact w_X_X0_startRun__4_52 C hr hf hP hS (lv_sub hl [] rfl)
  · have hf := fb_f h_5 hf
    exact w_X_X0_startRun__4_8 C hr hf hP hS (lv_sub hl [0, 1, 2] rfl)
set_option maxRecDepth 20000 in
theorem c_X_X0_startRun__4 {l : Launch} {D : va_G} {ca : Nat → ClassId} {a : Nat → Nat} {t : fw_S} {x1 : Int32} {x2 : Int32} {u : fw_S} (hf : f_X_X0_startRun__4 t x1 x2 = some u) : MC (WX ca a) D (tyv ca) l yX0_startRun (.code yX0_startRun prog_2_method_5_code 3 none :: lw_gd) rm_X_X0_startRun__4 [.ref (a 4), .int x1, .int x2] none t u := by
  refine fw_met (okX ca a) (by decide +kernel) rfl rfl (Nat.le_of_ble_eq_true rfl) ?_
  intro p e s m args below meth c A Q ls C hr hk hP hS hl hQ
  exact w_X_X0_startRun__4_0 C (fun _ => fw_rv C hr hk hQ) hf hP hS (lv_sub hl [0, 1, 2] rfl)
/-! ReactiveSheet.Cells.formulaOf(I)LReactiveSheet.Formula; ['x.engine.now'] -/
abbrev rm_X_X0_formulaOf__4 : Room := { frames := 1, cells := 0, slots := 0, locals := 21 }
def b_X_X0_formulaOf__4_18  (t : fw_S)  : Option fw_S := some t
def b_X_X0_formulaOf__4_17  (t : fw_S)  : Option fw_S := b_X_X0_formulaOf__4_18 t
def b_X_X0_formulaOf__4_8  (t : fw_S) (x1 : Int32) : Option fw_S := fb_g (¬ (x1 < 0 ∨ 32 ≤ x1.toNatClampNeg)) (b_X_X0_formulaOf__4_18 t)
def b_X_X0_formulaOf__4_0  (t : fw_S) (x1 : Int32) : Option fw_S := fb_b (f_X_X10_isCell t x1.toInt64) fun v_2 t_1 => (if v_2 = 0 then b_X_X0_formulaOf__4_17 t_1 else b_X_X0_formulaOf__4_8 t_1 x1)
def f_X_X0_formulaOf__4 (t : fw_S) (x1 : Int32) : Option fw_S := b_X_X0_formulaOf__4_0 t x1
set_option maxRecDepth 20000 in
theorem w_X_X0_formulaOf__4_18 {p : Program} {l : Launch} {e : Env} {s : State} {m : MethodId} {args : Array Value} {below : List Frame} {meth : Method} {c : Code} {A : Nat → Prop} {Q : State → Prop} {D : va_G} {ca : Nat → ClassId} {a : Nat → Nat} {u : fw_S}  (C : CX (WX ca a) D (tyv ca) p s m args c A prog_2_method_13_code 2 RX0) (hr : True → RX (WX ca a) D p l e rm_X_X0_formulaOf__4 s m args below meth c A prog_2_method_13_code Q .areturn [.null] u) {t : fw_S}  {H : Heap} {locs : List Loc} {ls : Array Slot} (hf : b_X_X0_formulaOf__4_18  t  = some u) (hP : va_P D classes (WX ca a t) H) (hS : va_S A s.heap H locs) (hl : lv_has ls 2 []) : W p l e rm_X_X0_formulaOf__4 s m args below meth c H locs 0 0 Q (F0 m 18 ls [.null]) := by
  obtain ⟨hx, hb, hml, hown, hts, hN, hK, hD, hA⟩ := id C
  have hf : (some t) = some u := hf
  have e_18 := fb_ev hf
  subst e_18
  exact hr trivial _ _ _ _ hP hS dX0_formulaOf_18
set_option maxRecDepth 20000 in
theorem w_X_X0_formulaOf__4_17 {p : Program} {l : Launch} {e : Env} {s : State} {m : MethodId} {args : Array Value} {below : List Frame} {meth : Method} {c : Code} {A : Nat → Prop} {Q : State → Prop} {D : va_G} {ca : Nat → ClassId} {a : Nat → Nat} {u : fw_S}  (C : CX (WX ca a) D (tyv ca) p s m args c A prog_2_method_13_code 2 RX0) (hr : True → RX (WX ca a) D p l e rm_X_X0_formulaOf__4 s m args below meth c A prog_2_method_13_code Q .areturn [.null] u) {t : fw_S}  {H : Heap} {locs : List Loc} {ls : Array Slot} (hf : b_X_X0_formulaOf__4_17  t  = some u) (hP : va_P D classes (WX ca a t) H) (hS : va_S A s.heap H locs) (hl : lv_has ls 2 []) : W p l e rm_X_X0_formulaOf__4 s m args below meth c H locs 0 0 Q (F0 m 17 ls []) := by
  obtain ⟨hx, hb, hml, hown, hts, hN, hK, hD, hA⟩ := id C
  have hf : (b_X_X0_formulaOf__4_18 t) = some u := hf
  refine lv_null hx hb dX0_formulaOf_17 ?_
  exact w_X_X0_formulaOf__4_18 C hr hf hP hS (lv_sub hl [] rfl)
set_option maxRecDepth 20000 in
theorem w_X_X0_formulaOf__4_8 {p : Program} {l : Launch} {e : Env} {s : State} {m : MethodId} {args : Array Value} {below : List Frame} {meth : Method} {c : Code} {A : Nat → Prop} {Q : State → Prop} {D : va_G} {ca : Nat → ClassId} {a : Nat → Nat} {u : fw_S}  (C : CX (WX ca a) D (tyv ca) p s m args c A prog_2_method_13_code 2 RX0) (hr : True → RX (WX ca a) D p l e rm_X_X0_formulaOf__4 s m args below meth c A prog_2_method_13_code Q .areturn [.null] u) {t : fw_S} {x1 : Int32} {H : Heap} {locs : List Loc} {ls : Array Slot} (hf : b_X_X0_formulaOf__4_8  t x1 = some u) (hP : va_P D classes (WX ca a t) H) (hS : va_S A s.heap H locs) (hl : lv_has ls 2 [(0, .ref (a 4)), (1, .int x1)]) : W p l e rm_X_X0_formulaOf__4 s m args below meth c H locs 0 0 Q (F0 m 8 ls []) := by
  obtain ⟨hx, hb, hml, hown, hts, hN, hK, hD, hA⟩ := id C
  have hf : (fb_g (¬ (x1 < 0 ∨ 32 ≤ x1.toNatClampNeg)) (b_X_X0_formulaOf__4_18 t)) = some u := hf
  refine lv_aload_n hx hb dX0_formulaOf_8 rfl (lv_at hl 0 rfl) ?_
  refine va_get (D := D) (ci := 0) (v := .ref (a 25)) (C := RX0) (T := TX0) (N := 12) hx hb hts inX0 hown hK hP 4 (heX_4 ca a t) rfl 3 (by decide) (hts _ kw_190) (fun _ h9 => h9) rfl dX0_formulaOf_9 ?_
  refine lv_iload_n hx hb dX0_formulaOf_12 rfl (lv_at hl 1 rfl) ?_
  obtain ⟨h_13, hf⟩ := fb_if hf
  refine va_aldq hx hb hK hP 25 3 (haX_25 ca a t) rfl h_13 dX0_formulaOf_13 ?_
  refine lv_goto (tgt := 18) hx hb dX0_formulaOf_14 (by decide) ?_
  exact w_X_X0_formulaOf__4_18 C hr hf hP hS (lv_sub hl [] rfl)
set_option maxRecDepth 20000 in
theorem w_X_X0_formulaOf__4_0 {p : Program} {l : Launch} {e : Env} {s : State} {m : MethodId} {args : Array Value} {below : List Frame} {meth : Method} {c : Code} {A : Nat → Prop} {Q : State → Prop} {D : va_G} {ca : Nat → ClassId} {a : Nat → Nat} {u : fw_S}  (C : CX (WX ca a) D (tyv ca) p s m args c A prog_2_method_13_code 2 RX0) (hr : True → RX (WX ca a) D p l e rm_X_X0_formulaOf__4 s m args below meth c A prog_2_method_13_code Q .areturn [.null] u) {t : fw_S} {x1 : Int32} {H : Heap} {locs : List Loc} {ls : Array Slot} (hf : b_X_X0_formulaOf__4_0  t x1 = some u) (hP : va_P D classes (WX ca a t) H) (hS : va_S A s.heap H locs) (hl : lv_has ls 2 [(0, .ref (a 4)), (1, .int x1)]) : W p l e rm_X_X0_formulaOf__4 s m args below meth c H locs 0 0 Q (F0 m 0 ls []) := by
  obtain ⟨hx, hb, hml, hown, hts, hN, hK, hD, hA⟩ := id C
  have hf : (fb_b (f_X_X10_isCell t x1.toInt64) fun v_2 t_1 => (if v_2 = 0 then b_X_X0_formulaOf__4_17 t_1 else b_X_X0_formulaOf__4_8 t_1 x1)) = some u := hf
  refine lv_iload_n hx hb dX0_formulaOf_0 rfl (lv_at hl 1 rfl) ?_
  refine lv_i2l hx hb dX0_formulaOf_1 rfl ?_
  obtain ⟨v_2, t_1, g_2, hf⟩ := fb_bs hf
  refine fw_S2 (As := [.long x1.toInt64]) (rest := []) (n := 1) C (c_X_X10_isCell (l := l) (D := D) (ca := ca) (a := a) g_2) kw_429 kw_399 kw_92 kw_400 hP hS hl rfl rfl (by decide) (by decide +kernel) ⟨Nat.le_of_ble_eq_true rfl, Nat.le_of_ble_eq_true rfl⟩ rfl rfl (Nat.le_of_ble_eq_true rfl) dX0_formulaOf_2 (fun H locs hP hS => ?_)
  refine W.eq (g2 := F0 m 5 ls [.int v_2]) rfl ?_
  refine lv_if_eq (tgt := 17) hx hb dX0_formulaOf_5 (by decide) (fun h_5 => ?_) (fun h_5 => ?_)
  · have hf := fb_t h_5 hf
    exact w_X_X0_formulaOf__4_17 C hr hf hP hS (lv_sub hl [] rfl)
  · have hf := fb_f h_5 hf
    exact w_X_X0_formulaOf__4_8 C hr hf hP hS (lv_sub hl [0, 1] rfl)
set_option maxRecDepth 20000 in
theorem c_X_X0_formulaOf__4 {l : Launch} {D : va_G} {ca : Nat → ClassId} {a : Nat → Nat} {t : fw_S} {x1 : Int32} {u : fw_S} (hf : f_X_X0_formulaOf__4 t x1 = some u) : MC (WX ca a) D (tyv ca) l yX0_formulaOf (.code yX0_formulaOf prog_2_method_13_code 2 (some (.object "ReactiveSheet$Formula")) :: lw_gd) rm_X_X0_formulaOf__4 [.ref (a 4), .int x1] (some (.null)) t u := by
  refine fw_met (okX ca a) (by decide +kernel) rfl rfl (Nat.le_of_ble_eq_true rfl) ?_
  intro p e s m args below meth c A Q ls C hr hk hP hS hl hQ
  exact w_X_X0_formulaOf__4_0 C (fun _ => fw_ra C hr hk (Or.inl rfl) hQ) hf hP hS (lv_sub hl [0, 1] rfl)
/-! ReactiveSheet.Engine.run(III)V ['x.engine'] -/
abbrev rm_X_X1_run__3 : Room := { frames := 2, cells := 0, slots := 0, locals := 43 }
def b_X_X1_run__3_24  (t : fw_S)  : Option fw_S := some t
def b_X_X1_run__3_0  (t : fw_S) (x1 : Int32) (x2 : Int32) (x3 : Int32) : Option fw_S := fb_v (f_X_X0_startRun__4 t x1 x2) fun t_1 => (fb_v (f_X_X0_formulaOf__4 t_1 x1) fun t_2 => (b_X_X1_run__3_24 t_2))
def f_X_X1_run__3 (t : fw_S) (x1 : Int32) (x2 : Int32) (x3 : Int32) : Option fw_S := b_X_X1_run__3_0 t x1 x2 x3
set_option maxRecDepth 20000 in
theorem w_X_X1_run__3_24 {p : Program} {l : Launch} {e : Env} {s : State} {m : MethodId} {args : Array Value} {below : List Frame} {meth : Method} {c : Code} {A : Nat → Prop} {Q : State → Prop} {D : va_G} {ca : Nat → ClassId} {a : Nat → Nat} {u : fw_S}  (C : CX (WX ca a) D (tyv ca) p s m args c A prog_3_method_8_code 10 RX1) (hr : True → RX (WX ca a) D p l e rm_X_X1_run__3 s m args below meth c A prog_3_method_8_code Q .return_ [] u) {t : fw_S}  {H : Heap} {locs : List Loc} {ls : Array Slot} (hf : b_X_X1_run__3_24  t  = some u) (hP : va_P D classes (WX ca a t) H) (hS : va_S A s.heap H locs) (hl : lv_has ls 10 []) : W p l e rm_X_X1_run__3 s m args below meth c H locs 0 0 Q (F0 m 24 ls []) := by
  obtain ⟨hx, hb, hml, hown, hts, hN, hK, hD, hA⟩ := id C
  have hf : (some t) = some u := hf
  have e_24 := fb_ev hf
  subst e_24
  exact hr trivial _ _ _ _ hP hS dX1_run_24
set_option maxRecDepth 20000 in
theorem w_X_X1_run__3_0 {p : Program} {l : Launch} {e : Env} {s : State} {m : MethodId} {args : Array Value} {below : List Frame} {meth : Method} {c : Code} {A : Nat → Prop} {Q : State → Prop} {D : va_G} {ca : Nat → ClassId} {a : Nat → Nat} {u : fw_S}  (C : CX (WX ca a) D (tyv ca) p s m args c A prog_3_method_8_code 10 RX1) (hr : True → RX (WX ca a) D p l e rm_X_X1_run__3 s m args below meth c A prog_3_method_8_code Q .return_ [] u) {t : fw_S} {x1 : Int32} {x2 : Int32} {x3 : Int32} {H : Heap} {locs : List Loc} {ls : Array Slot} (hf : b_X_X1_run__3_0  t x1 x2 x3 = some u) (hP : va_P D classes (WX ca a t) H) (hS : va_S A s.heap H locs) (hl : lv_has ls 10 [(0, .ref (a 3)), (1, .int x1), (2, .int x2), (3, .int x3)]) : W p l e rm_X_X1_run__3 s m args below meth c H locs 0 0 Q (F0 m 0 ls []) := by
  obtain ⟨hx, hb, hml, hown, hts, hN, hK, hD, hA⟩ := id C
  have hf : (fb_v (f_X_X0_startRun__4 t x1 x2) fun t_1 => (fb_v (f_X_X0_formulaOf__4 t_1 x1) fun t_2 => (b_X_X1_run__3_24 t_2))) = some u := hf
  refine lv_aload_n hx hb dX1_run_0 rfl (lv_at hl 0 rfl) ?_
  refine va_get (D := D) (ci := 1) (v := .ref (a 4)) (C := RX1) (T := TX1) (N := 8) hx hb hts inX1 hown hK hP 3 (heX_3 ca a t) rfl 0 (by decide) (hts _ kw_225) (fun _ h9 => h9) rfl dX1_run_1 ?_
  refine lv_iload_n hx hb dX1_run_4 rfl (lv_at hl 1 rfl) ?_
  refine lv_iload_n hx hb dX1_run_5 rfl (lv_at hl 2 rfl) ?_
  obtain ⟨t_1, g_6, hf⟩ := fb_vs hf
  refine fw_V1 (As := [.int x1, .int x2]) (rest := []) (n := 2) (q0 := 4) C (c_X_X0_startRun__4 (l := l) (D := D) (ca := ca) (a := a) g_6) kw_485 kw_486 kw_96 kw_488 kw_487 hP hS hl (heX_4 ca a t) rfl rfl rfl (by decide) (by decide +kernel) ⟨Nat.le_of_ble_eq_true rfl, Nat.le_of_ble_eq_true rfl⟩ rfl rfl (Nat.le_of_ble_eq_true rfl) dX1_run_6 (fun H locs hP hS => ?_)
  refine W.eq (g2 := F0 m 9 ls []) rfl ?_
  refine lv_aload_n hx hb dX1_run_9 rfl (lv_at hl 0 rfl) ?_
  refine va_get (D := D) (ci := 1) (v := .ref (a 4)) (C := RX1) (T := TX1) (N := 8) hx hb hts inX1 hown hK hP 3 (heX_3 ca a t_1) rfl 0 (by decide) (hts _ kw_225) (fun _ h9 => h9) rfl dX1_run_10 ?_
  refine lv_iload_n hx hb dX1_run_13 rfl (lv_at hl 1 rfl) ?_
  obtain ⟨t_2, g_14, hf⟩ := fb_vs hf
  refine fw_V1 (As := [.int x1]) (rest := []) (n := 1) (q0 := 4) C (c_X_X0_formulaOf__4 (l := l) (D := D) (ca := ca) (a := a) g_14) kw_489 kw_490 kw_96 kw_492 kw_491 hP hS hl (heX_4 ca a t_1) rfl rfl rfl (by decide) (by decide +kernel) ⟨Nat.le_of_ble_eq_true rfl, Nat.le_of_ble_eq_true rfl⟩ rfl rfl (Nat.le_of_ble_eq_true rfl) dX1_run_14 (fun H locs hP hS => ?_)
  refine W.eq (g2 := F0 m 17 ls [.null]) rfl ?_
  refine lv_astoreN (lv' := [(4, .null), (0, .ref (a 3)), (1, .int x1), (2, .int x2), (3, .int x3)]) hx hb dX1_run_17 hl (by decide) rfl (fun ls hl => ?_)
  refine lv_aloadN hx hb dX1_run_19 (lv_at hl 0 rfl) ?_
  refine lv_ifnonnullN hx hb dX1_run_21 ?_
  exact w_X_X1_run__3_24 C hr hf hP hS (lv_sub hl [] rfl)
set_option maxRecDepth 20000 in
theorem c_X_X1_run__3 {l : Launch} {D : va_G} {ca : Nat → ClassId} {a : Nat → Nat} {t : fw_S} {x1 : Int32} {x2 : Int32} {x3 : Int32} {u : fw_S} (hf : f_X_X1_run__3 t x1 x2 x3 = some u) : MC (WX ca a) D (tyv ca) l yX1_run (.code yX1_run prog_3_method_8_code 10 none :: lw_gd) rm_X_X1_run__3 [.ref (a 3), .int x1, .int x2, .int x3] none t u := by
  refine fw_met (okX ca a) (by decide +kernel) rfl rfl (Nat.le_of_ble_eq_true rfl) ?_
  intro p e s m args below meth c A Q ls C hr hk hP hS hl hQ
  exact w_X_X1_run__3_0 C (fun _ => fw_rv C hr hk hQ) hf hP hS (lv_sub hl [0, 1, 2, 3] rfl)
/-! ReactiveSheet.Cells.heightOf(I)I ['x.engine.now'] -/
abbrev rm_X_X0_heightOf__4 : Room := { frames := 1, cells := 0, slots := 0, locals := 21 }
def b_X_X0_heightOf__4_18  (t : fw_S) (z0 : Int32) : Option (Int32 × fw_S) := some (z0, t)
def b_X_X0_heightOf__4_17  (t : fw_S)  : Option (Int32 × fw_S) := b_X_X0_heightOf__4_18 t ((0 : Int32))
def b_X_X0_heightOf__4_8  (t : fw_S) (x1 : Int32) : Option (Int32 × fw_S) := fb_g (¬ (x1 < 0 ∨ 32 ≤ x1.toNatClampNeg)) (b_X_X0_heightOf__4_18 t (st_F t 11 x1.toNatClampNeg))
def b_X_X0_heightOf__4_0  (t : fw_S) (x1 : Int32) : Option (Int32 × fw_S) := fb_b (f_X_X10_isCell t x1.toInt64) fun v_2 t_1 => (if v_2 = 0 then b_X_X0_heightOf__4_17 t_1 else b_X_X0_heightOf__4_8 t_1 x1)
def f_X_X0_heightOf__4 (t : fw_S) (x1 : Int32) : Option (Int32 × fw_S) := b_X_X0_heightOf__4_0 t x1
set_option maxRecDepth 20000 in
theorem w_X_X0_heightOf__4_18 {p : Program} {l : Launch} {e : Env} {s : State} {m : MethodId} {args : Array Value} {below : List Frame} {meth : Method} {c : Code} {A : Nat → Prop} {Q : State → Prop} {D : va_G} {ca : Nat → ClassId} {a : Nat → Nat} {u : fw_S} {r : Int32}  (C : CX (WX ca a) D (tyv ca) p s m args c A prog_2_method_14_code 2 RX0) (hr : True → RX (WX ca a) D p l e rm_X_X0_heightOf__4 s m args below meth c A prog_2_method_14_code Q .ireturn [.int r] u) {t : fw_S} {z0 : Int32} {H : Heap} {locs : List Loc} {ls : Array Slot} (hf : b_X_X0_heightOf__4_18  t z0 = some (r, u)) (hP : va_P D classes (WX ca a t) H) (hS : va_S A s.heap H locs) (hl : lv_has ls 2 []) : W p l e rm_X_X0_heightOf__4 s m args below meth c H locs 0 0 Q (F0 m 18 ls [.int z0]) := by
  obtain ⟨hx, hb, hml, hown, hts, hN, hK, hD, hA⟩ := id C
  have hf : (some (z0, t)) = some (r, u) := hf
  obtain ⟨e_18, e2_18⟩ := fb_e hf
  subst e_18; subst e2_18
  exact hr trivial _ _ _ _ hP hS dX0_heightOf_18
set_option maxRecDepth 20000 in
theorem w_X_X0_heightOf__4_17 {p : Program} {l : Launch} {e : Env} {s : State} {m : MethodId} {args : Array Value} {below : List Frame} {meth : Method} {c : Code} {A : Nat → Prop} {Q : State → Prop} {D : va_G} {ca : Nat → ClassId} {a : Nat → Nat} {u : fw_S} {r : Int32}  (C : CX (WX ca a) D (tyv ca) p s m args c A prog_2_method_14_code 2 RX0) (hr : True → RX (WX ca a) D p l e rm_X_X0_heightOf__4 s m args below meth c A prog_2_method_14_code Q .ireturn [.int r] u) {t : fw_S}  {H : Heap} {locs : List Loc} {ls : Array Slot} (hf : b_X_X0_heightOf__4_17  t  = some (r, u)) (hP : va_P D classes (WX ca a t) H) (hS : va_S A s.heap H locs) (hl : lv_has ls 2 []) : W p l e rm_X_X0_heightOf__4 s m args below meth c H locs 0 0 Q (F0 m 17 ls []) := by
  obtain ⟨hx, hb, hml, hown, hts, hN, hK, hD, hA⟩ := id C
  have hf : (b_X_X0_heightOf__4_18 t ((0 : Int32))) = some (r, u) := hf
  refine lv_iconst (v := 0) hx hb dX0_heightOf_17 (by decide) ?_
  exact w_X_X0_heightOf__4_18 C hr hf hP hS (lv_sub hl [] rfl)
set_option maxRecDepth 20000 in
theorem w_X_X0_heightOf__4_8 {p : Program} {l : Launch} {e : Env} {s : State} {m : MethodId} {args : Array Value} {below : List Frame} {meth : Method} {c : Code} {A : Nat → Prop} {Q : State → Prop} {D : va_G} {ca : Nat → ClassId} {a : Nat → Nat} {u : fw_S} {r : Int32}  (C : CX (WX ca a) D (tyv ca) p s m args c A prog_2_method_14_code 2 RX0) (hr : True → RX (WX ca a) D p l e rm_X_X0_heightOf__4 s m args below meth c A prog_2_method_14_code Q .ireturn [.int r] u) {t : fw_S} {x1 : Int32} {H : Heap} {locs : List Loc} {ls : Array Slot} (hf : b_X_X0_heightOf__4_8  t x1 = some (r, u)) (hP : va_P D classes (WX ca a t) H) (hS : va_S A s.heap H locs) (hl : lv_has ls 2 [(0, .ref (a 4)), (1, .int x1)]) : W p l e rm_X_X0_heightOf__4 s m args below meth c H locs 0 0 Q (F0 m 8 ls []) := by
  obtain ⟨hx, hb, hml, hown, hts, hN, hK, hD, hA⟩ := id C
  have hf : (fb_g (¬ (x1 < 0 ∨ 32 ≤ x1.toNatClampNeg)) (b_X_X0_heightOf__4_18 t (st_F t 11 x1.toNatClampNeg))) = some (r, u) := hf
  refine lv_aload_n hx hb dX0_heightOf_8 rfl (lv_at hl 0 rfl) ?_
  refine va_get (D := D) (ci := 0) (v := .ref (a 27)) (C := RX0) (T := TX0) (N := 12) hx hb hts inX0 hown hK hP 4 (heX_4 ca a t) rfl 5 (by decide) (hts _ kw_192) (fun _ h9 => h9) rfl dX0_heightOf_9 ?_
  refine lv_iload_n hx hb dX0_heightOf_12 rfl (lv_at hl 1 rfl) ?_
  obtain ⟨h_13, hf⟩ := fb_if hf
  refine va_iald hx hb hK hP 27 0 (haX_27 ca a t) rfl h_13 dX0_heightOf_13 ?_
  refine lv_goto (tgt := 18) hx hb dX0_heightOf_14 (by decide) ?_
  exact w_X_X0_heightOf__4_18 C hr hf hP hS (lv_sub hl [] rfl)
set_option maxRecDepth 20000 in
theorem w_X_X0_heightOf__4_0 {p : Program} {l : Launch} {e : Env} {s : State} {m : MethodId} {args : Array Value} {below : List Frame} {meth : Method} {c : Code} {A : Nat → Prop} {Q : State → Prop} {D : va_G} {ca : Nat → ClassId} {a : Nat → Nat} {u : fw_S} {r : Int32}  (C : CX (WX ca a) D (tyv ca) p s m args c A prog_2_method_14_code 2 RX0) (hr : True → RX (WX ca a) D p l e rm_X_X0_heightOf__4 s m args below meth c A prog_2_method_14_code Q .ireturn [.int r] u) {t : fw_S} {x1 : Int32} {H : Heap} {locs : List Loc} {ls : Array Slot} (hf : b_X_X0_heightOf__4_0  t x1 = some (r, u)) (hP : va_P D classes (WX ca a t) H) (hS : va_S A s.heap H locs) (hl : lv_has ls 2 [(0, .ref (a 4)), (1, .int x1)]) : W p l e rm_X_X0_heightOf__4 s m args below meth c H locs 0 0 Q (F0 m 0 ls []) := by
  obtain ⟨hx, hb, hml, hown, hts, hN, hK, hD, hA⟩ := id C
  have hf : (fb_b (f_X_X10_isCell t x1.toInt64) fun v_2 t_1 => (if v_2 = 0 then b_X_X0_heightOf__4_17 t_1 else b_X_X0_heightOf__4_8 t_1 x1)) = some (r, u) := hf
  refine lv_iload_n hx hb dX0_heightOf_0 rfl (lv_at hl 1 rfl) ?_
  refine lv_i2l hx hb dX0_heightOf_1 rfl ?_
  obtain ⟨v_2, t_1, g_2, hf⟩ := fb_bs hf
  refine fw_S2 (As := [.long x1.toInt64]) (rest := []) (n := 1) C (c_X_X10_isCell (l := l) (D := D) (ca := ca) (a := a) g_2) kw_429 kw_399 kw_92 kw_400 hP hS hl rfl rfl (by decide) (by decide +kernel) ⟨Nat.le_of_ble_eq_true rfl, Nat.le_of_ble_eq_true rfl⟩ rfl rfl (Nat.le_of_ble_eq_true rfl) dX0_heightOf_2 (fun H locs hP hS => ?_)
  refine W.eq (g2 := F0 m 5 ls [.int v_2]) rfl ?_
  refine lv_if_eq (tgt := 17) hx hb dX0_heightOf_5 (by decide) (fun h_5 => ?_) (fun h_5 => ?_)
  · have hf := fb_t h_5 hf
    exact w_X_X0_heightOf__4_17 C hr hf hP hS (lv_sub hl [] rfl)
  · have hf := fb_f h_5 hf
    exact w_X_X0_heightOf__4_8 C hr hf hP hS (lv_sub hl [0, 1] rfl)
set_option maxRecDepth 20000 in
theorem c_X_X0_heightOf__4 {l : Launch} {D : va_G} {ca : Nat → ClassId} {a : Nat → Nat} {t : fw_S} {x1 : Int32} {u : fw_S} {r : Int32} (hf : f_X_X0_heightOf__4 t x1 = some (r, u)) : MC (WX ca a) D (tyv ca) l yX0_heightOf (.code yX0_heightOf prog_2_method_14_code 2 (some .int) :: lw_gd) rm_X_X0_heightOf__4 [.ref (a 4), .int x1] (some (.int r)) t u := by
  refine fw_met (okX ca a) (by decide +kernel) rfl rfl (Nat.le_of_ble_eq_true rfl) ?_
  intro p e s m args below meth c A Q ls C hr hk hP hS hl hQ
  exact w_X_X0_heightOf__4_0 C (fun _ => fw_ri C hr hk hQ) hf hP hS (lv_sub hl [0, 1] rfl)
/-! java/lang/Math.max(II)I [] -/
abbrev rm_X_J9_max_7cf53 : Room := { frames := 0, cells := 0, slots := 0, locals := 0 }
def b_X_J9_max_7cf53_10  (t : fw_S) (z0 : Int32) : Option (Int32 × fw_S) := some (z0, t)
def b_X_J9_max_7cf53_9  (t : fw_S) (x1 : Int32) : Option (Int32 × fw_S) := b_X_J9_max_7cf53_10 t x1
def b_X_J9_max_7cf53_5  (t : fw_S) (x0 : Int32) : Option (Int32 × fw_S) := b_X_J9_max_7cf53_10 t x0
def b_X_J9_max_7cf53_0  (t : fw_S) (x0 : Int32) (x1 : Int32) : Option (Int32 × fw_S) := if x0 < x1 then b_X_J9_max_7cf53_9 t x1 else b_X_J9_max_7cf53_5 t x0
def f_X_J9_max_7cf53 (t : fw_S) (x0 : Int32) (x1 : Int32) : Option (Int32 × fw_S) := b_X_J9_max_7cf53_0 t x0 x1
set_option maxRecDepth 20000 in
theorem w_X_J9_max_7cf53_10 {p : Program} {l : Launch} {e : Env} {s : State} {m : MethodId} {args : Array Value} {below : List Frame} {meth : Method} {c : Code} {A : Nat → Prop} {Q : State → Prop} {D : va_G} {ca : Nat → ClassId} {a : Nat → Nat} {u : fw_S} {r : Int32}  (C : CX (WX ca a) D (tyv ca) p s m args c A prog_16_method_65_code 2 RJ9) (hr : True → RX (WX ca a) D p l e rm_X_J9_max_7cf53 s m args below meth c A prog_16_method_65_code Q .ireturn [.int r] u) {t : fw_S} {z0 : Int32} {H : Heap} {locs : List Loc} {ls : Array Slot} (hf : b_X_J9_max_7cf53_10  t z0 = some (r, u)) (hP : va_P D classes (WX ca a t) H) (hS : va_S A s.heap H locs) (hl : lv_has ls 2 []) : W p l e rm_X_J9_max_7cf53 s m args below meth c H locs 0 0 Q (F0 m 10 ls [.int z0]) := by
  obtain ⟨hx, hb, hml, hown, hts, hN, hK, hD, hA⟩ := id C
  have hf : (some (z0, t)) = some (r, u) := hf
  obtain ⟨e_10, e2_10⟩ := fb_e hf
  subst e_10; subst e2_10
  exact hr trivial _ _ _ _ hP hS dJ9_max_7cf53_10
set_option maxRecDepth 20000 in
theorem w_X_J9_max_7cf53_9 {p : Program} {l : Launch} {e : Env} {s : State} {m : MethodId} {args : Array Value} {below : List Frame} {meth : Method} {c : Code} {A : Nat → Prop} {Q : State → Prop} {D : va_G} {ca : Nat → ClassId} {a : Nat → Nat} {u : fw_S} {r : Int32}  (C : CX (WX ca a) D (tyv ca) p s m args c A prog_16_method_65_code 2 RJ9) (hr : True → RX (WX ca a) D p l e rm_X_J9_max_7cf53 s m args below meth c A prog_16_method_65_code Q .ireturn [.int r] u) {t : fw_S} {x1 : Int32} {H : Heap} {locs : List Loc} {ls : Array Slot} (hf : b_X_J9_max_7cf53_9  t x1 = some (r, u)) (hP : va_P D classes (WX ca a t) H) (hS : va_S A s.heap H locs) (hl : lv_has ls 2 [(1, .int x1)]) : W p l e rm_X_J9_max_7cf53 s m args below meth c H locs 0 0 Q (F0 m 9 ls []) := by
  obtain ⟨hx, hb, hml, hown, hts, hN, hK, hD, hA⟩ := id C
  have hf : (b_X_J9_max_7cf53_10 t x1) = some (r, u) := hf
  refine lv_iload_n hx hb dJ9_max_7cf53_9 rfl (lv_at hl 0 rfl) ?_
  exact w_X_J9_max_7cf53_10 C hr hf hP hS (lv_sub hl [] rfl)
set_option maxRecDepth 20000 in
theorem w_X_J9_max_7cf53_5 {p : Program} {l : Launch} {e : Env} {s : State} {m : MethodId} {args : Array Value} {below : List Frame} {meth : Method} {c : Code} {A : Nat → Prop} {Q : State → Prop} {D : va_G} {ca : Nat → ClassId} {a : Nat → Nat} {u : fw_S} {r : Int32}  (C : CX (WX ca a) D (tyv ca) p s m args c A prog_16_method_65_code 2 RJ9) (hr : True → RX (WX ca a) D p l e rm_X_J9_max_7cf53 s m args below meth c A prog_16_method_65_code Q .ireturn [.int r] u) {t : fw_S} {x0 : Int32} {H : Heap} {locs : List Loc} {ls : Array Slot} (hf : b_X_J9_max_7cf53_5  t x0 = some (r, u)) (hP : va_P D classes (WX ca a t) H) (hS : va_S A s.heap H locs) (hl : lv_has ls 2 [(0, .int x0)]) : W p l e rm_X_J9_max_7cf53 s m args below meth c H locs 0 0 Q (F0 m 5 ls []) := by
  obtain ⟨hx, hb, hml, hown, hts, hN, hK, hD, hA⟩ := id C
  have hf : (b_X_J9_max_7cf53_10 t x0) = some (r, u) := hf
  refine lv_iload_n hx hb dJ9_max_7cf53_5 rfl (lv_at hl 0 rfl) ?_
  refine lv_goto (tgt := 10) hx hb dJ9_max_7cf53_6 (by decide) ?_
  exact w_X_J9_max_7cf53_10 C hr hf hP hS (lv_sub hl [] rfl)
set_option maxRecDepth 20000 in
theorem w_X_J9_max_7cf53_0 {p : Program} {l : Launch} {e : Env} {s : State} {m : MethodId} {args : Array Value} {below : List Frame} {meth : Method} {c : Code} {A : Nat → Prop} {Q : State → Prop} {D : va_G} {ca : Nat → ClassId} {a : Nat → Nat} {u : fw_S} {r : Int32}  (C : CX (WX ca a) D (tyv ca) p s m args c A prog_16_method_65_code 2 RJ9) (hr : True → RX (WX ca a) D p l e rm_X_J9_max_7cf53 s m args below meth c A prog_16_method_65_code Q .ireturn [.int r] u) {t : fw_S} {x0 : Int32} {x1 : Int32} {H : Heap} {locs : List Loc} {ls : Array Slot} (hf : b_X_J9_max_7cf53_0  t x0 x1 = some (r, u)) (hP : va_P D classes (WX ca a t) H) (hS : va_S A s.heap H locs) (hl : lv_has ls 2 [(0, .int x0), (1, .int x1)]) : W p l e rm_X_J9_max_7cf53 s m args below meth c H locs 0 0 Q (F0 m 0 ls []) := by
  obtain ⟨hx, hb, hml, hown, hts, hN, hK, hD, hA⟩ := id C
  have hf : (if x0 < x1 then b_X_J9_max_7cf53_9 t x1 else b_X_J9_max_7cf53_5 t x0) = some (r, u) := hf
  refine lv_iload_n hx hb dJ9_max_7cf53_0 rfl (lv_at hl 0 rfl) ?_
  refine lv_iload_n hx hb dJ9_max_7cf53_1 rfl (lv_at hl 1 rfl) ?_
  refine lv_icmp_lt (tgt := 9) hx hb dJ9_max_7cf53_2 (by decide) (fun h_2 => ?_) (fun h_2 => ?_)
  · have hf := fb_t h_2 hf
    exact w_X_J9_max_7cf53_9 C hr hf hP hS (lv_sub hl [1] rfl)
  · have hf := fb_f h_2 hf
    exact w_X_J9_max_7cf53_5 C hr hf hP hS (lv_sub hl [0] rfl)
set_option maxRecDepth 20000 in
theorem c_X_J9_max_7cf53 {l : Launch} {D : va_G} {ca : Nat → ClassId} {a : Nat → Nat} {t : fw_S} {x0 : Int32} {x1 : Int32} {u : fw_S} {r : Int32} (hf : f_X_J9_max_7cf53 t x0 x1 = some (r, u)) : MC (WX ca a) D (tyv ca) l yJ9_max_7cf53 (.code yJ9_max_7cf53 prog_16_method_65_code 2 (some .int) :: lw_gd) rm_X_J9_max_7cf53 [.int x0, .int x1] (some (.int r)) t u := by
  refine fw_met (okX ca a) (by decide +kernel) rfl rfl (Nat.le_of_ble_eq_true rfl) ?_
  intro p e s m args below meth c A Q ls C hr hk hP hS hl hQ
  exact w_X_J9_max_7cf53_0 C (fun _ => fw_ri C hr hk hQ) hf hP hS (lv_sub hl [0, 1] rfl)
/-! ReactiveSheet.Cells.measure(I)V ['x.engine.now'] -/
abbrev rm_X_X0_measure__4 : Room := { frames := 2, cells := 0, slots := 0, locals := 42 }
def b_X_X0_measure__4_55  (t : fw_S) (x1 : Int32) (x2 : Int32) : Option fw_S := fb_g (¬ (x1 < 0 ∨ 32 ≤ x1.toNatClampNeg)) (fb_l (up_F t 11 (upd (st_F t 11) x1.toNatClampNeg (x2 + ((1 : Int32))))) fun t_1 => (some t_1))
def b_X_X0_measure__4_29 (k13 : fw_S → Int32 → Int32 → Int32 → Option fw_S) (t : fw_S) (x1 : Int32) (x2 : Int32) (x3 : Int32) : Option fw_S := fb_g (¬ (((x1 * ((32 : Int32))) + x3) < 0 ∨ 1024 ≤ ((x1 * ((32 : Int32))) + x3).toNatClampNeg)) (fb_b (f_X_X0_heightOf__4 t (st_F t 13 ((x1 * ((32 : Int32))) + x3).toNatClampNeg)) fun v_2 t_1 => (fb_b (f_X_J9_max_7cf53 t_1 x2 v_2) fun v_4 t_3 => (k13 t_3 x1 v_4 (x3 + 1))))
def b_X_X0_measure__4_23 (k13 : fw_S → Int32 → Int32 → Int32 → Option fw_S) (t : fw_S) (x1 : Int32) (x2 : Int32) (x3 : Int32) : Option fw_S := if ((32 : Int32)) ≤ x3 then b_X_X0_measure__4_55 t x1 x2 else b_X_X0_measure__4_29 k13 t x1 x2 x3
def b_X_X0_measure__4_13  : Nat → (fw_S → Int32 → Int32 → Int32 → Option fw_S)
  | 0 => fun _ _ _ _ => none
  | n + 1 => fun t x1 x2 x3 => fb_g (¬ (x1 < 0 ∨ 32 ≤ x1.toNatClampNeg)) (if (st_F t 14 x1.toNatClampNeg) ≤ x3 then b_X_X0_measure__4_55 t x1 x2 else b_X_X0_measure__4_23 (b_X_X0_measure__4_13 n) t x1 x2 x3)
def b_X_X0_measure__4_9  (t : fw_S) (x1 : Int32) : Option fw_S := b_X_X0_measure__4_13 3000 t x1 ((0 : Int32)) ((0 : Int32))
def b_X_X0_measure__4_8  (t : fw_S)  : Option fw_S := some t
def b_X_X0_measure__4_0  (t : fw_S) (x1 : Int32) : Option fw_S := fb_b (f_X_X10_isCell t x1.toInt64) fun v_2 t_1 => (if v_2 = 0 then b_X_X0_measure__4_8 t_1 else b_X_X0_measure__4_9 t_1 x1)
def f_X_X0_measure__4 (t : fw_S) (x1 : Int32) : Option fw_S := b_X_X0_measure__4_0 t x1
set_option maxRecDepth 20000 in
theorem w_X_X0_measure__4_55 {p : Program} {l : Launch} {e : Env} {s : State} {m : MethodId} {args : Array Value} {below : List Frame} {meth : Method} {c : Code} {A : Nat → Prop} {Q : State → Prop} {D : va_G} {ca : Nat → ClassId} {a : Nat → Nat} {u : fw_S}  (C : CX (WX ca a) D (tyv ca) p s m args c A prog_2_method_9_code 4 RX0) (hr : True → RX (WX ca a) D p l e rm_X_X0_measure__4 s m args below meth c A prog_2_method_9_code Q .return_ [] u) {t : fw_S} {x1 : Int32} {x2 : Int32} {H : Heap} {locs : List Loc} {ls : Array Slot} (hf : b_X_X0_measure__4_55  t x1 x2 = some u) (hP : va_P D classes (WX ca a t) H) (hS : va_S A s.heap H locs) (hl : lv_has ls 4 [(0, .ref (a 4)), (1, .int x1), (2, .int x2)]) : W p l e rm_X_X0_measure__4 s m args below meth c H locs 0 0 Q (F0 m 55 ls []) := by
  obtain ⟨hx, hb, hml, hown, hts, hN, hK, hD, hA⟩ := id C
  have hf : (fb_g (¬ (x1 < 0 ∨ 32 ≤ x1.toNatClampNeg)) (fb_l (up_F t 11 (upd (st_F t 11) x1.toNatClampNeg (x2 + ((1 : Int32))))) fun t_1 => (some t_1))) = some u := hf
  refine lv_aload_n hx hb dX0_measure_55 rfl (lv_at hl 0 rfl) ?_
  refine va_get (D := D) (ci := 0) (v := .ref (a 27)) (C := RX0) (T := TX0) (N := 12) hx hb hts inX0 hown hK hP 4 (heX_4 ca a t) rfl 5 (by decide) (hts _ kw_192) (fun _ h9 => h9) rfl dX0_measure_56 ?_
  refine lv_iload_n hx hb dX0_measure_59 rfl (lv_at hl 1 rfl) ?_
  refine lv_iload_n hx hb dX0_measure_60 rfl (lv_at hl 2 rfl) ?_
  refine lv_iconst (v := 1) hx hb dX0_measure_61 (by decide) ?_
  refine lv_iadd hx hb dX0_measure_62 ?_
  obtain ⟨h_63, hf⟩ := fb_if hf
  refine va_iast hx hb hK hP (hD t) hS 27 0 (haX_27 ca a t) rfl h_63 dX0_measure_63 (fun H locs hP _ hS => ?_)
  rw [saX_27] at hP
  obtain ⟨t_1, e_63, hf⟩ := fb_ls hf
  rw [← e_63] at hP
  have e_64 := fb_ev hf
  subst e_64
  exact hr trivial _ _ _ _ hP hS dX0_measure_64
set_option maxRecDepth 20000 in
theorem w_X_X0_measure__4_29 {p : Program} {l : Launch} {e : Env} {s : State} {m : MethodId} {args : Array Value} {below : List Frame} {meth : Method} {c : Code} {A : Nat → Prop} {Q : State → Prop} {D : va_G} {ca : Nat → ClassId} {a : Nat → Nat} {u : fw_S} {k13 : fw_S → Int32 → Int32 → Int32 → Option fw_S} (C : CX (WX ca a) D (tyv ca) p s m args c A prog_2_method_9_code 4 RX0) (hr : True → RX (WX ca a) D p l e rm_X_X0_measure__4 s m args below meth c A prog_2_method_9_code Q .return_ [] u) (hk13 : ∀ (t : fw_S) (x1 : Int32) (x2 : Int32) (x3 : Int32) (H : Heap) (locs : List Loc) (ls : Array Slot), k13 t x1 x2 x3 = some u → va_P D classes (WX ca a t) H → va_S A s.heap H locs → lv_has ls 4 [(0, .ref (a 4)), (1, .int x1), (2, .int x2), (3, .int x3)] → W p l e rm_X_X0_measure__4 s m args below meth c H locs 0 0 Q (F0 m 13 ls [])) {t : fw_S} {x1 : Int32} {x2 : Int32} {x3 : Int32} {H : Heap} {locs : List Loc} {ls : Array Slot} (hf : b_X_X0_measure__4_29 k13 t x1 x2 x3 = some u) (hP : va_P D classes (WX ca a t) H) (hS : va_S A s.heap H locs) (hl : lv_has ls 4 [(0, .ref (a 4)), (1, .int x1), (2, .int x2), (3, .int x3)]) : W p l e rm_X_X0_measure__4 s m args below meth c H locs 0 0 Q (F0 m 29 ls []) := by
  obtain ⟨hx, hb, hml, hown, hts, hN, hK, hD, hA⟩ := id C
  have hf : (fb_g (¬ (((x1 * ((32 : Int32))) + x3) < 0 ∨ 1024 ≤ ((x1 * ((32 : Int32))) + x3).toNatClampNeg)) (fb_b (f_X_X0_heightOf__4 t (st_F t 13 ((x1 * ((32 : Int32))) + x3).toNatClampNeg)) fun v_2 t_1 => (fb_b (f_X_J9_max_7cf53 t_1 x2 v_2) fun v_4 t_3 => (k13 t_3 x1 v_4 (x3 + 1))))) = some u := hf
  refine lv_iload_n hx hb dX0_measure_29 rfl (lv_at hl 2 rfl) ?_
  refine lv_aload_n hx hb dX0_measure_30 rfl (lv_at hl 0 rfl) ?_
  refine lv_aload_n hx hb dX0_measure_31 rfl (lv_at hl 0 rfl) ?_
  refine va_get (D := D) (ci := 0) (v := .ref (a 29)) (C := RX0) (T := TX0) (N := 12) hx hb hts inX0 hown hK hP 4 (heX_4 ca a t) rfl 7 (by decide) (hts _ kw_194) (fun _ h9 => h9) rfl dX0_measure_32 ?_
  refine lv_iload_n hx hb dX0_measure_35 rfl (lv_at hl 1 rfl) ?_
  refine lv_bipush (v := 32) hx hb dX0_measure_36 (by decide) ?_
  refine lv_imul hx hb dX0_measure_38 ?_
  refine lv_iload_n hx hb dX0_measure_39 rfl (lv_at hl 3 rfl) ?_
  refine lv_iadd hx hb dX0_measure_40 ?_
  obtain ⟨h_41, hf⟩ := fb_if hf
  refine va_iald hx hb hK hP 29 0 (haX_29 ca a t) rfl h_41 dX0_measure_41 ?_
  obtain ⟨v_2, t_1, g_42, hf⟩ := fb_bs hf
  refine fw_V1 (As := [.int (st_F t 13 ((x1 * ((32 : Int32))) + x3).toNatClampNeg)]) (rest := [.int x2]) (n := 1) (q0 := 4) C (c_X_X0_heightOf__4 (l := l) (D := D) (ca := ca) (a := a) g_42) kw_601 kw_602 kw_96 kw_604 kw_603 hP hS hl (heX_4 ca a t) rfl rfl rfl (by decide) (by decide +kernel) ⟨Nat.le_of_ble_eq_true rfl, Nat.le_of_ble_eq_true rfl⟩ rfl rfl (Nat.le_of_ble_eq_true rfl) dX0_measure_42 (fun H locs hP hS => ?_)
  refine W.eq (g2 := F0 m 45 ls [.int v_2, .int x2]) rfl ?_
  obtain ⟨v_4, t_3, g_45, hf⟩ := fb_bs hf
  refine fw_S1 (As := [.int x2, .int v_2]) (rest := []) (n := 2) C (c_X_J9_max_7cf53 (l := l) (D := D) (ca := ca) (a := a) g_45) kw_605 kw_606 kw_106 kw_607 hP hS hl rfl rfl (by decide) (by decide +kernel) ⟨Nat.le_of_ble_eq_true rfl, Nat.le_of_ble_eq_true rfl⟩ rfl rfl (Nat.le_of_ble_eq_true rfl) dX0_measure_45 (fun H locs hP hS => ?_)
  refine W.eq (g2 := F0 m 48 ls [.int v_4]) rfl ?_
  refine lv_istore_n (lv' := [(2, .int v_4), (0, .ref (a 4)), (1, .int x1), (3, .int x3)]) hx hb dX0_measure_48 rfl hl (by decide) rfl (fun ls hl => ?_)
  refine lv_iinc (v := x3 + 1) (lv' := [(3, .int (x3 + 1)), (2, .int v_4), (0, .ref (a 4)), (1, .int x1)]) hx hb dX0_measure_49 hl (k := 3) rfl rfl (by decide) rfl (fun ls hl => ?_)
  refine lv_goto (tgt := 13) hx hb dX0_measure_52 (by decide) ?_
  exact hk13 t_3 x1 v_4 (x3 + 1) _ _ _ hf hP hS (lv_sub hl [2, 3, 1, 0] rfl)
set_option maxRecDepth 20000 in
theorem w_X_X0_measure__4_23 {p : Program} {l : Launch} {e : Env} {s : State} {m : MethodId} {args : Array Value} {below : List Frame} {meth : Method} {c : Code} {A : Nat → Prop} {Q : State → Prop} {D : va_G} {ca : Nat → ClassId} {a : Nat → Nat} {u : fw_S} {k13 : fw_S → Int32 → Int32 → Int32 → Option fw_S} (C : CX (WX ca a) D (tyv ca) p s m args c A prog_2_method_9_code 4 RX0) (hr : True → RX (WX ca a) D p l e rm_X_X0_measure__4 s m args below meth c A prog_2_method_9_code Q .return_ [] u) (hk13 : ∀ (t : fw_S) (x1 : Int32) (x2 : Int32) (x3 : Int32) (H : Heap) (locs : List Loc) (ls : Array Slot), k13 t x1 x2 x3 = some u → va_P D classes (WX ca a t) H → va_S A s.heap H locs → lv_has ls 4 [(0, .ref (a 4)), (1, .int x1), (2, .int x2), (3, .int x3)] → W p l e rm_X_X0_measure__4 s m args below meth c H locs 0 0 Q (F0 m 13 ls [])) {t : fw_S} {x1 : Int32} {x2 : Int32} {x3 : Int32} {H : Heap} {locs : List Loc} {ls : Array Slot} (hf : b_X_X0_measure__4_23 k13 t x1 x2 x3 = some u) (hP : va_P D classes (WX ca a t) H) (hS : va_S A s.heap H locs) (hl : lv_has ls 4 [(0, .ref (a 4)), (1, .int x1), (2, .int x2), (3, .int x3)]) : W p l e rm_X_X0_measure__4 s m args below meth c H locs 0 0 Q (F0 m 23 ls []) := by
  obtain ⟨hx, hb, hml, hown, hts, hN, hK, hD, hA⟩ := id C
  have hf : (if ((32 : Int32)) ≤ x3 then b_X_X0_measure__4_55 t x1 x2 else b_X_X0_measure__4_29 k13 t x1 x2 x3) = some u := hf
  refine lv_iload_n hx hb dX0_measure_23 rfl (lv_at hl 3 rfl) ?_
  refine lv_bipush (v := 32) hx hb dX0_measure_24 (by decide) ?_
  refine lv_icmp_ge (tgt := 55) hx hb dX0_measure_26 (by decide) (fun h_26 => ?_) (fun h_26 => ?_)
  · have hf := fb_t h_26 hf
    exact w_X_X0_measure__4_55 C hr hf hP hS (lv_sub hl [0, 1, 2] rfl)
  · have hf := fb_f h_26 hf
    exact w_X_X0_measure__4_29 C hr hk13 hf hP hS (lv_sub hl [0, 1, 2, 3] rfl)
set_option maxRecDepth 20000 in
theorem w_X_X0_measure__4_13 {p : Program} {l : Launch} {e : Env} {s : State} {m : MethodId} {args : Array Value} {below : List Frame} {meth : Method} {c : Code} {A : Nat → Prop} {Q : State → Prop} {D : va_G} {ca : Nat → ClassId} {a : Nat → Nat} {u : fw_S}  (C : CX (WX ca a) D (tyv ca) p s m args c A prog_2_method_9_code 4 RX0) (hr : True → RX (WX ca a) D p l e rm_X_X0_measure__4 s m args below meth c A prog_2_method_9_code Q .return_ [] u) : ∀ (n : Nat) (t : fw_S) (x1 : Int32) (x2 : Int32) (x3 : Int32) (H : Heap) (locs : List Loc) (ls : Array Slot), b_X_X0_measure__4_13  n t x1 x2 x3 = some u → va_P D classes (WX ca a t) H → va_S A s.heap H locs → lv_has ls 4 [(0, .ref (a 4)), (1, .int x1), (2, .int x2), (3, .int x3)] → W p l e rm_X_X0_measure__4 s m args below meth c H locs 0 0 Q (F0 m 13 ls []) := by
  obtain ⟨hx, hb, hml, hown, hts, hN, hK, hD, hA⟩ := id C
  intro n
  induction n with
  | zero => intro t x1 x2 x3 H locs ls hf; cases hf
  | succ n hk13 =>
    intro t x1 x2 x3 H locs ls hf hP hS hl
    have hf : (fb_g (¬ (x1 < 0 ∨ 32 ≤ x1.toNatClampNeg)) (if (st_F t 14 x1.toNatClampNeg) ≤ x3 then b_X_X0_measure__4_55 t x1 x2 else b_X_X0_measure__4_23 (b_X_X0_measure__4_13 n) t x1 x2 x3)) = some u := hf
    refine lv_iload_n hx hb dX0_measure_13 rfl (lv_at hl 3 rfl) ?_
    refine lv_aload_n hx hb dX0_measure_14 rfl (lv_at hl 0 rfl) ?_
    refine va_get (D := D) (ci := 0) (v := .ref (a 30)) (C := RX0) (T := TX0) (N := 12) hx hb hts inX0 hown hK hP 4 (heX_4 ca a t) rfl 8 (by decide) (hts _ kw_195) (fun _ h9 => h9) rfl dX0_measure_15 ?_
    refine lv_iload_n hx hb dX0_measure_18 rfl (lv_at hl 1 rfl) ?_
    obtain ⟨h_19, hf⟩ := fb_if hf
    refine va_iald hx hb hK hP 30 0 (haX_30 ca a t) rfl h_19 dX0_measure_19 ?_
    refine lv_icmp_ge (tgt := 55) hx hb dX0_measure_20 (by decide) (fun h_20 => ?_) (fun h_20 => ?_)
    · have hf := fb_t h_20 hf
      exact w_X_X0_measure__4_55 C hr hf hP hS (lv_sub hl [0, 1, 2] rfl)
    · have hf := fb_f h_20 hf
      exact w_X_X0_measure__4_23 C hr hk13 hf hP hS (lv_sub hl [0, 1, 2, 3] rfl)
set_option maxRecDepth 20000 in
theorem w_X_X0_measure__4_9 {p : Program} {l : Launch} {e : Env} {s : State} {m : MethodId} {args : Array Value} {below : List Frame} {meth : Method} {c : Code} {A : Nat → Prop} {Q : State → Prop} {D : va_G} {ca : Nat → ClassId} {a : Nat → Nat} {u : fw_S}  (C : CX (WX ca a) D (tyv ca) p s m args c A prog_2_method_9_code 4 RX0) (hr : True → RX (WX ca a) D p l e rm_X_X0_measure__4 s m args below meth c A prog_2_method_9_code Q .return_ [] u) {t : fw_S} {x1 : Int32} {H : Heap} {locs : List Loc} {ls : Array Slot} (hf : b_X_X0_measure__4_9  t x1 = some u) (hP : va_P D classes (WX ca a t) H) (hS : va_S A s.heap H locs) (hl : lv_has ls 4 [(0, .ref (a 4)), (1, .int x1)]) : W p l e rm_X_X0_measure__4 s m args below meth c H locs 0 0 Q (F0 m 9 ls []) := by
  obtain ⟨hx, hb, hml, hown, hts, hN, hK, hD, hA⟩ := id C
  have hf : (b_X_X0_measure__4_13 3000 t x1 ((0 : Int32)) ((0 : Int32))) = some u := hf
  refine lv_iconst (v := 0) hx hb dX0_measure_9 (by decide) ?_
  refine lv_istore_n (lv' := [(2, .int ((0 : Int32))), (0, .ref (a 4)), (1, .int x1)]) hx hb dX0_measure_10 rfl hl (by decide) rfl (fun ls hl => ?_)
  refine lv_iconst (v := 0) hx hb dX0_measure_11 (by decide) ?_
  refine lv_istore_n (lv' := [(3, .int ((0 : Int32))), (2, .int ((0 : Int32))), (0, .ref (a 4)), (1, .int x1)]) hx hb dX0_measure_12 rfl hl (by decide) rfl (fun ls hl => ?_)
  exact w_X_X0_measure__4_13 C hr 3000 t x1 ((0 : Int32)) ((0 : Int32)) _ _ _ hf hP hS (lv_sub hl [2, 3, 1, 0] rfl)
set_option maxRecDepth 20000 in
theorem w_X_X0_measure__4_8 {p : Program} {l : Launch} {e : Env} {s : State} {m : MethodId} {args : Array Value} {below : List Frame} {meth : Method} {c : Code} {A : Nat → Prop} {Q : State → Prop} {D : va_G} {ca : Nat → ClassId} {a : Nat → Nat} {u : fw_S}  (C : CX (WX ca a) D (tyv ca) p s m args c A prog_2_method_9_code 4 RX0) (hr : True → RX (WX ca a) D p l e rm_X_X0_measure__4 s m args below meth c A prog_2_method_9_code Q .return_ [] u) {t : fw_S}  {H : Heap} {locs : List Loc} {ls : Array Slot} (hf : b_X_X0_measure__4_8  t  = some u) (hP : va_P D classes (WX ca a t) H) (hS : va_S A s.heap H locs) (hl : lv_has ls 4 []) : W p l e rm_X_X0_measure__4 s m args below meth c H locs 0 0 Q (F0 m 8 ls []) := by
  obtain ⟨hx, hb, hml, hown, hts, hN, hK, hD, hA⟩ := id C
  have hf : (some t) = some u := hf
  have e_8 := fb_ev hf
  subst e_8
  exact hr trivial _ _ _ _ hP hS dX0_measure_8
set_option maxRecDepth 20000 in
theorem w_X_X0_measure__4_0 {p : Program} {l : Launch} {e : Env} {s : State} {m : MethodId} {args : Array Value} {below : List Frame} {meth : Method} {c : Code} {A : Nat → Prop} {Q : State → Prop} {D : va_G} {ca : Nat → ClassId} {a : Nat → Nat} {u : fw_S}  (C : CX (WX ca a) D (tyv ca) p s m args c A prog_2_method_9_code 4 RX0) (hr : True → RX (WX ca a) D p l e rm_X_X0_measure__4 s m args below meth c A prog_2_method_9_code Q .return_ [] u) {t : fw_S} {x1 : Int32} {H : Heap} {locs : List Loc} {ls : Array Slot} (hf : b_X_X0_measure__4_0  t x1 = some u) (hP : va_P D classes (WX ca a t) H) (hS : va_S A s.heap H locs) (hl : lv_has ls 4 [(0, .ref (a 4)), (1, .int x1)]) : W p l e rm_X_X0_measure__4 s m args below meth c H locs 0 0 Q (F0 m 0 ls []) := by
  obtain ⟨hx, hb, hml, hown, hts, hN, hK, hD, hA⟩ := id C
  have hf : (fb_b (f_X_X10_isCell t x1.toInt64) fun v_2 t_1 => (if v_2 = 0 then b_X_X0_measure__4_8 t_1 else b_X_X0_measure__4_9 t_1 x1)) = some u := hf
  refine lv_iload_n hx hb dX0_measure_0 rfl (lv_at hl 1 rfl) ?_
  refine lv_i2l hx hb dX0_measure_1 rfl ?_
  obtain ⟨v_2, t_1, g_2, hf⟩ := fb_bs hf
  refine fw_S2 (As := [.long x1.toInt64]) (rest := []) (n := 1) C (c_X_X10_isCell (l := l) (D := D) (ca := ca) (a := a) g_2) kw_429 kw_399 kw_92 kw_400 hP hS hl rfl rfl (by decide) (by decide +kernel) ⟨Nat.le_of_ble_eq_true rfl, Nat.le_of_ble_eq_true rfl⟩ rfl rfl (Nat.le_of_ble_eq_true rfl) dX0_measure_2 (fun H locs hP hS => ?_)
  refine W.eq (g2 := F0 m 5 ls [.int v_2]) rfl ?_
  refine lv_if_ne (tgt := 9) hx hb dX0_measure_5 (by decide) (fun h_5 => ?_) (fun h_5 => ?_)
  · have hf := fb_f h_5 hf
    exact w_X_X0_measure__4_9 C hr hf hP hS (lv_sub hl [0, 1] rfl)
  · have hf := fb_t h_5 hf
    exact w_X_X0_measure__4_8 C hr hf hP hS (lv_sub hl [] rfl)
set_option maxRecDepth 20000 in
theorem c_X_X0_measure__4 {l : Launch} {D : va_G} {ca : Nat → ClassId} {a : Nat → Nat} {t : fw_S} {x1 : Int32} {u : fw_S} (hf : f_X_X0_measure__4 t x1 = some u) : MC (WX ca a) D (tyv ca) l yX0_measure (.code yX0_measure prog_2_method_9_code 4 none :: lw_gd) rm_X_X0_measure__4 [.ref (a 4), .int x1] none t u := by
  refine fw_met (okX ca a) (by decide +kernel) rfl rfl (Nat.le_of_ble_eq_true rfl) ?_
  intro p e s m args below meth c A Q ls C hr hk hP hS hl hQ
  exact w_X_X0_measure__4_0 C (fun _ => fw_rv C hr hk hQ) hf hP hS (lv_sub hl [0, 1] rfl)
/-! ReactiveSheet.Engine.settle(II)V ['x.engine'] -/
abbrev rm_X_X1_settle__3 : Room := { frames := 3, cells := 0, slots := 0, locals := 72 }
def b_X_X1_settle__3_18  (t : fw_S)  : Option fw_S := some t
def b_X_X1_settle__3_36  (t : fw_S)  : Option fw_S := fb_g (((1 : Int32)) = 0 ∨ ((1 : Int32)) = 1) (fb_l (up_I t 8 ((1 : Int32))) fun t_1 => (some t_1))
def b_X_X1_settle__3_71  (t : fw_S) (x1 : Int32) (x2 : Int32) : Option fw_S := none
def b_X_X1_settle__3_97  (t : fw_S) (x1 : Int32) : Option fw_S := fb_v (f_X_X0_measure__4 t x1) fun t_1 => (fb_b (f_X_X10_bit t_1 x1) fun v_3 t_2 => (fb_l (up_J t_2 2 ((st_J t_1 2) &&& (v_3 ^^^ ((-1 : Int64))))) fun t_4 => (fb_b (f_X_X10_bit t_4 x1) fun v_6 t_5 => (fb_l (up_J t_5 1 ((st_J t_4 1) ||| v_6)) fun t_7 => (some t_7)))))
def b_X_X1_settle__3_90  (t : fw_S) (x1 : Int32) (x2 : Int32) (x3 : Int32) : Option fw_S := fb_v (f_X_X1_run__3 t x1 x3 x2) fun t_1 => (b_X_X1_settle__3_97 t_1 x1)
def b_X_X1_settle__3_83  (t : fw_S) (x1 : Int32) (x2 : Int32) (x3 : Int32) : Option fw_S := if (st_I t 8) = 0 then b_X_X1_settle__3_90 t x1 x2 x3 else b_X_X1_settle__3_97 t x1
def b_X_X1_settle__3_77  (t : fw_S) (x1 : Int32) (x2 : Int32) (z0 : Int32) : Option fw_S := if z0 = ((-1 : Int32)) then b_X_X1_settle__3_97 t x1 else b_X_X1_settle__3_83 t x1 x2 z0
def b_X_X1_settle__3_66  (t : fw_S) (x1 : Int32) (x2 : Int32) : Option fw_S := b_X_X1_settle__3_77 t x1 x2 ((-5 : Int32))
def b_X_X1_settle__3_42  (t : fw_S) (x1 : Int32) (x2 : Int32) : Option fw_S := fb_b (f_X_X10_bit t x1) fun v_2 t_1 => (fb_l (up_J t_1 2 ((st_J t 2) ||| v_2)) fun t_3 => (fb_b (f_X_X10_has t_3 (st_J t_3 0) x1) fun v_5 t_4 => (if v_5 = 0 then b_X_X1_settle__3_71 t_4 x1 x2 else b_X_X1_settle__3_66 t_4 x1 x2)))
def b_X_X1_settle__3_30  (t : fw_S) (x1 : Int32) (x2 : Int32) : Option fw_S := if x2 ≤ ((32 : Int32)) then b_X_X1_settle__3_42 t x1 x2 else b_X_X1_settle__3_36 t
def b_X_X1_settle__3_19  (t : fw_S) (x1 : Int32) (x2 : Int32) : Option fw_S := fb_b (f_X_X10_has t (st_J t 2) x1) fun v_2 t_1 => (if v_2 = 0 then b_X_X1_settle__3_30 t_1 x1 x2 else b_X_X1_settle__3_36 t_1)
def b_X_X1_settle__3_7  (t : fw_S) (x1 : Int32) (x2 : Int32) : Option fw_S := fb_b (f_X_X10_has t (st_J t 1) x1) fun v_2 t_1 => (if v_2 = 0 then b_X_X1_settle__3_19 t_1 x1 x2 else b_X_X1_settle__3_18 t_1)
def b_X_X1_settle__3_0  (t : fw_S) (x1 : Int32) (x2 : Int32) : Option fw_S := if (st_I t 8) = 0 then b_X_X1_settle__3_7 t x1 x2 else b_X_X1_settle__3_18 t
def f_X_X1_settle__3 (t : fw_S) (x1 : Int32) (x2 : Int32) : Option fw_S := b_X_X1_settle__3_0 t x1 x2
set_option maxRecDepth 20000 in
theorem w_X_X1_settle__3_18 {p : Program} {l : Launch} {e : Env} {s : State} {m : MethodId} {args : Array Value} {below : List Frame} {meth : Method} {c : Code} {A : Nat → Prop} {Q : State → Prop} {D : va_G} {ca : Nat → ClassId} {a : Nat → Nat} {u : fw_S}  (C : CX (WX ca a) D (tyv ca) p s m args c A prog_3_method_6_code 4 RX1) (hr : True → RX (WX ca a) D p l e rm_X_X1_settle__3 s m args below meth c A prog_3_method_6_code Q .return_ [] u) {t : fw_S}  {H : Heap} {locs : List Loc} {ls : Array Slot} (hf : b_X_X1_settle__3_18  t  = some u) (hP : va_P D classes (WX ca a t) H) (hS : va_S A s.heap H locs) (hl : lv_has ls 4 []) : W p l e rm_X_X1_settle__3 s m args below meth c H locs 0 0 Q (F0 m 18 ls []) := by
  obtain ⟨hx, hb, hml, hown, hts, hN, hK, hD, hA⟩ := id C
  have hf : (some t) = some u := hf
  have e_18 := fb_ev hf
  subst e_18
  exact hr trivial _ _ _ _ hP hS dX1_settle_18
set_option maxRecDepth 20000 in
theorem w_X_X1_settle__3_36 {p : Program} {l : Launch} {e : Env} {s : State} {m : MethodId} {args : Array Value} {below : List Frame} {meth : Method} {c : Code} {A : Nat → Prop} {Q : State → Prop} {D : va_G} {ca : Nat → ClassId} {a : Nat → Nat} {u : fw_S}  (C : CX (WX ca a) D (tyv ca) p s m args c A prog_3_method_6_code 4 RX1) (hr : True → RX (WX ca a) D p l e rm_X_X1_settle__3 s m args below meth c A prog_3_method_6_code Q .return_ [] u) {t : fw_S}  {H : Heap} {locs : List Loc} {ls : Array Slot} (hf : b_X_X1_settle__3_36  t  = some u) (hP : va_P D classes (WX ca a t) H) (hS : va_S A s.heap H locs) (hl : lv_has ls 4 [(0, .ref (a 3))]) : W p l e rm_X_X1_settle__3 s m args below meth c H locs 0 0 Q (F0 m 36 ls []) := by
  obtain ⟨hx, hb, hml, hown, hts, hN, hK, hD, hA⟩ := id C
  have hf : (fb_g (((1 : Int32)) = 0 ∨ ((1 : Int32)) = 1) (fb_l (up_I t 8 ((1 : Int32))) fun t_1 => (some t_1))) = some u := hf
  refine lv_aload_n hx hb dX1_settle_36 rfl (lv_at hl 0 rfl) ?_
  refine lv_iconst (v := 1) hx hb dX1_settle_37 (by decide) ?_
  obtain ⟨h_38, hf⟩ := fb_if hf
  refine va_put (D := D) (ci := 1) (v := .int ((1 : Int32))) (ty := .boolean) (C := RX1) (T := TX1) (N := 8) hx hb hts inX1 tyX1 tyX1_ok nmX1 hown hK hP (hD t) hS 3 (heX_3 ca a t) rfl 6 (by decide) (hts _ kw_231) (fun _ h9 => h9) rfl (by decide +kernel) (fb_z h_38).1 (fb_z h_38).2 (Nat.le_of_ble_eq_true rfl) dX1_settle_38 (fun H locs hP _ hS => ?_)
  rw [suX_3_6] at hP
  obtain ⟨t_1, e_38, hf⟩ := fb_ls hf
  rw [← e_38] at hP
  have e_41 := fb_ev hf
  subst e_41
  exact hr trivial _ _ _ _ hP hS dX1_settle_41
set_option maxRecDepth 20000 in
theorem w_X_X1_settle__3_71 {p : Program} {l : Launch} {e : Env} {s : State} {m : MethodId} {args : Array Value} {below : List Frame} {meth : Method} {c : Code} {A : Nat → Prop} {Q : State → Prop} {D : va_G} {ca : Nat → ClassId} {a : Nat → Nat} {u : fw_S}  (C : CX (WX ca a) D (tyv ca) p s m args c A prog_3_method_6_code 4 RX1) (hr : True → RX (WX ca a) D p l e rm_X_X1_settle__3 s m args below meth c A prog_3_method_6_code Q .return_ [] u) {t : fw_S} {x1 : Int32} {x2 : Int32} {H : Heap} {locs : List Loc} {ls : Array Slot} (hf : b_X_X1_settle__3_71  t x1 x2 = some u) (hP : va_P D classes (WX ca a t) H) (hS : va_S A s.heap H locs) (hl : lv_has ls 4 [(0, .ref (a 3)), (1, .int x1), (2, .int x2)]) : W p l e rm_X_X1_settle__3 s m args below meth c H locs 0 0 Q (F0 m 71 ls []) := by
  obtain ⟨hx, hb, hml, hown, hts, hN, hK, hD, hA⟩ := id C
  have hf : (none) = some u := hf
  refine lv_aload_n hx hb dX1_settle_71 rfl (lv_at hl 0 rfl) ?_
  refine lv_iload_n hx hb dX1_settle_72 rfl (lv_at hl 1 rfl) ?_
  refine lv_iload_n hx hb dX1_settle_73 rfl (lv_at hl 2 rfl) ?_
  cases hf
set_option maxRecDepth 20000 in
theorem w_X_X1_settle__3_97 {p : Program} {l : Launch} {e : Env} {s : State} {m : MethodId} {args : Array Value} {below : List Frame} {meth : Method} {c : Code} {A : Nat → Prop} {Q : State → Prop} {D : va_G} {ca : Nat → ClassId} {a : Nat → Nat} {u : fw_S}  (C : CX (WX ca a) D (tyv ca) p s m args c A prog_3_method_6_code 4 RX1) (hr : True → RX (WX ca a) D p l e rm_X_X1_settle__3 s m args below meth c A prog_3_method_6_code Q .return_ [] u) {t : fw_S} {x1 : Int32} {H : Heap} {locs : List Loc} {ls : Array Slot} (hf : b_X_X1_settle__3_97  t x1 = some u) (hP : va_P D classes (WX ca a t) H) (hS : va_S A s.heap H locs) (hl : lv_has ls 4 [(0, .ref (a 3)), (1, .int x1)]) : W p l e rm_X_X1_settle__3 s m args below meth c H locs 0 0 Q (F0 m 97 ls []) := by
  obtain ⟨hx, hb, hml, hown, hts, hN, hK, hD, hA⟩ := id C
  have hf : (fb_v (f_X_X0_measure__4 t x1) fun t_1 => (fb_b (f_X_X10_bit t_1 x1) fun v_3 t_2 => (fb_l (up_J t_2 2 ((st_J t_1 2) &&& (v_3 ^^^ ((-1 : Int64))))) fun t_4 => (fb_b (f_X_X10_bit t_4 x1) fun v_6 t_5 => (fb_l (up_J t_5 1 ((st_J t_4 1) ||| v_6)) fun t_7 => (some t_7)))))) = some u := hf
  refine lv_aload_n hx hb dX1_settle_97 rfl (lv_at hl 0 rfl) ?_
  refine va_get (D := D) (ci := 1) (v := .ref (a 4)) (C := RX1) (T := TX1) (N := 8) hx hb hts inX1 hown hK hP 3 (heX_3 ca a t) rfl 0 (by decide) (hts _ kw_225) (fun _ h9 => h9) rfl dX1_settle_98 ?_
  refine lv_iload_n hx hb dX1_settle_101 rfl (lv_at hl 1 rfl) ?_
  obtain ⟨t_1, g_102, hf⟩ := fb_vs hf
  refine fw_V1 (As := [.int x1]) (rest := []) (n := 1) (q0 := 4) C (c_X_X0_measure__4 (l := l) (D := D) (ca := ca) (a := a) g_102) kw_597 kw_598 kw_96 kw_600 kw_599 hP hS hl (heX_4 ca a t) rfl rfl rfl (by decide) (by decide +kernel) ⟨Nat.le_of_ble_eq_true rfl, Nat.le_of_ble_eq_true rfl⟩ rfl rfl (Nat.le_of_ble_eq_true rfl) dX1_settle_102 (fun H locs hP hS => ?_)
  refine W.eq (g2 := F0 m 105 ls []) rfl ?_
  refine lv_aload_n hx hb dX1_settle_105 rfl (lv_at hl 0 rfl) ?_
  refine lv_dup hx hb dX1_settle_106 rfl ?_
  refine va_get (D := D) (ci := 1) (v := .long (st_J t_1 2)) (C := RX1) (T := TX1) (N := 8) hx hb hts inX1 hown hK hP 3 (heX_3 ca a t_1) rfl 5 (by decide) (hts _ kw_230) (fun _ h9 => h9) rfl dX1_settle_107 ?_
  refine lv_iload_n hx hb dX1_settle_110 rfl (lv_at hl 1 rfl) ?_
  obtain ⟨v_3, t_2, g_111, hf⟩ := fb_bs hf
  refine fw_S2 (As := [.int x1]) (rest := [.long (st_J t_1 2), .ref (a 3)]) (n := 1) C (c_X_X10_bit (l := l) (D := D) (ca := ca) (a := a) g_111) kw_466 kw_408 kw_92 kw_409 hP hS hl rfl rfl (by decide) (by decide +kernel) ⟨Nat.le_of_ble_eq_true rfl, Nat.le_of_ble_eq_true rfl⟩ rfl rfl (Nat.le_of_ble_eq_true rfl) dX1_settle_111 (fun H locs hP hS => ?_)
  refine W.eq (g2 := F0 m 114 ls [.long v_3, .long (st_J t_1 2), .ref (a 3)]) rfl ?_
  refine lv_ldc2 (v := (-1)) hx hb hown (hts _ kw_571) dX1_settle_114 ?_
  refine lv_lxor hx hb dX1_settle_117 ?_
  refine lv_land hx hb dX1_settle_118 ?_
  refine va_put (D := D) (ci := 1) (v := .long ((st_J t_1 2) &&& (v_3 ^^^ ((-1 : Int64))))) (ty := .long) (C := RX1) (T := TX1) (N := 8) hx hb hts inX1 tyX1 tyX1_ok nmX1 hown hK hP (hD t_2) hS 3 (heX_3 ca a t_2) rfl 5 (by decide) (hts _ kw_230) (fun _ h9 => h9) rfl (by decide +kernel) rfl rfl (Nat.le_of_ble_eq_true rfl) dX1_settle_119 (fun H locs hP _ hS => ?_)
  rw [suX_3_5] at hP
  obtain ⟨t_4, e_119, hf⟩ := fb_ls hf
  rw [← e_119] at hP
  refine lv_aload_n hx hb dX1_settle_122 rfl (lv_at hl 0 rfl) ?_
  refine lv_dup hx hb dX1_settle_123 rfl ?_
  refine va_get (D := D) (ci := 1) (v := .long (st_J t_4 1)) (C := RX1) (T := TX1) (N := 8) hx hb hts inX1 hown hK hP 3 (heX_3 ca a t_4) rfl 4 (by decide) (hts _ kw_229) (fun _ h9 => h9) rfl dX1_settle_124 ?_
  refine lv_iload_n hx hb dX1_settle_127 rfl (lv_at hl 1 rfl) ?_
  obtain ⟨v_6, t_5, g_128, hf⟩ := fb_bs hf
  refine fw_S2 (As := [.int x1]) (rest := [.long (st_J t_4 1), .ref (a 3)]) (n := 1) C (c_X_X10_bit (l := l) (D := D) (ca := ca) (a := a) g_128) kw_466 kw_408 kw_92 kw_409 hP hS hl rfl rfl (by decide) (by decide +kernel) ⟨Nat.le_of_ble_eq_true rfl, Nat.le_of_ble_eq_true rfl⟩ rfl rfl (Nat.le_of_ble_eq_true rfl) dX1_settle_128 (fun H locs hP hS => ?_)
  refine W.eq (g2 := F0 m 131 ls [.long v_6, .long (st_J t_4 1), .ref (a 3)]) rfl ?_
  refine lv_lor hx hb dX1_settle_131 ?_
  refine va_put (D := D) (ci := 1) (v := .long ((st_J t_4 1) ||| v_6)) (ty := .long) (C := RX1) (T := TX1) (N := 8) hx hb hts inX1 tyX1 tyX1_ok nmX1 hown hK hP (hD t_5) hS 3 (heX_3 ca a t_5) rfl 4 (by decide) (hts _ kw_229) (fun _ h9 => h9) rfl (by decide +kernel) rfl rfl (Nat.le_of_ble_eq_true rfl) dX1_settle_132 (fun H locs hP _ hS => ?_)
  rw [suX_3_4] at hP
  obtain ⟨t_7, e_132, hf⟩ := fb_ls hf
  rw [← e_132] at hP
  have e_135 := fb_ev hf
  subst e_135
  exact hr trivial _ _ _ _ hP hS dX1_settle_135
set_option maxRecDepth 20000 in
theorem w_X_X1_settle__3_90 {p : Program} {l : Launch} {e : Env} {s : State} {m : MethodId} {args : Array Value} {below : List Frame} {meth : Method} {c : Code} {A : Nat → Prop} {Q : State → Prop} {D : va_G} {ca : Nat → ClassId} {a : Nat → Nat} {u : fw_S}  (C : CX (WX ca a) D (tyv ca) p s m args c A prog_3_method_6_code 4 RX1) (hr : True → RX (WX ca a) D p l e rm_X_X1_settle__3 s m args below meth c A prog_3_method_6_code Q .return_ [] u) {t : fw_S} {x1 : Int32} {x2 : Int32} {x3 : Int32} {H : Heap} {locs : List Loc} {ls : Array Slot} (hf : b_X_X1_settle__3_90  t x1 x2 x3 = some u) (hP : va_P D classes (WX ca a t) H) (hS : va_S A s.heap H locs) (hl : lv_has ls 4 [(0, .ref (a 3)), (1, .int x1), (2, .int x2), (3, .int x3)]) : W p l e rm_X_X1_settle__3 s m args below meth c H locs 0 0 Q (F0 m 90 ls []) := by
  obtain ⟨hx, hb, hml, hown, hts, hN, hK, hD, hA⟩ := id C
  have hf : (fb_v (f_X_X1_run__3 t x1 x3 x2) fun t_1 => (b_X_X1_settle__3_97 t_1 x1)) = some u := hf
  refine lv_aload_n hx hb dX1_settle_90 rfl (lv_at hl 0 rfl) ?_
  refine lv_iload_n hx hb dX1_settle_91 rfl (lv_at hl 1 rfl) ?_
  refine lv_iload_n hx hb dX1_settle_92 rfl (lv_at hl 3 rfl) ?_
  refine lv_iload_n hx hb dX1_settle_93 rfl (lv_at hl 2 rfl) ?_
  obtain ⟨t_1, g_94, hf⟩ := fb_vs hf
  refine fw_V1 (As := [.int x1, .int x3, .int x2]) (rest := []) (n := 3) (q0 := 3) C (c_X_X1_run__3 (l := l) (D := D) (ca := ca) (a := a) g_94) kw_481 kw_483 kw_95 kw_484 kw_3 hP hS hl (heX_3 ca a t) rfl rfl rfl (by decide) (by decide +kernel) ⟨Nat.le_of_ble_eq_true rfl, Nat.le_of_ble_eq_true rfl⟩ rfl rfl (Nat.le_of_ble_eq_true rfl) dX1_settle_94 (fun H locs hP hS => ?_)
  refine W.eq (g2 := F0 m 97 ls []) rfl ?_
  exact w_X_X1_settle__3_97 C hr hf hP hS (lv_sub hl [0, 1] rfl)
set_option maxRecDepth 20000 in
theorem w_X_X1_settle__3_83 {p : Program} {l : Launch} {e : Env} {s : State} {m : MethodId} {args : Array Value} {below : List Frame} {meth : Method} {c : Code} {A : Nat → Prop} {Q : State → Prop} {D : va_G} {ca : Nat → ClassId} {a : Nat → Nat} {u : fw_S}  (C : CX (WX ca a) D (tyv ca) p s m args c A prog_3_method_6_code 4 RX1) (hr : True → RX (WX ca a) D p l e rm_X_X1_settle__3 s m args below meth c A prog_3_method_6_code Q .return_ [] u) {t : fw_S} {x1 : Int32} {x2 : Int32} {x3 : Int32} {H : Heap} {locs : List Loc} {ls : Array Slot} (hf : b_X_X1_settle__3_83  t x1 x2 x3 = some u) (hP : va_P D classes (WX ca a t) H) (hS : va_S A s.heap H locs) (hl : lv_has ls 4 [(0, .ref (a 3)), (1, .int x1), (2, .int x2), (3, .int x3)]) : W p l e rm_X_X1_settle__3 s m args below meth c H locs 0 0 Q (F0 m 83 ls []) := by
  obtain ⟨hx, hb, hml, hown, hts, hN, hK, hD, hA⟩ := id C
  have hf : (if (st_I t 8) = 0 then b_X_X1_settle__3_90 t x1 x2 x3 else b_X_X1_settle__3_97 t x1) = some u := hf
  refine lv_aload_n hx hb dX1_settle_83 rfl (lv_at hl 0 rfl) ?_
  refine va_get (D := D) (ci := 1) (v := .int (st_I t 8)) (C := RX1) (T := TX1) (N := 8) hx hb hts inX1 hown hK hP 3 (heX_3 ca a t) rfl 6 (by decide) (hts _ kw_231) (fun _ h9 => h9) rfl dX1_settle_84 ?_
  refine lv_if_ne (tgt := 97) hx hb dX1_settle_87 (by decide) (fun h_87 => ?_) (fun h_87 => ?_)
  · have hf := fb_f h_87 hf
    exact w_X_X1_settle__3_97 C hr hf hP hS (lv_sub hl [0, 1] rfl)
  · have hf := fb_t h_87 hf
    exact w_X_X1_settle__3_90 C hr hf hP hS (lv_sub hl [0, 1, 2, 3] rfl)
set_option maxRecDepth 20000 in
theorem w_X_X1_settle__3_77 {p : Program} {l : Launch} {e : Env} {s : State} {m : MethodId} {args : Array Value} {below : List Frame} {meth : Method} {c : Code} {A : Nat → Prop} {Q : State → Prop} {D : va_G} {ca : Nat → ClassId} {a : Nat → Nat} {u : fw_S}  (C : CX (WX ca a) D (tyv ca) p s m args c A prog_3_method_6_code 4 RX1) (hr : True → RX (WX ca a) D p l e rm_X_X1_settle__3 s m args below meth c A prog_3_method_6_code Q .return_ [] u) {t : fw_S} {x1 : Int32} {x2 : Int32} {z0 : Int32} {H : Heap} {locs : List Loc} {ls : Array Slot} (hf : b_X_X1_settle__3_77  t x1 x2 z0 = some u) (hP : va_P D classes (WX ca a t) H) (hS : va_S A s.heap H locs) (hl : lv_has ls 4 [(0, .ref (a 3)), (1, .int x1), (2, .int x2)]) : W p l e rm_X_X1_settle__3 s m args below meth c H locs 0 0 Q (F0 m 77 ls [.int z0]) := by
  obtain ⟨hx, hb, hml, hown, hts, hN, hK, hD, hA⟩ := id C
  have hf : (if z0 = ((-1 : Int32)) then b_X_X1_settle__3_97 t x1 else b_X_X1_settle__3_83 t x1 x2 z0) = some u := hf
  refine lv_istore_n (lv' := [(3, .int z0), (0, .ref (a 3)), (1, .int x1), (2, .int x2)]) hx hb dX1_settle_77 rfl hl (by decide) rfl (fun ls hl => ?_)
  refine lv_iload_n hx hb dX1_settle_78 rfl (lv_at hl 0 rfl) ?_
  refine lv_iconst (v := (-1)) hx hb dX1_settle_79 (by decide) ?_
  refine lv_icmp_eq (tgt := 97) hx hb dX1_settle_80 (by decide) (fun h_80 => ?_) (fun h_80 => ?_)
  · have hf := fb_t h_80 hf
    exact w_X_X1_settle__3_97 C hr hf hP hS (lv_sub hl [1, 2] rfl)
  · have hf := fb_f h_80 hf
    exact w_X_X1_settle__3_83 C hr hf hP hS (lv_sub hl [1, 2, 3, 0] rfl)
set_option maxRecDepth 20000 in
theorem w_X_X1_settle__3_66 {p : Program} {l : Launch} {e : Env} {s : State} {m : MethodId} {args : Array Value} {below : List Frame} {meth : Method} {c : Code} {A : Nat → Prop} {Q : State → Prop} {D : va_G} {ca : Nat → ClassId} {a : Nat → Nat} {u : fw_S}  (C : CX (WX ca a) D (tyv ca) p s m args c A prog_3_method_6_code 4 RX1) (hr : True → RX (WX ca a) D p l e rm_X_X1_settle__3 s m args below meth c A prog_3_method_6_code Q .return_ [] u) {t : fw_S} {x1 : Int32} {x2 : Int32} {H : Heap} {locs : List Loc} {ls : Array Slot} (hf : b_X_X1_settle__3_66  t x1 x2 = some u) (hP : va_P D classes (WX ca a t) H) (hS : va_S A s.heap H locs) (hl : lv_has ls 4 [(0, .ref (a 3)), (1, .int x1), (2, .int x2)]) : W p l e rm_X_X1_settle__3 s m args below meth c H locs 0 0 Q (F0 m 66 ls []) := by
  obtain ⟨hx, hb, hml, hown, hts, hN, hK, hD, hA⟩ := id C
  have hf : (b_X_X1_settle__3_77 t x1 x2 ((-5 : Int32))) = some u := hf
  refine lv_bipush (v := (-5)) hx hb dX1_settle_66 (by decide) ?_
  refine lv_goto (tgt := 77) hx hb dX1_settle_68 (by decide) ?_
  exact w_X_X1_settle__3_77 C hr hf hP hS (lv_sub hl [0, 1, 2] rfl)
set_option maxRecDepth 20000 in
theorem w_X_X1_settle__3_42 {p : Program} {l : Launch} {e : Env} {s : State} {m : MethodId} {args : Array Value} {below : List Frame} {meth : Method} {c : Code} {A : Nat → Prop} {Q : State → Prop} {D : va_G} {ca : Nat → ClassId} {a : Nat → Nat} {u : fw_S}  (C : CX (WX ca a) D (tyv ca) p s m args c A prog_3_method_6_code 4 RX1) (hr : True → RX (WX ca a) D p l e rm_X_X1_settle__3 s m args below meth c A prog_3_method_6_code Q .return_ [] u) {t : fw_S} {x1 : Int32} {x2 : Int32} {H : Heap} {locs : List Loc} {ls : Array Slot} (hf : b_X_X1_settle__3_42  t x1 x2 = some u) (hP : va_P D classes (WX ca a t) H) (hS : va_S A s.heap H locs) (hl : lv_has ls 4 [(0, .ref (a 3)), (1, .int x1), (2, .int x2)]) : W p l e rm_X_X1_settle__3 s m args below meth c H locs 0 0 Q (F0 m 42 ls []) := by
  obtain ⟨hx, hb, hml, hown, hts, hN, hK, hD, hA⟩ := id C
  have hf : (fb_b (f_X_X10_bit t x1) fun v_2 t_1 => (fb_l (up_J t_1 2 ((st_J t 2) ||| v_2)) fun t_3 => (fb_b (f_X_X10_has t_3 (st_J t_3 0) x1) fun v_5 t_4 => (if v_5 = 0 then b_X_X1_settle__3_71 t_4 x1 x2 else b_X_X1_settle__3_66 t_4 x1 x2)))) = some u := hf
  refine lv_aload_n hx hb dX1_settle_42 rfl (lv_at hl 0 rfl) ?_
  refine lv_dup hx hb dX1_settle_43 rfl ?_
  refine va_get (D := D) (ci := 1) (v := .long (st_J t 2)) (C := RX1) (T := TX1) (N := 8) hx hb hts inX1 hown hK hP 3 (heX_3 ca a t) rfl 5 (by decide) (hts _ kw_230) (fun _ h9 => h9) rfl dX1_settle_44 ?_
  refine lv_iload_n hx hb dX1_settle_47 rfl (lv_at hl 1 rfl) ?_
  obtain ⟨v_2, t_1, g_48, hf⟩ := fb_bs hf
  refine fw_S2 (As := [.int x1]) (rest := [.long (st_J t 2), .ref (a 3)]) (n := 1) C (c_X_X10_bit (l := l) (D := D) (ca := ca) (a := a) g_48) kw_466 kw_408 kw_92 kw_409 hP hS hl rfl rfl (by decide) (by decide +kernel) ⟨Nat.le_of_ble_eq_true rfl, Nat.le_of_ble_eq_true rfl⟩ rfl rfl (Nat.le_of_ble_eq_true rfl) dX1_settle_48 (fun H locs hP hS => ?_)
  refine W.eq (g2 := F0 m 51 ls [.long v_2, .long (st_J t 2), .ref (a 3)]) rfl ?_
  refine lv_lor hx hb dX1_settle_51 ?_
  refine va_put (D := D) (ci := 1) (v := .long ((st_J t 2) ||| v_2)) (ty := .long) (C := RX1) (T := TX1) (N := 8) hx hb hts inX1 tyX1 tyX1_ok nmX1 hown hK hP (hD t_1) hS 3 (heX_3 ca a t_1) rfl 5 (by decide) (hts _ kw_230) (fun _ h9 => h9) rfl (by decide +kernel) rfl rfl (Nat.le_of_ble_eq_true rfl) dX1_settle_52 (fun H locs hP _ hS => ?_)
  rw [suX_3_5] at hP
  obtain ⟨t_3, e_52, hf⟩ := fb_ls hf
  rw [← e_52] at hP
  refine lv_aload_n hx hb dX1_settle_55 rfl (lv_at hl 0 rfl) ?_
  refine va_get (D := D) (ci := 1) (v := .long (st_J t_3 0)) (C := RX1) (T := TX1) (N := 8) hx hb hts inX1 hown hK hP 3 (heX_3 ca a t_3) rfl 3 (by decide) (hts _ kw_228) (fun _ h9 => h9) rfl dX1_settle_56 ?_
  refine lv_iload_n hx hb dX1_settle_59 rfl (lv_at hl 1 rfl) ?_
  obtain ⟨v_5, t_4, g_60, hf⟩ := fb_bs hf
  refine fw_S2 (As := [.long (st_J t_3 0), .int x1]) (rest := []) (n := 2) C (c_X_X10_has (l := l) (D := D) (ca := ca) (a := a) g_60) kw_457 kw_442 kw_92 kw_443 hP hS hl rfl rfl (by decide) (by decide +kernel) ⟨Nat.le_of_ble_eq_true rfl, Nat.le_of_ble_eq_true rfl⟩ rfl rfl (Nat.le_of_ble_eq_true rfl) dX1_settle_60 (fun H locs hP hS => ?_)
  refine W.eq (g2 := F0 m 63 ls [.int v_5]) rfl ?_
  refine lv_if_eq (tgt := 71) hx hb dX1_settle_63 (by decide) (fun h_63 => ?_) (fun h_63 => ?_)
  · have hf := fb_t h_63 hf
    exact w_X_X1_settle__3_71 C hr hf hP hS (lv_sub hl [0, 1, 2] rfl)
  · have hf := fb_f h_63 hf
    exact w_X_X1_settle__3_66 C hr hf hP hS (lv_sub hl [0, 1, 2] rfl)
set_option maxRecDepth 20000 in
theorem w_X_X1_settle__3_30 {p : Program} {l : Launch} {e : Env} {s : State} {m : MethodId} {args : Array Value} {below : List Frame} {meth : Method} {c : Code} {A : Nat → Prop} {Q : State → Prop} {D : va_G} {ca : Nat → ClassId} {a : Nat → Nat} {u : fw_S}  (C : CX (WX ca a) D (tyv ca) p s m args c A prog_3_method_6_code 4 RX1) (hr : True → RX (WX ca a) D p l e rm_X_X1_settle__3 s m args below meth c A prog_3_method_6_code Q .return_ [] u) {t : fw_S} {x1 : Int32} {x2 : Int32} {H : Heap} {locs : List Loc} {ls : Array Slot} (hf : b_X_X1_settle__3_30  t x1 x2 = some u) (hP : va_P D classes (WX ca a t) H) (hS : va_S A s.heap H locs) (hl : lv_has ls 4 [(0, .ref (a 3)), (1, .int x1), (2, .int x2)]) : W p l e rm_X_X1_settle__3 s m args below meth c H locs 0 0 Q (F0 m 30 ls []) := by
  obtain ⟨hx, hb, hml, hown, hts, hN, hK, hD, hA⟩ := id C
  have hf : (if x2 ≤ ((32 : Int32)) then b_X_X1_settle__3_42 t x1 x2 else b_X_X1_settle__3_36 t) = some u := hf
  refine lv_iload_n hx hb dX1_settle_30 rfl (lv_at hl 2 rfl) ?_
  refine lv_bipush (v := 32) hx hb dX1_settle_31 (by decide) ?_
  refine lv_icmp_le (tgt := 42) hx hb dX1_settle_33 (by decide) (fun h_33 => ?_) (fun h_33 => ?_)
  · have hf := fb_t h_33 hf
    exact w_X_X1_settle__3_42 C hr hf hP hS (lv_sub hl [0, 1, 2] rfl)
  · have hf := fb_f h_33 hf
    exact w_X_X1_settle__3_36 C hr hf hP hS (lv_sub hl [0] rfl)
set_option maxRecDepth 20000 in
theorem w_X_X1_settle__3_19 {p : Program} {l : Launch} {e : Env} {s : State} {m : MethodId} {args : Array Value} {below : List Frame} {meth : Method} {c : Code} {A : Nat → Prop} {Q : State → Prop} {D : va_G} {ca : Nat → ClassId} {a : Nat → Nat} {u : fw_S}  (C : CX (WX ca a) D (tyv ca) p s m args c A prog_3_method_6_code 4 RX1) (hr : True → RX (WX ca a) D p l e rm_X_X1_settle__3 s m args below meth c A prog_3_method_6_code Q .return_ [] u) {t : fw_S} {x1 : Int32} {x2 : Int32} {H : Heap} {locs : List Loc} {ls : Array Slot} (hf : b_X_X1_settle__3_19  t x1 x2 = some u) (hP : va_P D classes (WX ca a t) H) (hS : va_S A s.heap H locs) (hl : lv_has ls 4 [(0, .ref (a 3)), (1, .int x1), (2, .int x2)]) : W p l e rm_X_X1_settle__3 s m args below meth c H locs 0 0 Q (F0 m 19 ls []) := by
  obtain ⟨hx, hb, hml, hown, hts, hN, hK, hD, hA⟩ := id C
  have hf : (fb_b (f_X_X10_has t (st_J t 2) x1) fun v_2 t_1 => (if v_2 = 0 then b_X_X1_settle__3_30 t_1 x1 x2 else b_X_X1_settle__3_36 t_1)) = some u := hf
  refine lv_aload_n hx hb dX1_settle_19 rfl (lv_at hl 0 rfl) ?_
  refine va_get (D := D) (ci := 1) (v := .long (st_J t 2)) (C := RX1) (T := TX1) (N := 8) hx hb hts inX1 hown hK hP 3 (heX_3 ca a t) rfl 5 (by decide) (hts _ kw_230) (fun _ h9 => h9) rfl dX1_settle_20 ?_
  refine lv_iload_n hx hb dX1_settle_23 rfl (lv_at hl 1 rfl) ?_
  obtain ⟨v_2, t_1, g_24, hf⟩ := fb_bs hf
  refine fw_S2 (As := [.long (st_J t 2), .int x1]) (rest := []) (n := 2) C (c_X_X10_has (l := l) (D := D) (ca := ca) (a := a) g_24) kw_457 kw_442 kw_92 kw_443 hP hS hl rfl rfl (by decide) (by decide +kernel) ⟨Nat.le_of_ble_eq_true rfl, Nat.le_of_ble_eq_true rfl⟩ rfl rfl (Nat.le_of_ble_eq_true rfl) dX1_settle_24 (fun H locs hP hS => ?_)
  refine W.eq (g2 := F0 m 27 ls [.int v_2]) rfl ?_
  refine lv_if_ne (tgt := 36) hx hb dX1_settle_27 (by decide) (fun h_27 => ?_) (fun h_27 => ?_)
  · have hf := fb_f h_27 hf
    exact w_X_X1_settle__3_36 C hr hf hP hS (lv_sub hl [0] rfl)
  · have hf := fb_t h_27 hf
    exact w_X_X1_settle__3_30 C hr hf hP hS (lv_sub hl [0, 1, 2] rfl)
set_option maxRecDepth 20000 in
theorem w_X_X1_settle__3_7 {p : Program} {l : Launch} {e : Env} {s : State} {m : MethodId} {args : Array Value} {below : List Frame} {meth : Method} {c : Code} {A : Nat → Prop} {Q : State → Prop} {D : va_G} {ca : Nat → ClassId} {a : Nat → Nat} {u : fw_S}  (C : CX (WX ca a) D (tyv ca) p s m args c A prog_3_method_6_code 4 RX1) (hr : True → RX (WX ca a) D p l e rm_X_X1_settle__3 s m args below meth c A prog_3_method_6_code Q .return_ [] u) {t : fw_S} {x1 : Int32} {x2 : Int32} {H : Heap} {locs : List Loc} {ls : Array Slot} (hf : b_X_X1_settle__3_7  t x1 x2 = some u) (hP : va_P D classes (WX ca a t) H) (hS : va_S A s.heap H locs) (hl : lv_has ls 4 [(0, .ref (a 3)), (1, .int x1), (2, .int x2)]) : W p l e rm_X_X1_settle__3 s m args below meth c H locs 0 0 Q (F0 m 7 ls []) := by
  obtain ⟨hx, hb, hml, hown, hts, hN, hK, hD, hA⟩ := id C
  have hf : (fb_b (f_X_X10_has t (st_J t 1) x1) fun v_2 t_1 => (if v_2 = 0 then b_X_X1_settle__3_19 t_1 x1 x2 else b_X_X1_settle__3_18 t_1)) = some u := hf
  refine lv_aload_n hx hb dX1_settle_7 rfl (lv_at hl 0 rfl) ?_
  refine va_get (D := D) (ci := 1) (v := .long (st_J t 1)) (C := RX1) (T := TX1) (N := 8) hx hb hts inX1 hown hK hP 3 (heX_3 ca a t) rfl 4 (by decide) (hts _ kw_229) (fun _ h9 => h9) rfl dX1_settle_8 ?_
  refine lv_iload_n hx hb dX1_settle_11 rfl (lv_at hl 1 rfl) ?_
  obtain ⟨v_2, t_1, g_12, hf⟩ := fb_bs hf
  refine fw_S2 (As := [.long (st_J t 1), .int x1]) (rest := []) (n := 2) C (c_X_X10_has (l := l) (D := D) (ca := ca) (a := a) g_12) kw_457 kw_442 kw_92 kw_443 hP hS hl rfl rfl (by decide) (by decide +kernel) ⟨Nat.le_of_ble_eq_true rfl, Nat.le_of_ble_eq_true rfl⟩ rfl rfl (Nat.le_of_ble_eq_true rfl) dX1_settle_12 (fun H locs hP hS => ?_)
  refine W.eq (g2 := F0 m 15 ls [.int v_2]) rfl ?_
  refine lv_if_eq (tgt := 19) hx hb dX1_settle_15 (by decide) (fun h_15 => ?_) (fun h_15 => ?_)
  · have hf := fb_t h_15 hf
    exact w_X_X1_settle__3_19 C hr hf hP hS (lv_sub hl [0, 1, 2] rfl)
  · have hf := fb_f h_15 hf
    exact w_X_X1_settle__3_18 C hr hf hP hS (lv_sub hl [] rfl)
set_option maxRecDepth 20000 in
theorem w_X_X1_settle__3_0 {p : Program} {l : Launch} {e : Env} {s : State} {m : MethodId} {args : Array Value} {below : List Frame} {meth : Method} {c : Code} {A : Nat → Prop} {Q : State → Prop} {D : va_G} {ca : Nat → ClassId} {a : Nat → Nat} {u : fw_S}  (C : CX (WX ca a) D (tyv ca) p s m args c A prog_3_method_6_code 4 RX1) (hr : True → RX (WX ca a) D p l e rm_X_X1_settle__3 s m args below meth c A prog_3_method_6_code Q .return_ [] u) {t : fw_S} {x1 : Int32} {x2 : Int32} {H : Heap} {locs : List Loc} {ls : Array Slot} (hf : b_X_X1_settle__3_0  t x1 x2 = some u) (hP : va_P D classes (WX ca a t) H) (hS : va_S A s.heap H locs) (hl : lv_has ls 4 [(0, .ref (a 3)), (1, .int x1), (2, .int x2)]) : W p l e rm_X_X1_settle__3 s m args below meth c H locs 0 0 Q (F0 m 0 ls []) := by
  obtain ⟨hx, hb, hml, hown, hts, hN, hK, hD, hA⟩ := id C
  have hf : (if (st_I t 8) = 0 then b_X_X1_settle__3_7 t x1 x2 else b_X_X1_settle__3_18 t) = some u := hf
  refine lv_aload_n hx hb dX1_settle_0 rfl (lv_at hl 0 rfl) ?_
  refine va_get (D := D) (ci := 1) (v := .int (st_I t 8)) (C := RX1) (T := TX1) (N := 8) hx hb hts inX1 hown hK hP 3 (heX_3 ca a t) rfl 6 (by decide) (hts _ kw_231) (fun _ h9 => h9) rfl dX1_settle_1 ?_
  refine lv_if_ne (tgt := 18) hx hb dX1_settle_4 (by decide) (fun h_4 => ?_) (fun h_4 => ?_)
  · have hf := fb_f h_4 hf
    exact w_X_X1_settle__3_18 C hr hf hP hS (lv_sub hl [] rfl)
  · have hf := fb_t h_4 hf
    exact w_X_X1_settle__3_7 C hr hf hP hS (lv_sub hl [0, 1, 2] rfl)
set_option maxRecDepth 20000 in
theorem c_X_X1_settle__3 {l : Launch} {D : va_G} {ca : Nat → ClassId} {a : Nat → Nat} {t : fw_S} {x1 : Int32} {x2 : Int32} {u : fw_S} (hf : f_X_X1_settle__3 t x1 x2 = some u) : MC (WX ca a) D (tyv ca) l yX1_settle (.code yX1_settle prog_3_method_6_code 4 none :: lw_gd) rm_X_X1_settle__3 [.ref (a 3), .int x1, .int x2] none t u := by
  refine fw_met (okX ca a) (by decide +kernel) rfl rfl (Nat.le_of_ble_eq_true rfl) ?_
  intro p e s m args below meth c A Q ls C hr hk hP hS hl hQ
  exact w_X_X1_settle__3_0 C (fun _ => fw_rv C hr hk hQ) hf hP hS (lv_sub hl [0, 1, 2] rfl)
