theorem dJ7_fill_bad5a_0 : decode prog_18_method_102_code 0 = .ok (.aload_n 0, 1) := by decide +kernel
theorem dJ7_fill_bad5a_1 : decode prog_18_method_102_code 1 = .ok (.arraylength, 1) := by decide +kernel
theorem dJ7_fill_bad5a_2 : decode prog_18_method_102_code 2 = .ok (.iload_n 1, 1) := by decide +kernel
theorem dJ7_fill_bad5a_3 : decode prog_18_method_102_code 3 = .ok (.iload_n 2, 1) := by decide +kernel
theorem dJ7_fill_bad5a_4 : decode prog_18_method_102_code 4 = .ok (.invokestatic 13, 3) := by decide +kernel
theorem dJ7_fill_bad5a_7 : decode prog_18_method_102_code 7 = .ok (.iload_n 1, 1) := by decide +kernel
theorem dJ7_fill_bad5a_8 : decode prog_18_method_102_code 8 = .ok (.istore 5, 2) := by decide +kernel
theorem dJ7_fill_bad5a_10 : decode prog_18_method_102_code 10 = .ok (.iload 5, 2) := by decide +kernel
theorem dJ7_fill_bad5a_12 : decode prog_18_method_102_code 12 = .ok (.iload_n 2, 1) := by decide +kernel
theorem dJ7_fill_bad5a_13 : decode prog_18_method_102_code 13 = .ok (.if_icmp .ge 14, 3) := by decide +kernel
theorem dJ7_fill_bad5a_16 : decode prog_18_method_102_code 16 = .ok (.aload_n 0, 1) := by decide +kernel
theorem dJ7_fill_bad5a_17 : decode prog_18_method_102_code 17 = .ok (.iload 5, 2) := by decide +kernel
theorem dJ7_fill_bad5a_19 : decode prog_18_method_102_code 19 = .ok (.lload_n 3, 1) := by decide +kernel
theorem dJ7_fill_bad5a_20 : decode prog_18_method_102_code 20 = .ok (.lastore, 1) := by decide +kernel
theorem dJ7_fill_bad5a_21 : decode prog_18_method_102_code 21 = .ok (.iinc 5 1, 3) := by decide +kernel
theorem dJ7_fill_bad5a_24 : decode prog_18_method_102_code 24 = .ok (.goto (-14), 3) := by decide +kernel
theorem dJ7_fill_bad5a_27 : decode prog_18_method_102_code 27 = .ok (.return_, 1) := by decide +kernel
theorem dJ7_rangeCheck_23922_0 : decode prog_18_method_30_code 0 = .ok (.iload_n 1, 1) := by decide +kernel
theorem dJ7_rangeCheck_23922_1 : decode prog_18_method_30_code 1 = .ok (.iload_n 2, 1) := by decide +kernel
theorem dJ7_rangeCheck_23922_2 : decode prog_18_method_30_code 2 = .ok (.if_icmp .le 44, 3) := by decide +kernel
theorem dJ7_rangeCheck_23922_5 : decode prog_18_method_30_code 5 = .ok (.new 43, 3) := by decide +kernel
theorem dJ7_rangeCheck_23922_46 : decode prog_18_method_30_code 46 = .ok (.iload_n 1, 1) := by decide +kernel
theorem dJ7_rangeCheck_23922_47 : decode prog_18_method_30_code 47 = .ok (.ifCond .ge 12, 3) := by decide +kernel
theorem dJ7_rangeCheck_23922_50 : decode prog_18_method_30_code 50 = .ok (.new 68, 3) := by decide +kernel
theorem dJ7_rangeCheck_23922_59 : decode prog_18_method_30_code 59 = .ok (.iload_n 2, 1) := by decide +kernel
theorem dJ7_rangeCheck_23922_60 : decode prog_18_method_30_code 60 = .ok (.iload_n 0, 1) := by decide +kernel
theorem dJ7_rangeCheck_23922_61 : decode prog_18_method_30_code 61 = .ok (.if_icmp .le 12, 3) := by decide +kernel
theorem dJ7_rangeCheck_23922_64 : decode prog_18_method_30_code 64 = .ok (.new 68, 3) := by decide +kernel
theorem dJ7_rangeCheck_23922_73 : decode prog_18_method_30_code 73 = .ok (.return_, 1) := by decide +kernel
theorem dX0_allRuns_0 : decode prog_2_method_33_code 0 = .ok (.iconst 0, 1) := by decide +kernel
theorem dX0_allRuns_1 : decode prog_2_method_33_code 1 = .ok (.istore_n 1, 1) := by decide +kernel
theorem dX0_allRuns_2 : decode prog_2_method_33_code 2 = .ok (.iconst 0, 1) := by decide +kernel
theorem dX0_allRuns_3 : decode prog_2_method_33_code 3 = .ok (.istore_n 2, 1) := by decide +kernel
theorem dX0_allRuns_4 : decode prog_2_method_33_code 4 = .ok (.iload_n 2, 1) := by decide +kernel
theorem dX0_allRuns_5 : decode prog_2_method_33_code 5 = .ok (.bipush 32, 2) := by decide +kernel
theorem dX0_allRuns_7 : decode prog_2_method_33_code 7 = .ok (.if_icmp .ge 18, 3) := by decide +kernel
theorem dX0_allRuns_10 : decode prog_2_method_33_code 10 = .ok (.iload_n 1, 1) := by decide +kernel
theorem dX0_allRuns_11 : decode prog_2_method_33_code 11 = .ok (.aload_n 0, 1) := by decide +kernel
theorem dX0_allRuns_12 : decode prog_2_method_33_code 12 = .ok (.getfield 28, 3) := by decide +kernel
theorem dX0_allRuns_15 : decode prog_2_method_33_code 15 = .ok (.iload_n 2, 1) := by decide +kernel
theorem dX0_allRuns_16 : decode prog_2_method_33_code 16 = .ok (.iaload, 1) := by decide +kernel
theorem dX0_allRuns_17 : decode prog_2_method_33_code 17 = .ok (.iadd, 1) := by decide +kernel
theorem dX0_allRuns_18 : decode prog_2_method_33_code 18 = .ok (.istore_n 1, 1) := by decide +kernel
theorem dX0_allRuns_19 : decode prog_2_method_33_code 19 = .ok (.iinc 2 1, 3) := by decide +kernel
theorem dX0_allRuns_22 : decode prog_2_method_33_code 22 = .ok (.goto (-18), 3) := by decide +kernel
theorem dX0_allRuns_25 : decode prog_2_method_33_code 25 = .ok (.iload_n 1, 1) := by decide +kernel
theorem dX0_allRuns_26 : decode prog_2_method_33_code 26 = .ok (.ireturn, 1) := by decide +kernel
theorem dX0_greatestHeight_0 : decode prog_2_method_34_code 0 = .ok (.iconst 0, 1) := by decide +kernel
theorem dX0_greatestHeight_1 : decode prog_2_method_34_code 1 = .ok (.istore_n 1, 1) := by decide +kernel
theorem dX0_greatestHeight_2 : decode prog_2_method_34_code 2 = .ok (.iconst 0, 1) := by decide +kernel
theorem dX0_greatestHeight_3 : decode prog_2_method_34_code 3 = .ok (.istore_n 2, 1) := by decide +kernel
theorem dX0_greatestHeight_4 : decode prog_2_method_34_code 4 = .ok (.iload_n 2, 1) := by decide +kernel
theorem dX0_greatestHeight_5 : decode prog_2_method_34_code 5 = .ok (.bipush 32, 2) := by decide +kernel
theorem dX0_greatestHeight_7 : decode prog_2_method_34_code 7 = .ok (.if_icmp .ge 20, 3) := by decide +kernel
theorem dX0_greatestHeight_10 : decode prog_2_method_34_code 10 = .ok (.iload_n 1, 1) := by decide +kernel
theorem dX0_greatestHeight_11 : decode prog_2_method_34_code 11 = .ok (.aload_n 0, 1) := by decide +kernel
theorem dX0_greatestHeight_12 : decode prog_2_method_34_code 12 = .ok (.getfield 31, 3) := by decide +kernel
theorem dX0_greatestHeight_15 : decode prog_2_method_34_code 15 = .ok (.iload_n 2, 1) := by decide +kernel
theorem dX0_greatestHeight_16 : decode prog_2_method_34_code 16 = .ok (.iaload, 1) := by decide +kernel
theorem dX0_greatestHeight_17 : decode prog_2_method_34_code 17 = .ok (.invokestatic 84, 3) := by decide +kernel
theorem dX0_greatestHeight_20 : decode prog_2_method_34_code 20 = .ok (.istore_n 1, 1) := by decide +kernel
theorem dX0_greatestHeight_21 : decode prog_2_method_34_code 21 = .ok (.iinc 2 1, 3) := by decide +kernel
theorem dX0_greatestHeight_24 : decode prog_2_method_34_code 24 = .ok (.goto (-20), 3) := by decide +kernel
theorem dX0_greatestHeight_27 : decode prog_2_method_34_code 27 = .ok (.iload_n 1, 1) := by decide +kernel
theorem dX0_greatestHeight_28 : decode prog_2_method_34_code 28 = .ok (.ireturn, 1) := by decide +kernel
theorem dX10_list_0 : decode prog_1_method_30_code 0 = .ok (.aload_n 0, 1) := by decide +kernel
theorem dX10_list_1 : decode prog_1_method_30_code 1 = .ok (.getfield 59, 3) := by decide +kernel
theorem dX10_list_4 : decode prog_1_method_30_code 4 = .ok (.iload_n 1, 1) := by decide +kernel
theorem dX10_list_5 : decode prog_1_method_30_code 5 = .ok (.invokevirtual 256, 3) := by decide +kernel
theorem dX10_list_8 : decode prog_1_method_30_code 8 = .ok (.ifCond .ne 5, 3) := by decide +kernel
theorem dX10_list_11 : decode prog_1_method_30_code 11 = .ok (.iconst (-1), 1) := by decide +kernel
theorem dX10_list_12 : decode prog_1_method_30_code 12 = .ok (.ireturn, 1) := by decide +kernel
theorem dX10_list_13 : decode prog_1_method_30_code 13 = .ok (.iload_n 2, 1) := by decide +kernel
theorem dX10_list_14 : decode prog_1_method_30_code 14 = .ok (.bipush 40, 2) := by decide +kernel
theorem dX10_list_16 : decode prog_1_method_30_code 16 = .ok (.if_icmp .le 6, 3) := by decide +kernel
theorem dX10_list_19 : decode prog_1_method_30_code 19 = .ok (.bipush (-2), 2) := by decide +kernel
theorem dX10_list_21 : decode prog_1_method_30_code 21 = .ok (.ireturn, 1) := by decide +kernel
theorem dX10_list_22 : decode prog_1_method_30_code 22 = .ok (.iload_n 2, 1) := by decide +kernel
theorem dX10_list_23 : decode prog_1_method_30_code 23 = .ok (.ifCond .ge 6, 3) := by decide +kernel
theorem dX10_list_26 : decode prog_1_method_30_code 26 = .ok (.bipush (-14), 2) := by decide +kernel
theorem dX10_list_28 : decode prog_1_method_30_code 28 = .ok (.ireturn, 1) := by decide +kernel
theorem dX10_list_29 : decode prog_1_method_30_code 29 = .ok (.aload_n 0, 1) := by decide +kernel
theorem dX10_list_30 : decode prog_1_method_30_code 30 = .ok (.getfield 59, 3) := by decide +kernel
theorem dX10_list_33 : decode prog_1_method_30_code 33 = .ok (.iload_n 1, 1) := by decide +kernel
theorem dX10_list_34 : decode prog_1_method_30_code 34 = .ok (.iload_n 2, 1) := by decide +kernel
theorem dX10_list_35 : decode prog_1_method_30_code 35 = .ok (.invokevirtual 259, 3) := by decide +kernel
theorem dX10_list_38 : decode prog_1_method_30_code 38 = .ok (.iconst 1, 1) := by decide +kernel
theorem dX10_list_39 : decode prog_1_method_30_code 39 = .ok (.ireturn, 1) := by decide +kernel
theorem dX10_log_0 : decode prog_1_method_26_code 0 = .ok (.aload_n 0, 1) := by decide +kernel
theorem dX10_log_1 : decode prog_1_method_26_code 1 = .ok (.getfield 45, 3) := by decide +kernel
theorem dX10_log_4 : decode prog_1_method_26_code 4 = .ok (.iload_n 1, 1) := by decide +kernel
theorem dX10_log_5 : decode prog_1_method_26_code 5 = .ok (.iload_n 2, 1) := by decide +kernel
theorem dX10_log_6 : decode prog_1_method_26_code 6 = .ok (.invokevirtual 224, 3) := by decide +kernel
theorem dX10_log_9 : decode prog_1_method_26_code 9 = .ok (.ireturn, 1) := by decide +kernel
theorem dX10_logged_0 : decode prog_1_method_27_code 0 = .ok (.aload_n 0, 1) := by decide +kernel
theorem dX10_logged_1 : decode prog_1_method_27_code 1 = .ok (.getfield 45, 3) := by decide +kernel
theorem dX10_logged_4 : decode prog_1_method_27_code 4 = .ok (.iload_n 1, 1) := by decide +kernel
theorem dX10_logged_5 : decode prog_1_method_27_code 5 = .ok (.iload_n 2, 1) := by decide +kernel
theorem dX10_logged_6 : decode prog_1_method_27_code 6 = .ok (.invokevirtual 227, 3) := by decide +kernel
theorem dX10_logged_9 : decode prog_1_method_27_code 9 = .ok (.lreturn, 1) := by decide +kernel
theorem dX10_paper_0 : decode prog_1_method_23_code 0 = .ok (.aload_n 0, 1) := by decide +kernel
theorem dX10_paper_1 : decode prog_1_method_23_code 1 = .ok (.getfield 21, 3) := by decide +kernel
theorem dX10_paper_4 : decode prog_1_method_23_code 4 = .ok (.iload_n 1, 1) := by decide +kernel
theorem dX10_paper_5 : decode prog_1_method_23_code 5 = .ok (.invokevirtual 214, 3) := by decide +kernel
theorem dX10_paper_8 : decode prog_1_method_23_code 8 = .ok (.ireturn, 1) := by decide +kernel
theorem dX10_past_0 : decode prog_1_method_29_code 0 = .ok (.aload_n 0, 1) := by decide +kernel
theorem dX10_past_1 : decode prog_1_method_29_code 1 = .ok (.getfield 52, 3) := by decide +kernel
theorem dX10_past_4 : decode prog_1_method_29_code 4 = .ok (.iload_n 1, 1) := by decide +kernel
theorem dX10_past_5 : decode prog_1_method_29_code 5 = .ok (.iload_n 2, 1) := by decide +kernel
theorem dX10_past_6 : decode prog_1_method_29_code 6 = .ok (.invokevirtual 255, 3) := by decide +kernel
theorem dX10_past_9 : decode prog_1_method_29_code 9 = .ok (.ireturn, 1) := by decide +kernel
theorem dX10_quit_0 : decode prog_1_method_25_code 0 = .ok (.aload_n 0, 1) := by decide +kernel
theorem dX10_quit_1 : decode prog_1_method_25_code 1 = .ok (.getfield 45, 3) := by decide +kernel
theorem dX10_quit_4 : decode prog_1_method_25_code 4 = .ok (.iload_n 1, 1) := by decide +kernel
theorem dX10_quit_5 : decode prog_1_method_25_code 5 = .ok (.invokevirtual 221, 3) := by decide +kernel
theorem dX10_quit_8 : decode prog_1_method_25_code 8 = .ok (.ireturn, 1) := by decide +kernel
theorem dX10_seek_0 : decode prog_1_method_21_code 0 = .ok (.iload_n 1, 1) := by decide +kernel
theorem dX10_seek_1 : decode prog_1_method_21_code 1 = .ok (.i2l, 1) := by decide +kernel
theorem dX10_seek_2 : decode prog_1_method_21_code 2 = .ok (.invokestatic 87, 3) := by decide +kernel
theorem dX10_seek_5 : decode prog_1_method_21_code 5 = .ok (.ifCond .eq 24, 3) := by decide +kernel
theorem dX10_seek_8 : decode prog_1_method_21_code 8 = .ok (.iload 5, 2) := by decide +kernel
theorem dX10_seek_10 : decode prog_1_method_21_code 10 = .ok (.i2l, 1) := by decide +kernel
theorem dX10_seek_11 : decode prog_1_method_21_code 11 = .ok (.invokestatic 87, 3) := by decide +kernel
theorem dX10_seek_14 : decode prog_1_method_21_code 14 = .ok (.ifCond .eq 15, 3) := by decide +kernel
theorem dX10_seek_17 : decode prog_1_method_21_code 17 = .ok (.iload 4, 2) := by decide +kernel
theorem dX10_seek_19 : decode prog_1_method_21_code 19 = .ok (.ifCond .lt 10, 3) := by decide +kernel
theorem dX10_seek_22 : decode prog_1_method_21_code 22 = .ok (.iload 4, 2) := by decide +kernel
theorem dX10_seek_24 : decode prog_1_method_21_code 24 = .ok (.bipush 12, 2) := by decide +kernel
theorem dX10_seek_26 : decode prog_1_method_21_code 26 = .ok (.if_icmp .le 7, 3) := by decide +kernel
theorem dX10_seek_29 : decode prog_1_method_21_code 29 = .ok (.ldc2_w 181, 3) := by decide +kernel
theorem dX10_seek_32 : decode prog_1_method_21_code 32 = .ok (.lreturn, 1) := by decide +kernel
theorem dX10_seek_33 : decode prog_1_method_21_code 33 = .ok (.iconst 0, 1) := by decide +kernel
theorem dX10_seek_34 : decode prog_1_method_21_code 34 = .ok (.istore 8, 2) := by decide +kernel
theorem dX10_seek_36 : decode prog_1_method_21_code 36 = .ok (.iload 8, 2) := by decide +kernel
theorem dX10_seek_38 : decode prog_1_method_21_code 38 = .ok (.iload 4, 2) := by decide +kernel
theorem dX10_seek_40 : decode prog_1_method_21_code 40 = .ok (.if_icmp .ge 70, 3) := by decide +kernel
theorem dX10_seek_43 : decode prog_1_method_21_code 43 = .ok (.lload_n 2, 1) := by decide +kernel
theorem dX10_seek_44 : decode prog_1_method_21_code 44 = .ok (.ldc2_w 203, 3) := by decide +kernel
theorem dX10_seek_47 : decode prog_1_method_21_code 47 = .ok (.iload 8, 2) := by decide +kernel
theorem dX10_seek_49 : decode prog_1_method_21_code 49 = .ok (.i2l, 1) := by decide +kernel
theorem dX10_seek_50 : decode prog_1_method_21_code 50 = .ok (.lsub, 1) := by decide +kernel
theorem dX10_seek_51 : decode prog_1_method_21_code 51 = .ok (.lcmp, 1) := by decide +kernel
theorem dX10_seek_52 : decode prog_1_method_21_code 52 = .ok (.ifCond .gt 58, 3) := by decide +kernel
theorem dX10_seek_55 : decode prog_1_method_21_code 55 = .ok (.aload_n 0, 1) := by decide +kernel
theorem dX10_seek_56 : decode prog_1_method_21_code 56 = .ok (.iload_n 1, 1) := by decide +kernel
theorem dX10_seek_57 : decode prog_1_method_21_code 57 = .ok (.lload_n 2, 1) := by decide +kernel
theorem dX10_seek_58 : decode prog_1_method_21_code 58 = .ok (.iload 8, 2) := by decide +kernel
theorem dX10_seek_60 : decode prog_1_method_21_code 60 = .ok (.i2l, 1) := by decide +kernel
theorem dX10_seek_61 : decode prog_1_method_21_code 61 = .ok (.ladd, 1) := by decide +kernel
theorem dX10_seek_62 : decode prog_1_method_21_code 62 = .ok (.invokevirtual 196, 3) := by decide +kernel
theorem dX10_seek_65 : decode prog_1_method_21_code 65 = .ok (.bipush (-7), 2) := by decide +kernel
theorem dX10_seek_67 : decode prog_1_method_21_code 67 = .ok (.if_icmp .eq 37, 3) := by decide +kernel
theorem dX10_seek_70 : decode prog_1_method_21_code 70 = .ok (.aload_n 0, 1) := by decide +kernel
theorem dX10_seek_71 : decode prog_1_method_21_code 71 = .ok (.getfield 28, 3) := by decide +kernel
theorem dX10_seek_74 : decode prog_1_method_21_code 74 = .ok (.invokevirtual 106, 3) := by decide +kernel
theorem dX10_seek_77 : decode prog_1_method_21_code 77 = .ok (.iload 5, 2) := by decide +kernel
theorem dX10_seek_79 : decode prog_1_method_21_code 79 = .ok (.lload 6, 2) := by decide +kernel
theorem dX10_seek_81 : decode prog_1_method_21_code 81 = .ok (.invokevirtual 205, 3) := by decide +kernel
theorem dX10_seek_84 : decode prog_1_method_21_code 84 = .ok (.istore 9, 2) := by decide +kernel
theorem dX10_seek_86 : decode prog_1_method_21_code 86 = .ok (.aload_n 0, 1) := by decide +kernel
theorem dX10_seek_87 : decode prog_1_method_21_code 87 = .ok (.getfield 28, 3) := by decide +kernel
theorem dX10_seek_90 : decode prog_1_method_21_code 90 = .ok (.invokevirtual 200, 3) := by decide +kernel
theorem dX10_seek_93 : decode prog_1_method_21_code 93 = .ok (.iload 9, 2) := by decide +kernel
theorem dX10_seek_95 : decode prog_1_method_21_code 95 = .ok (.ifCond .eq 9, 3) := by decide +kernel
theorem dX10_seek_98 : decode prog_1_method_21_code 98 = .ok (.lload_n 2, 1) := by decide +kernel
theorem dX10_seek_99 : decode prog_1_method_21_code 99 = .ok (.iload 8, 2) := by decide +kernel
theorem dX10_seek_101 : decode prog_1_method_21_code 101 = .ok (.i2l, 1) := by decide +kernel
theorem dX10_seek_102 : decode prog_1_method_21_code 102 = .ok (.ladd, 1) := by decide +kernel
theorem dX10_seek_103 : decode prog_1_method_21_code 103 = .ok (.lreturn, 1) := by decide +kernel
theorem dX10_seek_104 : decode prog_1_method_21_code 104 = .ok (.iinc 8 1, 3) := by decide +kernel
theorem dX10_seek_107 : decode prog_1_method_21_code 107 = .ok (.goto (-71), 3) := by decide +kernel
theorem dX10_seek_110 : decode prog_1_method_21_code 110 = .ok (.ldc2_w 181, 3) := by decide +kernel
theorem dX10_seek_113 : decode prog_1_method_21_code 113 = .ok (.lreturn, 1) := by decide +kernel
theorem dX10_spell_0 : decode prog_1_method_22_code 0 = .ok (.iload_n 1, 1) := by decide +kernel
theorem dX10_spell_1 : decode prog_1_method_22_code 1 = .ok (.i2l, 1) := by decide +kernel
theorem dX10_spell_2 : decode prog_1_method_22_code 2 = .ok (.invokestatic 87, 3) := by decide +kernel
theorem dX10_spell_5 : decode prog_1_method_22_code 5 = .ok (.ifCond .ne 5, 3) := by decide +kernel
theorem dX10_spell_8 : decode prog_1_method_22_code 8 = .ok (.iconst (-1), 1) := by decide +kernel
theorem dX10_spell_9 : decode prog_1_method_22_code 9 = .ok (.ireturn, 1) := by decide +kernel
theorem dX10_spell_10 : decode prog_1_method_22_code 10 = .ok (.aload_n 0, 1) := by decide +kernel
theorem dX10_spell_11 : decode prog_1_method_22_code 11 = .ok (.getfield 28, 3) := by decide +kernel
theorem dX10_spell_14 : decode prog_1_method_22_code 14 = .ok (.invokevirtual 106, 3) := by decide +kernel
theorem dX10_spell_17 : decode prog_1_method_22_code 17 = .ok (.iload_n 1, 1) := by decide +kernel
theorem dX10_spell_18 : decode prog_1_method_22_code 18 = .ok (.invokevirtual 110, 3) := by decide +kernel
theorem dX10_spell_21 : decode prog_1_method_22_code 21 = .ok (.astore_n 2, 1) := by decide +kernel
theorem dX10_spell_22 : decode prog_1_method_22_code 22 = .ok (.aload_n 2, 1) := by decide +kernel
theorem dX10_spell_23 : decode prog_1_method_22_code 23 = .ok (.ifnonnull 6, 3) := by decide +kernel
theorem dX10_spell_26 : decode prog_1_method_22_code 26 = .ok (.bipush (-3), 2) := by decide +kernel
theorem dX10_spell_28 : decode prog_1_method_22_code 28 = .ok (.ireturn, 1) := by decide +kernel
theorem dX10_told_0 : decode prog_1_method_28_code 0 = .ok (.aload_n 0, 1) := by decide +kernel
theorem dX10_told_1 : decode prog_1_method_28_code 1 = .ok (.getfield 28, 3) := by decide +kernel
theorem dX10_told_4 : decode prog_1_method_28_code 4 = .ok (.invokevirtual 106, 3) := by decide +kernel
theorem dX10_told_7 : decode prog_1_method_28_code 7 = .ok (.astore_n 2, 1) := by decide +kernel
theorem dX10_told_8 : decode prog_1_method_28_code 8 = .ok (.iload_n 1, 1) := by decide +kernel
theorem dX10_told_9 : decode prog_1_method_28_code 9 = .ok (.tableswitch 160 0 12 #[67, 73, 79, 84, 89, 94, 102, 110, 118, 131, 139, 147, 155], 67) := by decide +kernel
theorem dX10_told_76 : decode prog_1_method_28_code 76 = .ok (.aload_n 2, 1) := by decide +kernel
theorem dX10_told_77 : decode prog_1_method_28_code 77 = .ok (.iconst 1, 1) := by decide +kernel
theorem dX10_told_78 : decode prog_1_method_28_code 78 = .ok (.invokevirtual 231, 3) := by decide +kernel
theorem dX10_told_81 : decode prog_1_method_28_code 81 = .ok (.ireturn, 1) := by decide +kernel
theorem dX10_told_82 : decode prog_1_method_28_code 82 = .ok (.aload_n 2, 1) := by decide +kernel
theorem dX10_told_83 : decode prog_1_method_28_code 83 = .ok (.iconst 2, 1) := by decide +kernel
theorem dX10_told_84 : decode prog_1_method_28_code 84 = .ok (.invokevirtual 231, 3) := by decide +kernel
theorem dX10_told_87 : decode prog_1_method_28_code 87 = .ok (.ireturn, 1) := by decide +kernel
theorem dX10_told_88 : decode prog_1_method_28_code 88 = .ok (.aload_n 2, 1) := by decide +kernel
theorem dX10_told_89 : decode prog_1_method_28_code 89 = .ok (.invokevirtual 234, 3) := by decide +kernel
theorem dX10_told_92 : decode prog_1_method_28_code 92 = .ok (.ireturn, 1) := by decide +kernel
theorem dX10_told_93 : decode prog_1_method_28_code 93 = .ok (.aload_n 2, 1) := by decide +kernel
theorem dX10_told_94 : decode prog_1_method_28_code 94 = .ok (.invokevirtual 237, 3) := by decide +kernel
theorem dX10_told_97 : decode prog_1_method_28_code 97 = .ok (.ireturn, 1) := by decide +kernel
theorem dX10_told_98 : decode prog_1_method_28_code 98 = .ok (.aload_n 2, 1) := by decide +kernel
theorem dX10_told_99 : decode prog_1_method_28_code 99 = .ok (.invokevirtual 240, 3) := by decide +kernel
theorem dX10_told_102 : decode prog_1_method_28_code 102 = .ok (.ireturn, 1) := by decide +kernel
theorem dX10_told_103 : decode prog_1_method_28_code 103 = .ok (.aload_n 0, 1) := by decide +kernel
theorem dX10_told_104 : decode prog_1_method_28_code 104 = .ok (.getfield 52, 3) := by decide +kernel
theorem dX10_told_107 : decode prog_1_method_28_code 107 = .ok (.invokevirtual 243, 3) := by decide +kernel
theorem dX10_told_110 : decode prog_1_method_28_code 110 = .ok (.ireturn, 1) := by decide +kernel
theorem dX10_told_111 : decode prog_1_method_28_code 111 = .ok (.aload_n 0, 1) := by decide +kernel
theorem dX10_told_112 : decode prog_1_method_28_code 112 = .ok (.getfield 45, 3) := by decide +kernel
theorem dX10_told_115 : decode prog_1_method_28_code 115 = .ok (.invokevirtual 246, 3) := by decide +kernel
theorem dX10_told_118 : decode prog_1_method_28_code 118 = .ok (.ireturn, 1) := by decide +kernel
theorem dX10_told_119 : decode prog_1_method_28_code 119 = .ok (.aload_n 0, 1) := by decide +kernel
theorem dX10_told_120 : decode prog_1_method_28_code 120 = .ok (.getfield 45, 3) := by decide +kernel
theorem dX10_told_123 : decode prog_1_method_28_code 123 = .ok (.invokevirtual 249, 3) := by decide +kernel
theorem dX10_told_126 : decode prog_1_method_28_code 126 = .ok (.ireturn, 1) := by decide +kernel
theorem dX10_told_127 : decode prog_1_method_28_code 127 = .ok (.aload_n 0, 1) := by decide +kernel
theorem dX10_told_128 : decode prog_1_method_28_code 128 = .ok (.getfield 80, 3) := by decide +kernel
theorem dX10_told_131 : decode prog_1_method_28_code 131 = .ok (.ifCond .eq 7, 3) := by decide +kernel
theorem dX10_told_134 : decode prog_1_method_28_code 134 = .ok (.iconst 1, 1) := by decide +kernel
theorem dX10_told_135 : decode prog_1_method_28_code 135 = .ok (.goto 4, 3) := by decide +kernel
theorem dX10_told_138 : decode prog_1_method_28_code 138 = .ok (.iconst 0, 1) := by decide +kernel
theorem dX10_told_139 : decode prog_1_method_28_code 139 = .ok (.ireturn, 1) := by decide +kernel
theorem dX10_told_140 : decode prog_1_method_28_code 140 = .ok (.aload_n 0, 1) := by decide +kernel
theorem dX10_told_141 : decode prog_1_method_28_code 141 = .ok (.getfield 35, 3) := by decide +kernel
theorem dX10_told_144 : decode prog_1_method_28_code 144 = .ok (.invokevirtual 130, 3) := by decide +kernel
theorem dX10_told_147 : decode prog_1_method_28_code 147 = .ok (.ireturn, 1) := by decide +kernel
theorem dX10_told_148 : decode prog_1_method_28_code 148 = .ok (.aload_n 0, 1) := by decide +kernel
theorem dX10_told_149 : decode prog_1_method_28_code 149 = .ok (.getfield 12, 3) := by decide +kernel
theorem dX10_told_152 : decode prog_1_method_28_code 152 = .ok (.invokevirtual 140, 3) := by decide +kernel
theorem dX10_told_155 : decode prog_1_method_28_code 155 = .ok (.ireturn, 1) := by decide +kernel
theorem dX10_told_156 : decode prog_1_method_28_code 156 = .ok (.aload_n 0, 1) := by decide +kernel
theorem dX10_told_157 : decode prog_1_method_28_code 157 = .ok (.getfield 21, 3) := by decide +kernel
theorem dX10_told_160 : decode prog_1_method_28_code 160 = .ok (.invokevirtual 213, 3) := by decide +kernel
theorem dX10_told_163 : decode prog_1_method_28_code 163 = .ok (.ireturn, 1) := by decide +kernel
theorem dX10_told_164 : decode prog_1_method_28_code 164 = .ok (.aload_n 2, 1) := by decide +kernel
theorem dX10_told_165 : decode prog_1_method_28_code 165 = .ok (.invokevirtual 252, 3) := by decide +kernel
theorem dX10_told_168 : decode prog_1_method_28_code 168 = .ok (.ireturn, 1) := by decide +kernel
theorem dX10_told_169 : decode prog_1_method_28_code 169 = .ok (.iconst (-1), 1) := by decide +kernel
theorem dX10_told_170 : decode prog_1_method_28_code 170 = .ok (.ireturn, 1) := by decide +kernel
theorem dX10_watch_0 : decode prog_1_method_24_code 0 = .ok (.iload_n 1, 1) := by decide +kernel
theorem dX10_watch_1 : decode prog_1_method_24_code 1 = .ok (.i2l, 1) := by decide +kernel
theorem dX10_watch_2 : decode prog_1_method_24_code 2 = .ok (.invokestatic 87, 3) := by decide +kernel
theorem dX10_watch_5 : decode prog_1_method_24_code 5 = .ok (.ifCond .eq 12, 3) := by decide +kernel
theorem dX10_watch_8 : decode prog_1_method_24_code 8 = .ok (.iload_n 2, 1) := by decide +kernel
theorem dX10_watch_9 : decode prog_1_method_24_code 9 = .ok (.ifCond .lt 8, 3) := by decide +kernel
theorem dX10_watch_12 : decode prog_1_method_24_code 12 = .ok (.iload_n 2, 1) := by decide +kernel
theorem dX10_watch_13 : decode prog_1_method_24_code 13 = .ok (.iconst 3, 1) := by decide +kernel
theorem dX10_watch_14 : decode prog_1_method_24_code 14 = .ok (.if_icmp .le 5, 3) := by decide +kernel
theorem dX10_watch_17 : decode prog_1_method_24_code 17 = .ok (.iconst (-1), 1) := by decide +kernel
theorem dX10_watch_18 : decode prog_1_method_24_code 18 = .ok (.ireturn, 1) := by decide +kernel
theorem dX10_watch_19 : decode prog_1_method_24_code 19 = .ok (.aload_n 0, 1) := by decide +kernel
theorem dX10_watch_20 : decode prog_1_method_24_code 20 = .ok (.getfield 45, 3) := by decide +kernel
theorem dX10_watch_23 : decode prog_1_method_24_code 23 = .ok (.iload_n 1, 1) := by decide +kernel
theorem dX10_watch_24 : decode prog_1_method_24_code 24 = .ok (.iload_n 2, 1) := by decide +kernel
theorem dX10_watch_25 : decode prog_1_method_24_code 25 = .ok (.lload_n 3, 1) := by decide +kernel
theorem dX10_watch_26 : decode prog_1_method_24_code 26 = .ok (.invokevirtual 217, 3) := by decide +kernel
theorem dX10_watch_29 : decode prog_1_method_24_code 29 = .ok (.ireturn, 1) := by decide +kernel
theorem dX3_entry_0 : decode prog_5_method_4_code 0 = .ok (.iload_n 1, 1) := by decide +kernel
theorem dX3_entry_1 : decode prog_5_method_4_code 1 = .ok (.ifCond .lt 26, 3) := by decide +kernel
theorem dX3_entry_4 : decode prog_5_method_4_code 4 = .ok (.iload_n 1, 1) := by decide +kernel
theorem dX3_entry_5 : decode prog_5_method_4_code 5 = .ok (.bipush 20, 2) := by decide +kernel
theorem dX3_entry_7 : decode prog_5_method_4_code 7 = .ok (.if_icmp .ge 20, 3) := by decide +kernel
theorem dX3_entry_10 : decode prog_5_method_4_code 10 = .ok (.iload_n 1, 1) := by decide +kernel
theorem dX3_entry_11 : decode prog_5_method_4_code 11 = .ok (.aload_n 0, 1) := by decide +kernel
theorem dX3_entry_12 : decode prog_5_method_4_code 12 = .ok (.getfield 15, 3) := by decide +kernel
theorem dX3_entry_15 : decode prog_5_method_4_code 15 = .ok (.if_icmp .ge 12, 3) := by decide +kernel
theorem dX3_entry_18 : decode prog_5_method_4_code 18 = .ok (.iload_n 2, 1) := by decide +kernel
theorem dX3_entry_19 : decode prog_5_method_4_code 19 = .ok (.ifCond .lt 8, 3) := by decide +kernel
theorem dX3_entry_22 : decode prog_5_method_4_code 22 = .ok (.iload_n 2, 1) := by decide +kernel
theorem dX3_entry_23 : decode prog_5_method_4_code 23 = .ok (.iconst 4, 1) := by decide +kernel
theorem dX3_entry_24 : decode prog_5_method_4_code 24 = .ok (.if_icmp .lt 5, 3) := by decide +kernel
theorem dX3_entry_27 : decode prog_5_method_4_code 27 = .ok (.iconst (-1), 1) := by decide +kernel
theorem dX3_entry_28 : decode prog_5_method_4_code 28 = .ok (.ireturn, 1) := by decide +kernel
theorem dX3_entry_29 : decode prog_5_method_4_code 29 = .ok (.aload_n 0, 1) := by decide +kernel
theorem dX3_entry_30 : decode prog_5_method_4_code 30 = .ok (.getfield 11, 3) := by decide +kernel
theorem dX3_entry_33 : decode prog_5_method_4_code 33 = .ok (.aload_n 0, 1) := by decide +kernel
theorem dX3_entry_34 : decode prog_5_method_4_code 34 = .ok (.getfield 15, 3) := by decide +kernel
theorem dX3_entry_37 : decode prog_5_method_4_code 37 = .ok (.iconst 1, 1) := by decide +kernel
theorem dX3_entry_38 : decode prog_5_method_4_code 38 = .ok (.isub, 1) := by decide +kernel
theorem dX3_entry_39 : decode prog_5_method_4_code 39 = .ok (.iload_n 1, 1) := by decide +kernel
theorem dX3_entry_40 : decode prog_5_method_4_code 40 = .ok (.isub, 1) := by decide +kernel
theorem dX3_entry_41 : decode prog_5_method_4_code 41 = .ok (.bipush 20, 2) := by decide +kernel
theorem dX3_entry_43 : decode prog_5_method_4_code 43 = .ok (.invokestatic 19, 3) := by decide +kernel
theorem dX3_entry_46 : decode prog_5_method_4_code 46 = .ok (.iconst 4, 1) := by decide +kernel
theorem dX3_entry_47 : decode prog_5_method_4_code 47 = .ok (.imul, 1) := by decide +kernel
theorem dX3_entry_48 : decode prog_5_method_4_code 48 = .ok (.iload_n 2, 1) := by decide +kernel
theorem dX3_entry_49 : decode prog_5_method_4_code 49 = .ok (.iadd, 1) := by decide +kernel
theorem dX3_entry_50 : decode prog_5_method_4_code 50 = .ok (.iaload, 1) := by decide +kernel
theorem dX3_entry_51 : decode prog_5_method_4_code 51 = .ok (.ireturn, 1) := by decide +kernel
theorem dX3_waves_0 : decode prog_5_method_2_code 0 = .ok (.aload_n 0, 1) := by decide +kernel
theorem dX3_waves_1 : decode prog_5_method_2_code 1 = .ok (.getfield 15, 3) := by decide +kernel
theorem dX3_waves_4 : decode prog_5_method_2_code 4 = .ok (.ireturn, 1) := by decide +kernel
theorem dX4_hasPlace_0 : decode prog_6_method_4_code 0 = .ok (.aload_n 0, 1) := by decide +kernel
theorem dX4_hasPlace_1 : decode prog_6_method_4_code 1 = .ok (.iload_n 1, 1) := by decide +kernel
theorem dX4_hasPlace_2 : decode prog_6_method_4_code 2 = .ok (.invokevirtual 19, 3) := by decide +kernel
theorem dX4_hasPlace_5 : decode prog_6_method_4_code 5 = .ok (.ifCond .eq 33, 3) := by decide +kernel
theorem dX4_hasPlace_8 : decode prog_6_method_4_code 8 = .ok (.lload_n 2, 1) := by decide +kernel
theorem dX4_hasPlace_9 : decode prog_6_method_4_code 9 = .ok (.lconst 0, 1) := by decide +kernel
theorem dX4_hasPlace_10 : decode prog_6_method_4_code 10 = .ok (.lcmp, 1) := by decide +kernel
theorem dX4_hasPlace_11 : decode prog_6_method_4_code 11 = .ok (.ifCond .lt 27, 3) := by decide +kernel
theorem dX4_hasPlace_14 : decode prog_6_method_4_code 14 = .ok (.lload_n 2, 1) := by decide +kernel
theorem dX4_hasPlace_15 : decode prog_6_method_4_code 15 = .ok (.aload_n 0, 1) := by decide +kernel
theorem dX4_hasPlace_16 : decode prog_6_method_4_code 16 = .ok (.getfield 15, 3) := by decide +kernel
theorem dX4_hasPlace_19 : decode prog_6_method_4_code 19 = .ok (.iload_n 1, 1) := by decide +kernel
theorem dX4_hasPlace_20 : decode prog_6_method_4_code 20 = .ok (.iaload, 1) := by decide +kernel
theorem dX4_hasPlace_21 : decode prog_6_method_4_code 21 = .ok (.i2l, 1) := by decide +kernel
theorem dX4_hasPlace_22 : decode prog_6_method_4_code 22 = .ok (.lcmp, 1) := by decide +kernel
theorem dX4_hasPlace_23 : decode prog_6_method_4_code 23 = .ok (.ifCond .ge 15, 3) := by decide +kernel
theorem dX4_hasPlace_26 : decode prog_6_method_4_code 26 = .ok (.lload_n 2, 1) := by decide +kernel
theorem dX4_hasPlace_27 : decode prog_6_method_4_code 27 = .ok (.ldc2_w 23, 3) := by decide +kernel
theorem dX4_hasPlace_30 : decode prog_6_method_4_code 30 = .ok (.lcmp, 1) := by decide +kernel
theorem dX4_hasPlace_31 : decode prog_6_method_4_code 31 = .ok (.ifCond .ge 7, 3) := by decide +kernel
theorem dX4_hasPlace_34 : decode prog_6_method_4_code 34 = .ok (.iconst 1, 1) := by decide +kernel
theorem dX4_hasPlace_35 : decode prog_6_method_4_code 35 = .ok (.goto 4, 3) := by decide +kernel
theorem dX4_hasPlace_38 : decode prog_6_method_4_code 38 = .ok (.iconst 0, 1) := by decide +kernel
theorem dX4_hasPlace_39 : decode prog_6_method_4_code 39 = .ok (.ireturn, 1) := by decide +kernel
theorem dX4_isList_0 : decode prog_6_method_2_code 0 = .ok (.iload_n 1, 1) := by decide +kernel
theorem dX4_isList_1 : decode prog_6_method_2_code 1 = .ok (.ifCond .lt 12, 3) := by decide +kernel
theorem dX4_isList_4 : decode prog_6_method_2_code 4 = .ok (.iload_n 1, 1) := by decide +kernel
theorem dX4_isList_5 : decode prog_6_method_2_code 5 = .ok (.iconst 4, 1) := by decide +kernel
theorem dX4_isList_6 : decode prog_6_method_2_code 6 = .ok (.if_icmp .ge 7, 3) := by decide +kernel
theorem dX4_isList_9 : decode prog_6_method_2_code 9 = .ok (.iconst 1, 1) := by decide +kernel
theorem dX4_isList_10 : decode prog_6_method_2_code 10 = .ok (.goto 4, 3) := by decide +kernel
theorem dX4_isList_13 : decode prog_6_method_2_code 13 = .ok (.iconst 0, 1) := by decide +kernel
theorem dX4_isList_14 : decode prog_6_method_2_code 14 = .ok (.ireturn, 1) := by decide +kernel
theorem dX4_isMade_0 : decode prog_6_method_3_code 0 = .ok (.aload_n 0, 1) := by decide +kernel
theorem dX4_isMade_1 : decode prog_6_method_3_code 1 = .ok (.iload_n 1, 1) := by decide +kernel
theorem dX4_isMade_2 : decode prog_6_method_3_code 2 = .ok (.invokevirtual 19, 3) := by decide +kernel
theorem dX4_isMade_5 : decode prog_6_method_3_code 5 = .ok (.ifCond .eq 16, 3) := by decide +kernel
theorem dX4_isMade_8 : decode prog_6_method_3_code 8 = .ok (.aload_n 0, 1) := by decide +kernel
theorem dX4_isMade_9 : decode prog_6_method_3_code 9 = .ok (.getfield 15, 3) := by decide +kernel
theorem dX4_isMade_12 : decode prog_6_method_3_code 12 = .ok (.iload_n 1, 1) := by decide +kernel
theorem dX4_isMade_13 : decode prog_6_method_3_code 13 = .ok (.iaload, 1) := by decide +kernel
theorem dX4_isMade_14 : decode prog_6_method_3_code 14 = .ok (.ifCond .lt 7, 3) := by decide +kernel
theorem dX4_isMade_17 : decode prog_6_method_3_code 17 = .ok (.iconst 1, 1) := by decide +kernel
theorem dX4_isMade_18 : decode prog_6_method_3_code 18 = .ok (.goto 4, 3) := by decide +kernel
theorem dX4_isMade_21 : decode prog_6_method_3_code 21 = .ok (.iconst 0, 1) := by decide +kernel
theorem dX4_isMade_22 : decode prog_6_method_3_code 22 = .ok (.ireturn, 1) := by decide +kernel
theorem dX4_make_0 : decode prog_6_method_6_code 0 = .ok (.aload_n 0, 1) := by decide +kernel
theorem dX4_make_1 : decode prog_6_method_6_code 1 = .ok (.iload_n 1, 1) := by decide +kernel
theorem dX4_make_2 : decode prog_6_method_6_code 2 = .ok (.invokevirtual 19, 3) := by decide +kernel
theorem dX4_make_5 : decode prog_6_method_6_code 5 = .ok (.ifCond .eq 38, 3) := by decide +kernel
theorem dX4_make_8 : decode prog_6_method_6_code 8 = .ok (.iload_n 2, 1) := by decide +kernel
theorem dX4_make_9 : decode prog_6_method_6_code 9 = .ok (.ifCond .lt 34, 3) := by decide +kernel
theorem dX4_make_12 : decode prog_6_method_6_code 12 = .ok (.iload_n 2, 1) := by decide +kernel
theorem dX4_make_13 : decode prog_6_method_6_code 13 = .ok (.bipush 40, 2) := by decide +kernel
theorem dX4_make_15 : decode prog_6_method_6_code 15 = .ok (.if_icmp .gt 28, 3) := by decide +kernel
theorem dX4_make_18 : decode prog_6_method_6_code 18 = .ok (.aload_n 0, 1) := by decide +kernel
theorem dX4_make_19 : decode prog_6_method_6_code 19 = .ok (.getfield 15, 3) := by decide +kernel
theorem dX4_make_22 : decode prog_6_method_6_code 22 = .ok (.iload_n 1, 1) := by decide +kernel
theorem dX4_make_23 : decode prog_6_method_6_code 23 = .ok (.iload_n 2, 1) := by decide +kernel
theorem dX4_make_24 : decode prog_6_method_6_code 24 = .ok (.iastore, 1) := by decide +kernel
theorem dX4_make_25 : decode prog_6_method_6_code 25 = .ok (.aload_n 0, 1) := by decide +kernel
theorem dX4_make_26 : decode prog_6_method_6_code 26 = .ok (.getfield 11, 3) := by decide +kernel
theorem dX4_make_29 : decode prog_6_method_6_code 29 = .ok (.iload_n 1, 1) := by decide +kernel
theorem dX4_make_30 : decode prog_6_method_6_code 30 = .ok (.bipush 40, 2) := by decide +kernel
theorem dX4_make_32 : decode prog_6_method_6_code 32 = .ok (.imul, 1) := by decide +kernel
theorem dX4_make_33 : decode prog_6_method_6_code 33 = .ok (.iload_n 1, 1) := by decide +kernel
theorem dX4_make_34 : decode prog_6_method_6_code 34 = .ok (.bipush 40, 2) := by decide +kernel
theorem dX4_make_36 : decode prog_6_method_6_code 36 = .ok (.imul, 1) := by decide +kernel
theorem dX4_make_37 : decode prog_6_method_6_code 37 = .ok (.iload_n 2, 1) := by decide +kernel
theorem dX4_make_38 : decode prog_6_method_6_code 38 = .ok (.iadd, 1) := by decide +kernel
theorem dX4_make_39 : decode prog_6_method_6_code 39 = .ok (.lconst 0, 1) := by decide +kernel
theorem dX4_make_40 : decode prog_6_method_6_code 40 = .ok (.invokestatic 25, 3) := by decide +kernel
theorem dX4_make_43 : decode prog_6_method_6_code 43 = .ok (.return_, 1) := by decide +kernel
theorem dX6_length_0 : decode prog_8_method_2_code 0 = .ok (.aload_n 0, 1) := by decide +kernel
theorem dX6_length_1 : decode prog_8_method_2_code 1 = .ok (.getfield 18, 3) := by decide +kernel
theorem dX6_length_4 : decode prog_8_method_2_code 4 = .ok (.ireturn, 1) := by decide +kernel
theorem dX6_letter_0 : decode prog_8_method_3_code 0 = .ok (.iload_n 1, 1) := by decide +kernel
theorem dX6_letter_1 : decode prog_8_method_3_code 1 = .ok (.ifCond .lt 27, 3) := by decide +kernel
theorem dX6_letter_4 : decode prog_8_method_3_code 4 = .ok (.iload_n 1, 1) := by decide +kernel
theorem dX6_letter_5 : decode prog_8_method_3_code 5 = .ok (.aload_n 0, 1) := by decide +kernel
theorem dX6_letter_6 : decode prog_8_method_3_code 6 = .ok (.getfield 18, 3) := by decide +kernel
theorem dX6_letter_9 : decode prog_8_method_3_code 9 = .ok (.if_icmp .ge 19, 3) := by decide +kernel
theorem dX6_letter_12 : decode prog_8_method_3_code 12 = .ok (.iload_n 1, 1) := by decide +kernel
theorem dX6_letter_13 : decode prog_8_method_3_code 13 = .ok (.sipush 256, 3) := by decide +kernel
theorem dX6_letter_16 : decode prog_8_method_3_code 16 = .ok (.if_icmp .ge 12, 3) := by decide +kernel
theorem dX6_letter_19 : decode prog_8_method_3_code 19 = .ok (.aload_n 0, 1) := by decide +kernel
theorem dX6_letter_20 : decode prog_8_method_3_code 20 = .ok (.getfield 11, 3) := by decide +kernel
theorem dX6_letter_23 : decode prog_8_method_3_code 23 = .ok (.iload_n 1, 1) := by decide +kernel
theorem dX6_letter_24 : decode prog_8_method_3_code 24 = .ok (.iaload, 1) := by decide +kernel
theorem dX6_letter_25 : decode prog_8_method_3_code 25 = .ok (.goto 4, 3) := by decide +kernel
theorem dX6_letter_28 : decode prog_8_method_3_code 28 = .ok (.iconst (-1), 1) := by decide +kernel
theorem dX6_letter_29 : decode prog_8_method_3_code 29 = .ok (.ireturn, 1) := by decide +kernel
theorem dX9_entries_0 : decode prog_11_method_6_code 0 = .ok (.aload_n 0, 1) := by decide +kernel
theorem dX9_entries_1 : decode prog_11_method_6_code 1 = .ok (.getfield 48, 3) := by decide +kernel
theorem dX9_entries_4 : decode prog_11_method_6_code 4 = .ok (.ireturn, 1) := by decide +kernel
theorem dX9_entry_0 : decode prog_11_method_11_code 0 = .ok (.aload_n 0, 1) := by decide +kernel
theorem dX9_entry_1 : decode prog_11_method_11_code 1 = .ok (.iload_n 1, 1) := by decide +kernel
theorem dX9_entry_2 : decode prog_11_method_11_code 2 = .ok (.invokevirtual 97, 3) := by decide +kernel
theorem dX9_entry_5 : decode prog_11_method_11_code 5 = .ok (.istore_n 3, 1) := by decide +kernel
theorem dX9_entry_6 : decode prog_11_method_11_code 6 = .ok (.iload_n 3, 1) := by decide +kernel
theorem dX9_entry_7 : decode prog_11_method_11_code 7 = .ok (.ifCond .ge 5, 3) := by decide +kernel
theorem dX9_entry_10 : decode prog_11_method_11_code 10 = .ok (.iconst (-1), 1) := by decide +kernel
theorem dX9_entry_11 : decode prog_11_method_11_code 11 = .ok (.ireturn, 1) := by decide +kernel
theorem dX9_entry_12 : decode prog_11_method_11_code 12 = .ok (.iload_n 2, 1) := by decide +kernel
theorem dX9_entry_13 : decode prog_11_method_11_code 13 = .ok (.tableswitch 48 0 2 #[27, 34, 41], 27) := by decide +kernel
theorem dX9_entry_40 : decode prog_11_method_11_code 40 = .ok (.aload_n 0, 1) := by decide +kernel
theorem dX9_entry_41 : decode prog_11_method_11_code 41 = .ok (.getfield 30, 3) := by decide +kernel
theorem dX9_entry_44 : decode prog_11_method_11_code 44 = .ok (.iload_n 3, 1) := by decide +kernel
theorem dX9_entry_45 : decode prog_11_method_11_code 45 = .ok (.iaload, 1) := by decide +kernel
theorem dX9_entry_46 : decode prog_11_method_11_code 46 = .ok (.ireturn, 1) := by decide +kernel
theorem dX9_entry_47 : decode prog_11_method_11_code 47 = .ok (.aload_n 0, 1) := by decide +kernel
theorem dX9_entry_48 : decode prog_11_method_11_code 48 = .ok (.getfield 33, 3) := by decide +kernel
theorem dX9_entry_51 : decode prog_11_method_11_code 51 = .ok (.iload_n 3, 1) := by decide +kernel
theorem dX9_entry_52 : decode prog_11_method_11_code 52 = .ok (.iaload, 1) := by decide +kernel
theorem dX9_entry_53 : decode prog_11_method_11_code 53 = .ok (.ireturn, 1) := by decide +kernel
theorem dX9_entry_54 : decode prog_11_method_11_code 54 = .ok (.aload_n 0, 1) := by decide +kernel
theorem dX9_entry_55 : decode prog_11_method_11_code 55 = .ok (.getfield 36, 3) := by decide +kernel
theorem dX9_entry_58 : decode prog_11_method_11_code 58 = .ok (.iload_n 3, 1) := by decide +kernel
theorem dX9_entry_59 : decode prog_11_method_11_code 59 = .ok (.iaload, 1) := by decide +kernel
theorem dX9_entry_60 : decode prog_11_method_11_code 60 = .ok (.ireturn, 1) := by decide +kernel
theorem dX9_entry_61 : decode prog_11_method_11_code 61 = .ok (.iconst (-1), 1) := by decide +kernel
theorem dX9_entry_62 : decode prog_11_method_11_code 62 = .ok (.ireturn, 1) := by decide +kernel
theorem dX9_join_0 : decode prog_11_method_3_code 0 = .ok (.aload_n 0, 1) := by decide +kernel
theorem dX9_join_1 : decode prog_11_method_3_code 1 = .ok (.getfield 22, 3) := by decide +kernel
theorem dX9_join_4 : decode prog_11_method_3_code 4 = .ok (.bipush 8, 2) := by decide +kernel
theorem dX9_join_6 : decode prog_11_method_3_code 6 = .ok (.if_icmp .lt 6, 3) := by decide +kernel
theorem dX9_join_9 : decode prog_11_method_3_code 9 = .ok (.bipush (-4), 2) := by decide +kernel
theorem dX9_join_11 : decode prog_11_method_3_code 11 = .ok (.ireturn, 1) := by decide +kernel
theorem dX9_join_12 : decode prog_11_method_3_code 12 = .ok (.aload_n 0, 1) := by decide +kernel
theorem dX9_join_13 : decode prog_11_method_3_code 13 = .ok (.getfield 11, 3) := by decide +kernel
theorem dX9_join_16 : decode prog_11_method_3_code 16 = .ok (.aload_n 0, 1) := by decide +kernel
theorem dX9_join_17 : decode prog_11_method_3_code 17 = .ok (.getfield 22, 3) := by decide +kernel
theorem dX9_join_20 : decode prog_11_method_3_code 20 = .ok (.iload_n 1, 1) := by decide +kernel
theorem dX9_join_21 : decode prog_11_method_3_code 21 = .ok (.iastore, 1) := by decide +kernel
theorem dX9_join_22 : decode prog_11_method_3_code 22 = .ok (.aload_n 0, 1) := by decide +kernel
theorem dX9_join_23 : decode prog_11_method_3_code 23 = .ok (.getfield 15, 3) := by decide +kernel
theorem dX9_join_26 : decode prog_11_method_3_code 26 = .ok (.aload_n 0, 1) := by decide +kernel
theorem dX9_join_27 : decode prog_11_method_3_code 27 = .ok (.getfield 22, 3) := by decide +kernel
theorem dX9_join_30 : decode prog_11_method_3_code 30 = .ok (.iload_n 2, 1) := by decide +kernel
theorem dX9_join_31 : decode prog_11_method_3_code 31 = .ok (.iastore, 1) := by decide +kernel
theorem dX9_join_32 : decode prog_11_method_3_code 32 = .ok (.aload_n 0, 1) := by decide +kernel
theorem dX9_join_33 : decode prog_11_method_3_code 33 = .ok (.getfield 18, 3) := by decide +kernel
theorem dX9_join_36 : decode prog_11_method_3_code 36 = .ok (.aload_n 0, 1) := by decide +kernel
theorem dX9_join_37 : decode prog_11_method_3_code 37 = .ok (.getfield 22, 3) := by decide +kernel
theorem dX9_join_40 : decode prog_11_method_3_code 40 = .ok (.lload_n 3, 1) := by decide +kernel
theorem dX9_join_41 : decode prog_11_method_3_code 41 = .ok (.lastore, 1) := by decide +kernel
theorem dX9_join_42 : decode prog_11_method_3_code 42 = .ok (.aload_n 0, 1) := by decide +kernel
theorem dX9_join_43 : decode prog_11_method_3_code 43 = .ok (.dup, 1) := by decide +kernel
theorem dX9_join_44 : decode prog_11_method_3_code 44 = .ok (.getfield 26, 3) := by decide +kernel
theorem dX9_join_47 : decode prog_11_method_3_code 47 = .ok (.aload_n 0, 1) := by decide +kernel
theorem dX9_join_48 : decode prog_11_method_3_code 48 = .ok (.getfield 22, 3) := by decide +kernel
theorem dX9_join_51 : decode prog_11_method_3_code 51 = .ok (.invokestatic 57, 3) := by decide +kernel
theorem dX9_join_54 : decode prog_11_method_3_code 54 = .ok (.lor, 1) := by decide +kernel
theorem dX9_join_55 : decode prog_11_method_3_code 55 = .ok (.putfield 26, 3) := by decide +kernel
theorem dX9_join_58 : decode prog_11_method_3_code 58 = .ok (.aload_n 0, 1) := by decide +kernel
theorem dX9_join_59 : decode prog_11_method_3_code 59 = .ok (.dup, 1) := by decide +kernel
theorem dX9_join_60 : decode prog_11_method_3_code 60 = .ok (.getfield 22, 3) := by decide +kernel
theorem dX9_join_63 : decode prog_11_method_3_code 63 = .ok (.iconst 1, 1) := by decide +kernel
theorem dX9_join_64 : decode prog_11_method_3_code 64 = .ok (.iadd, 1) := by decide +kernel
theorem dX9_join_65 : decode prog_11_method_3_code 65 = .ok (.putfield 22, 3) := by decide +kernel
theorem dX9_join_68 : decode prog_11_method_3_code 68 = .ok (.aload_n 0, 1) := by decide +kernel
theorem dX9_join_69 : decode prog_11_method_3_code 69 = .ok (.getfield 22, 3) := by decide +kernel
theorem dX9_join_72 : decode prog_11_method_3_code 72 = .ok (.iconst 1, 1) := by decide +kernel
theorem dX9_join_73 : decode prog_11_method_3_code 73 = .ok (.isub, 1) := by decide +kernel
theorem dX9_join_74 : decode prog_11_method_3_code 74 = .ok (.ireturn, 1) := by decide +kernel
theorem dX9_joined_0 : decode prog_11_method_5_code 0 = .ok (.aload_n 0, 1) := by decide +kernel
theorem dX9_joined_1 : decode prog_11_method_5_code 1 = .ok (.getfield 22, 3) := by decide +kernel
theorem dX9_joined_4 : decode prog_11_method_5_code 4 = .ok (.ireturn, 1) := by decide +kernel
theorem dX9_leave_0 : decode prog_11_method_4_code 0 = .ok (.iload_n 1, 1) := by decide +kernel
theorem dX9_leave_1 : decode prog_11_method_4_code 1 = .ok (.ifCond .lt 11, 3) := by decide +kernel
theorem dX9_leave_4 : decode prog_11_method_4_code 4 = .ok (.iload_n 1, 1) := by decide +kernel
theorem dX9_leave_5 : decode prog_11_method_4_code 5 = .ok (.aload_n 0, 1) := by decide +kernel
theorem dX9_leave_6 : decode prog_11_method_4_code 6 = .ok (.getfield 22, 3) := by decide +kernel
theorem dX9_leave_9 : decode prog_11_method_4_code 9 = .ok (.if_icmp .lt 5, 3) := by decide +kernel
theorem dX9_leave_12 : decode prog_11_method_4_code 12 = .ok (.iconst (-1), 1) := by decide +kernel
theorem dX9_leave_13 : decode prog_11_method_4_code 13 = .ok (.ireturn, 1) := by decide +kernel
theorem dX9_leave_14 : decode prog_11_method_4_code 14 = .ok (.aload_n 0, 1) := by decide +kernel
theorem dX9_leave_15 : decode prog_11_method_4_code 15 = .ok (.getfield 26, 3) := by decide +kernel
theorem dX9_leave_18 : decode prog_11_method_4_code 18 = .ok (.iload_n 1, 1) := by decide +kernel
theorem dX9_leave_19 : decode prog_11_method_4_code 19 = .ok (.invokestatic 61, 3) := by decide +kernel
theorem dX9_leave_22 : decode prog_11_method_4_code 22 = .ok (.ifCond .eq 7, 3) := by decide +kernel
theorem dX9_leave_25 : decode prog_11_method_4_code 25 = .ok (.iconst 1, 1) := by decide +kernel
theorem dX9_leave_26 : decode prog_11_method_4_code 26 = .ok (.goto 4, 3) := by decide +kernel
theorem dX9_leave_29 : decode prog_11_method_4_code 29 = .ok (.iconst 0, 1) := by decide +kernel
theorem dX9_leave_30 : decode prog_11_method_4_code 30 = .ok (.istore_n 2, 1) := by decide +kernel
theorem dX9_leave_31 : decode prog_11_method_4_code 31 = .ok (.aload_n 0, 1) := by decide +kernel
theorem dX9_leave_32 : decode prog_11_method_4_code 32 = .ok (.dup, 1) := by decide +kernel
theorem dX9_leave_33 : decode prog_11_method_4_code 33 = .ok (.getfield 26, 3) := by decide +kernel
theorem dX9_leave_36 : decode prog_11_method_4_code 36 = .ok (.iload_n 1, 1) := by decide +kernel
theorem dX9_leave_37 : decode prog_11_method_4_code 37 = .ok (.invokestatic 57, 3) := by decide +kernel
theorem dX9_leave_40 : decode prog_11_method_4_code 40 = .ok (.ldc2_w 65, 3) := by decide +kernel
theorem dX9_leave_43 : decode prog_11_method_4_code 43 = .ok (.lxor, 1) := by decide +kernel
theorem dX9_leave_44 : decode prog_11_method_4_code 44 = .ok (.land, 1) := by decide +kernel
theorem dX9_leave_45 : decode prog_11_method_4_code 45 = .ok (.putfield 26, 3) := by decide +kernel
theorem dX9_leave_48 : decode prog_11_method_4_code 48 = .ok (.iload_n 2, 1) := by decide +kernel
theorem dX9_leave_49 : decode prog_11_method_4_code 49 = .ok (.ireturn, 1) := by decide +kernel
theorem dX9_number_0 : decode prog_11_method_12_code 0 = .ok (.aload_n 0, 1) := by decide +kernel
theorem dX9_number_1 : decode prog_11_method_12_code 1 = .ok (.iload_n 1, 1) := by decide +kernel
theorem dX9_number_2 : decode prog_11_method_12_code 2 = .ok (.invokevirtual 97, 3) := by decide +kernel
theorem dX9_number_5 : decode prog_11_method_12_code 5 = .ok (.istore_n 3, 1) := by decide +kernel
theorem dX9_number_6 : decode prog_11_method_12_code 6 = .ok (.iload_n 3, 1) := by decide +kernel
theorem dX9_number_7 : decode prog_11_method_12_code 7 = .ok (.ifCond .lt 12, 3) := by decide +kernel
theorem dX9_number_10 : decode prog_11_method_12_code 10 = .ok (.iload_n 2, 1) := by decide +kernel
theorem dX9_number_11 : decode prog_11_method_12_code 11 = .ok (.ifCond .lt 8, 3) := by decide +kernel
theorem dX9_number_14 : decode prog_11_method_12_code 14 = .ok (.iload_n 2, 1) := by decide +kernel
theorem dX9_number_15 : decode prog_11_method_12_code 15 = .ok (.iconst 1, 1) := by decide +kernel
theorem dX9_number_16 : decode prog_11_method_12_code 16 = .ok (.if_icmp .le 7, 3) := by decide +kernel
theorem dX9_number_19 : decode prog_11_method_12_code 19 = .ok (.ldc2_w 100, 3) := by decide +kernel
theorem dX9_number_22 : decode prog_11_method_12_code 22 = .ok (.lreturn, 1) := by decide +kernel
theorem dX9_number_23 : decode prog_11_method_12_code 23 = .ok (.iload_n 2, 1) := by decide +kernel
theorem dX9_number_24 : decode prog_11_method_12_code 24 = .ok (.ifCond .ne 12, 3) := by decide +kernel
theorem dX9_number_27 : decode prog_11_method_12_code 27 = .ok (.aload_n 0, 1) := by decide +kernel
theorem dX9_number_28 : decode prog_11_method_12_code 28 = .ok (.getfield 39, 3) := by decide +kernel
theorem dX9_number_31 : decode prog_11_method_12_code 31 = .ok (.iload_n 3, 1) := by decide +kernel
theorem dX9_number_32 : decode prog_11_method_12_code 32 = .ok (.laload, 1) := by decide +kernel
theorem dX9_number_33 : decode prog_11_method_12_code 33 = .ok (.goto 9, 3) := by decide +kernel
theorem dX9_number_36 : decode prog_11_method_12_code 36 = .ok (.aload_n 0, 1) := by decide +kernel
theorem dX9_number_37 : decode prog_11_method_12_code 37 = .ok (.getfield 42, 3) := by decide +kernel
theorem dX9_number_40 : decode prog_11_method_12_code 40 = .ok (.iload_n 3, 1) := by decide +kernel
theorem dX9_number_41 : decode prog_11_method_12_code 41 = .ok (.laload, 1) := by decide +kernel
theorem dX9_number_42 : decode prog_11_method_12_code 42 = .ok (.lreturn, 1) := by decide +kernel
theorem dX9_placeOf_0 : decode prog_11_method_10_code 0 = .ok (.iload_n 1, 1) := by decide +kernel
theorem dX9_placeOf_1 : decode prog_11_method_10_code 1 = .ok (.ifCond .lt 25, 3) := by decide +kernel
theorem dX9_placeOf_4 : decode prog_11_method_10_code 4 = .ok (.iload_n 1, 1) := by decide +kernel
theorem dX9_placeOf_5 : decode prog_11_method_10_code 5 = .ok (.aload_n 0, 1) := by decide +kernel
theorem dX9_placeOf_6 : decode prog_11_method_10_code 6 = .ok (.getfield 48, 3) := by decide +kernel
theorem dX9_placeOf_9 : decode prog_11_method_10_code 9 = .ok (.if_icmp .ge 17, 3) := by decide +kernel
theorem dX9_placeOf_12 : decode prog_11_method_10_code 12 = .ok (.aload_n 0, 1) := by decide +kernel
theorem dX9_placeOf_13 : decode prog_11_method_10_code 13 = .ok (.getfield 45, 3) := by decide +kernel
theorem dX9_placeOf_16 : decode prog_11_method_10_code 16 = .ok (.iload_n 1, 1) := by decide +kernel
theorem dX9_placeOf_17 : decode prog_11_method_10_code 17 = .ok (.iadd, 1) := by decide +kernel
theorem dX9_placeOf_18 : decode prog_11_method_10_code 18 = .ok (.bipush 60, 2) := by decide +kernel
theorem dX9_placeOf_20 : decode prog_11_method_10_code 20 = .ok (.invokestatic 91, 3) := by decide +kernel
theorem dX9_placeOf_23 : decode prog_11_method_10_code 23 = .ok (.goto 4, 3) := by decide +kernel
theorem dX9_placeOf_26 : decode prog_11_method_10_code 26 = .ok (.iconst (-1), 1) := by decide +kernel
theorem dX9_placeOf_27 : decode prog_11_method_10_code 27 = .ok (.ireturn, 1) := by decide +kernel
/-! ReactiveSheet.seek(IJIIJ)J ['x'] -/
abbrev rm_X_X10_seek__0 : Room := { frames := 6, cells := 0, slots := 0, locals := 188 }
def b_X_X10_seek__0_29  (t : fw_S)  : Option (Int64 × fw_S) := some ((-9223372036854775808 : Int64), t)
def b_X_X10_seek__0_110  (t : fw_S)  : Option (Int64 × fw_S) := some ((-9223372036854775808 : Int64), t)
def b_X_X10_seek__0_104 (k36 : fw_S → Int32 → Int64 → Int32 → Int32 → Int64 → Int32 → Option (Int64 × fw_S)) (t : fw_S) (x1 : Int32) (y2 : Int64) (x4 : Int32) (x5 : Int32) (y6 : Int64) (x8 : Int32) : Option (Int64 × fw_S) := k36 t x1 y2 x4 x5 y6 (x8 + 1)
def b_X_X10_seek__0_98  (t : fw_S) (y2 : Int64) (x8 : Int32) : Option (Int64 × fw_S) := some (y2 + x8.toInt64, t)
def b_X_X10_seek__0_70 (k36 : fw_S → Int32 → Int64 → Int32 → Int32 → Int64 → Int32 → Option (Int64 × fw_S)) (t : fw_S) (x1 : Int32) (y2 : Int64) (x4 : Int32) (x5 : Int32) (y6 : Int64) (x8 : Int32) : Option (Int64 × fw_S) := fb_v (f_X_X1_now__3 t) fun t_1 => (fb_b (f_X_X0_reaches__4 t_1 x5 y6) fun v_3 t_2 => (fb_v (f_X_X1_back__3 t_2) fun t_4 => (if v_3 = 0 then b_X_X10_seek__0_104 k36 t_4 x1 y2 x4 x5 y6 x8 else b_X_X10_seek__0_98 t_4 y2 x8)))
def b_X_X10_seek__0_55 (k36 : fw_S → Int32 → Int64 → Int32 → Int32 → Int64 → Int32 → Option (Int64 × fw_S)) (t : fw_S) (x1 : Int32) (y2 : Int64) (x4 : Int32) (x5 : Int32) (y6 : Int64) (x8 : Int32) : Option (Int64 × fw_S) := fb_b (f_X_X10_supposed__0 t x1 (y2 + x8.toInt64)) fun v_2 t_1 => (if v_2 = ((-7 : Int32)) then b_X_X10_seek__0_104 k36 t_1 x1 y2 x4 x5 y6 x8 else b_X_X10_seek__0_70 k36 t_1 x1 y2 x4 x5 y6 x8)
def b_X_X10_seek__0_43 (k36 : fw_S → Int32 → Int64 → Int32 → Int32 → Int64 → Int32 → Option (Int64 × fw_S)) (t : fw_S) (x1 : Int32) (y2 : Int64) (x4 : Int32) (x5 : Int32) (y6 : Int64) (x8 : Int32) : Option (Int64 × fw_S) := if 0 < (lg_cmp y2 (((9223372036854775807 : Int64)) - x8.toInt64)) then b_X_X10_seek__0_110 t else b_X_X10_seek__0_55 k36 t x1 y2 x4 x5 y6 x8
def b_X_X10_seek__0_36  : Nat → (fw_S → Int32 → Int64 → Int32 → Int32 → Int64 → Int32 → Option (Int64 × fw_S))
  | 0 => fun _ _ _ _ _ _ _ => none
  | n + 1 => fun t x1 y2 x4 x5 y6 x8 => if x4 ≤ x8 then b_X_X10_seek__0_110 t else b_X_X10_seek__0_43 (b_X_X10_seek__0_36 n) t x1 y2 x4 x5 y6 x8
def b_X_X10_seek__0_33  (t : fw_S) (x1 : Int32) (y2 : Int64) (x4 : Int32) (x5 : Int32) (y6 : Int64) : Option (Int64 × fw_S) := b_X_X10_seek__0_36 3000 t x1 y2 x4 x5 y6 ((0 : Int32))
def b_X_X10_seek__0_22  (t : fw_S) (x1 : Int32) (y2 : Int64) (x4 : Int32) (x5 : Int32) (y6 : Int64) : Option (Int64 × fw_S) := if x4 ≤ ((12 : Int32)) then b_X_X10_seek__0_33 t x1 y2 x4 x5 y6 else b_X_X10_seek__0_29 t
def b_X_X10_seek__0_17  (t : fw_S) (x1 : Int32) (y2 : Int64) (x4 : Int32) (x5 : Int32) (y6 : Int64) : Option (Int64 × fw_S) := if x4 < 0 then b_X_X10_seek__0_29 t else b_X_X10_seek__0_22 t x1 y2 x4 x5 y6
def b_X_X10_seek__0_8  (t : fw_S) (x1 : Int32) (y2 : Int64) (x4 : Int32) (x5 : Int32) (y6 : Int64) : Option (Int64 × fw_S) := fb_b (f_X_X10_isCell t x5.toInt64) fun v_2 t_1 => (if v_2 = 0 then b_X_X10_seek__0_29 t_1 else b_X_X10_seek__0_17 t_1 x1 y2 x4 x5 y6)
def b_X_X10_seek__0_0  (t : fw_S) (x1 : Int32) (y2 : Int64) (x4 : Int32) (x5 : Int32) (y6 : Int64) : Option (Int64 × fw_S) := fb_b (f_X_X10_isCell t x1.toInt64) fun v_2 t_1 => (if v_2 = 0 then b_X_X10_seek__0_29 t_1 else b_X_X10_seek__0_8 t_1 x1 y2 x4 x5 y6)
def f_X_X10_seek__0 (t : fw_S) (x1 : Int32) (y2 : Int64) (x4 : Int32) (x5 : Int32) (y6 : Int64) : Option (Int64 × fw_S) := b_X_X10_seek__0_0 t x1 y2 x4 x5 y6
set_option maxRecDepth 20000 in
theorem w_X_X10_seek__0_29 {p : Program} {l : Launch} {e : Env} {s : State} {m : MethodId} {args : Array Value} {below : List Frame} {meth : Method} {c : Code} {A : Nat → Prop} {Q : State → Prop} {D : va_G} {ca : Nat → ClassId} {a : Nat → Nat} {u : fw_S} {r : Int64}  (C : CX (WX ca a) D (tyv ca) p s m args c A prog_1_method_21_code 10 RX10) (hr : True → RX (WX ca a) D p l e rm_X_X10_seek__0 s m args below meth c A prog_1_method_21_code Q .lreturn [.long r] u) {t : fw_S}  {H : Heap} {locs : List Loc} {ls : Array Slot} (hf : b_X_X10_seek__0_29  t  = some (r, u)) (hP : va_P D classes (WX ca a t) H) (hS : va_S A s.heap H locs) (hl : lv_has ls 10 []) : W p l e rm_X_X10_seek__0 s m args below meth c H locs 0 0 Q (F0 m 29 ls []) := by
  obtain ⟨hx, hb, hml, hown, hts, hN, hK, hD, hA⟩ := id C
  have hf : (some ((-9223372036854775808 : Int64), t)) = some (r, u) := hf
  refine lv_ldc2 (v := (-9223372036854775808)) hx hb hown (hts _ kw_895) dX10_seek_29 ?_
  obtain ⟨e_32, e2_32⟩ := fb_e hf
  subst e_32; subst e2_32
  exact hr trivial _ _ _ _ hP hS dX10_seek_32
set_option maxRecDepth 20000 in
theorem w_X_X10_seek__0_110 {p : Program} {l : Launch} {e : Env} {s : State} {m : MethodId} {args : Array Value} {below : List Frame} {meth : Method} {c : Code} {A : Nat → Prop} {Q : State → Prop} {D : va_G} {ca : Nat → ClassId} {a : Nat → Nat} {u : fw_S} {r : Int64}  (C : CX (WX ca a) D (tyv ca) p s m args c A prog_1_method_21_code 10 RX10) (hr : True → RX (WX ca a) D p l e rm_X_X10_seek__0 s m args below meth c A prog_1_method_21_code Q .lreturn [.long r] u) {t : fw_S}  {H : Heap} {locs : List Loc} {ls : Array Slot} (hf : b_X_X10_seek__0_110  t  = some (r, u)) (hP : va_P D classes (WX ca a t) H) (hS : va_S A s.heap H locs) (hl : lv_has ls 10 []) : W p l e rm_X_X10_seek__0 s m args below meth c H locs 0 0 Q (F0 m 110 ls []) := by
  obtain ⟨hx, hb, hml, hown, hts, hN, hK, hD, hA⟩ := id C
  have hf : (some ((-9223372036854775808 : Int64), t)) = some (r, u) := hf
  refine lv_ldc2 (v := (-9223372036854775808)) hx hb hown (hts _ kw_895) dX10_seek_110 ?_
  obtain ⟨e_113, e2_113⟩ := fb_e hf
  subst e_113; subst e2_113
  exact hr trivial _ _ _ _ hP hS dX10_seek_113
set_option maxRecDepth 20000 in
theorem w_X_X10_seek__0_104 {p : Program} {l : Launch} {e : Env} {s : State} {m : MethodId} {args : Array Value} {below : List Frame} {meth : Method} {c : Code} {A : Nat → Prop} {Q : State → Prop} {D : va_G} {ca : Nat → ClassId} {a : Nat → Nat} {u : fw_S} {r : Int64} {k36 : fw_S → Int32 → Int64 → Int32 → Int32 → Int64 → Int32 → Option (Int64 × fw_S)} (C : CX (WX ca a) D (tyv ca) p s m args c A prog_1_method_21_code 10 RX10) (hr : True → RX (WX ca a) D p l e rm_X_X10_seek__0 s m args below meth c A prog_1_method_21_code Q .lreturn [.long r] u) (hk36 : ∀ (t : fw_S) (x1 : Int32) (y2 : Int64) (x4 : Int32) (x5 : Int32) (y6 : Int64) (x8 : Int32) (H : Heap) (locs : List Loc) (ls : Array Slot), k36 t x1 y2 x4 x5 y6 x8 = some (r, u) → va_P D classes (WX ca a t) H → va_S A s.heap H locs → lv_has ls 10 [(0, .ref (a 0)), (1, .int x1), (2, .long y2), (4, .int x4), (5, .int x5), (6, .long y6), (8, .int x8)] → W p l e rm_X_X10_seek__0 s m args below meth c H locs 0 0 Q (F0 m 36 ls [])) {t : fw_S} {x1 : Int32} {y2 : Int64} {x4 : Int32} {x5 : Int32} {y6 : Int64} {x8 : Int32} {H : Heap} {locs : List Loc} {ls : Array Slot} (hf : b_X_X10_seek__0_104 k36 t x1 y2 x4 x5 y6 x8 = some (r, u)) (hP : va_P D classes (WX ca a t) H) (hS : va_S A s.heap H locs) (hl : lv_has ls 10 [(0, .ref (a 0)), (1, .int x1), (2, .long y2), (4, .int x4), (5, .int x5), (6, .long y6), (8, .int x8)]) : W p l e rm_X_X10_seek__0 s m args below meth c H locs 0 0 Q (F0 m 104 ls []) := by
  obtain ⟨hx, hb, hml, hown, hts, hN, hK, hD, hA⟩ := id C
  have hf : (k36 t x1 y2 x4 x5 y6 (x8 + 1)) = some (r, u) := hf
  refine lv_iinc (v := x8 + 1) (lv' := [(8, .int (x8 + 1)), (0, .ref (a 0)), (1, .int x1), (2, .long y2), (4, .int x4), (5, .int x5), (6, .long y6)]) hx hb dX10_seek_104 hl (k := 6) rfl rfl (by decide) rfl (fun ls hl => ?_)
  refine lv_goto (tgt := 36) hx hb dX10_seek_107 (by decide) ?_
  exact hk36 t x1 y2 x4 x5 y6 (x8 + 1) _ _ _ hf hP hS (lv_sub hl [1, 2, 3, 4, 5, 6, 0] rfl)
set_option maxRecDepth 20000 in
theorem w_X_X10_seek__0_98 {p : Program} {l : Launch} {e : Env} {s : State} {m : MethodId} {args : Array Value} {below : List Frame} {meth : Method} {c : Code} {A : Nat → Prop} {Q : State → Prop} {D : va_G} {ca : Nat → ClassId} {a : Nat → Nat} {u : fw_S} {r : Int64}  (C : CX (WX ca a) D (tyv ca) p s m args c A prog_1_method_21_code 10 RX10) (hr : True → RX (WX ca a) D p l e rm_X_X10_seek__0 s m args below meth c A prog_1_method_21_code Q .lreturn [.long r] u) {t : fw_S} {y2 : Int64} {x8 : Int32} {H : Heap} {locs : List Loc} {ls : Array Slot} (hf : b_X_X10_seek__0_98  t y2 x8 = some (r, u)) (hP : va_P D classes (WX ca a t) H) (hS : va_S A s.heap H locs) (hl : lv_has ls 10 [(2, .long y2), (8, .int x8)]) : W p l e rm_X_X10_seek__0 s m args below meth c H locs 0 0 Q (F0 m 98 ls []) := by
  obtain ⟨hx, hb, hml, hown, hts, hN, hK, hD, hA⟩ := id C
  have hf : (some (y2 + x8.toInt64, t)) = some (r, u) := hf
  refine lv_lload_n hx hb dX10_seek_98 rfl (lv_at hl 0 rfl) ?_
  refine lv_iload hx hb dX10_seek_99 (lv_at hl 1 rfl) ?_
  refine lv_i2l hx hb dX10_seek_101 rfl ?_
  refine lv_ladd hx hb dX10_seek_102 ?_
  obtain ⟨e_103, e2_103⟩ := fb_e hf
  subst e_103; subst e2_103
  exact hr trivial _ _ _ _ hP hS dX10_seek_103
set_option maxRecDepth 20000 in
theorem w_X_X10_seek__0_70 {p : Program} {l : Launch} {e : Env} {s : State} {m : MethodId} {args : Array Value} {below : List Frame} {meth : Method} {c : Code} {A : Nat → Prop} {Q : State → Prop} {D : va_G} {ca : Nat → ClassId} {a : Nat → Nat} {u : fw_S} {r : Int64} {k36 : fw_S → Int32 → Int64 → Int32 → Int32 → Int64 → Int32 → Option (Int64 × fw_S)} (C : CX (WX ca a) D (tyv ca) p s m args c A prog_1_method_21_code 10 RX10) (hr : True → RX (WX ca a) D p l e rm_X_X10_seek__0 s m args below meth c A prog_1_method_21_code Q .lreturn [.long r] u) (hk36 : ∀ (t : fw_S) (x1 : Int32) (y2 : Int64) (x4 : Int32) (x5 : Int32) (y6 : Int64) (x8 : Int32) (H : Heap) (locs : List Loc) (ls : Array Slot), k36 t x1 y2 x4 x5 y6 x8 = some (r, u) → va_P D classes (WX ca a t) H → va_S A s.heap H locs → lv_has ls 10 [(0, .ref (a 0)), (1, .int x1), (2, .long y2), (4, .int x4), (5, .int x5), (6, .long y6), (8, .int x8)] → W p l e rm_X_X10_seek__0 s m args below meth c H locs 0 0 Q (F0 m 36 ls [])) {t : fw_S} {x1 : Int32} {y2 : Int64} {x4 : Int32} {x5 : Int32} {y6 : Int64} {x8 : Int32} {H : Heap} {locs : List Loc} {ls : Array Slot} (hf : b_X_X10_seek__0_70 k36 t x1 y2 x4 x5 y6 x8 = some (r, u)) (hP : va_P D classes (WX ca a t) H) (hS : va_S A s.heap H locs) (hl : lv_has ls 10 [(0, .ref (a 0)), (1, .int x1), (2, .long y2), (4, .int x4), (5, .int x5), (6, .long y6), (8, .int x8)]) : W p l e rm_X_X10_seek__0 s m args below meth c H locs 0 0 Q (F0 m 70 ls []) := by
  obtain ⟨hx, hb, hml, hown, hts, hN, hK, hD, hA⟩ := id C
  have hf : (fb_v (f_X_X1_now__3 t) fun t_1 => (fb_b (f_X_X0_reaches__4 t_1 x5 y6) fun v_3 t_2 => (fb_v (f_X_X1_back__3 t_2) fun t_4 => (if v_3 = 0 then b_X_X10_seek__0_104 k36 t_4 x1 y2 x4 x5 y6 x8 else b_X_X10_seek__0_98 t_4 y2 x8)))) = some (r, u) := hf
  refine lv_aload_n hx hb dX10_seek_70 rfl (lv_at hl 0 rfl) ?_
  refine va_get (D := D) (ci := 10) (v := .ref (a 3)) (C := RX10) (T := TX10) (N := 13) hx hb hts inX10 hown hK hP 0 (heX_0 ca a t) rfl 2 (by decide) (hts _ kw_356) (fun _ h9 => h9) rfl dX10_seek_71 ?_
  obtain ⟨t_1, g_74, hf⟩ := fb_vs hf
  refine fw_V1 (As := []) (rest := []) (n := 0) (q0 := 3) C (c_X_X1_now__3 (l := l) (D := D) (ca := ca) (a := a) g_74) kw_626 kw_627 kw_95 kw_629 kw_628 hP hS hl (heX_3 ca a t) rfl rfl rfl (by decide) (by decide +kernel) ⟨Nat.le_of_ble_eq_true rfl, Nat.le_of_ble_eq_true rfl⟩ rfl rfl (Nat.le_of_ble_eq_true rfl) dX10_seek_74 (fun H locs hP hS => ?_)
  refine W.eq (g2 := F0 m 77 ls [.ref (a 4)]) rfl ?_
  refine lv_iload hx hb dX10_seek_77 (lv_at hl 4 rfl) ?_
  refine lv_lload hx hb dX10_seek_79 (lv_at hl 5 rfl) ?_
  obtain ⟨v_3, t_2, g_81, hf⟩ := fb_bs hf
  refine fw_V1 (As := [.int x5, .long y6]) (rest := []) (n := 2) (q0 := 4) C (c_X_X0_reaches__4 (l := l) (D := D) (ca := ca) (a := a) g_81) kw_964 kw_965 kw_96 kw_967 kw_966 hP hS hl (heX_4 ca a t_1) rfl rfl rfl (by decide) (by decide +kernel) ⟨Nat.le_of_ble_eq_true rfl, Nat.le_of_ble_eq_true rfl⟩ rfl rfl (Nat.le_of_ble_eq_true rfl) dX10_seek_81 (fun H locs hP hS => ?_)
  refine W.eq (g2 := F0 m 84 ls [.int v_3]) rfl ?_
  refine lv_istore (lv' := [(9, .int v_3), (0, .ref (a 0)), (1, .int x1), (2, .long y2), (4, .int x4), (5, .int x5), (6, .long y6), (8, .int x8)]) hx hb dX10_seek_84 hl (by decide) rfl (fun ls hl => ?_)
  refine lv_aload_n hx hb dX10_seek_86 rfl (lv_at hl 1 rfl) ?_
  refine va_get (D := D) (ci := 10) (v := .ref (a 3)) (C := RX10) (T := TX10) (N := 13) hx hb hts inX10 hown hK hP 0 (heX_0 ca a t_2) rfl 2 (by decide) (hts _ kw_356) (fun _ h9 => h9) rfl dX10_seek_87 ?_
  obtain ⟨t_4, g_90, hf⟩ := fb_vs hf
  refine fw_V1 (As := []) (rest := []) (n := 0) (q0 := 3) C (c_X_X1_back__3 (l := l) (D := D) (ca := ca) (a := a) g_90) kw_954 kw_609 kw_95 kw_611 kw_610 hP hS hl (heX_3 ca a t_2) rfl rfl rfl (by decide) (by decide +kernel) ⟨Nat.le_of_ble_eq_true rfl, Nat.le_of_ble_eq_true rfl⟩ rfl rfl (Nat.le_of_ble_eq_true rfl) dX10_seek_90 (fun H locs hP hS => ?_)
  refine W.eq (g2 := F0 m 93 ls []) rfl ?_
  refine lv_iload hx hb dX10_seek_93 (lv_at hl 0 rfl) ?_
  refine lv_if_eq (tgt := 104) hx hb dX10_seek_95 (by decide) (fun h_95 => ?_) (fun h_95 => ?_)
  · have hf := fb_t h_95 hf
    exact w_X_X10_seek__0_104 C hr hk36 hf hP hS (lv_sub hl [1, 2, 3, 4, 5, 6, 7] rfl)
  · have hf := fb_f h_95 hf
    exact w_X_X10_seek__0_98 C hr hf hP hS (lv_sub hl [3, 7] rfl)
set_option maxRecDepth 20000 in
theorem w_X_X10_seek__0_55 {p : Program} {l : Launch} {e : Env} {s : State} {m : MethodId} {args : Array Value} {below : List Frame} {meth : Method} {c : Code} {A : Nat → Prop} {Q : State → Prop} {D : va_G} {ca : Nat → ClassId} {a : Nat → Nat} {u : fw_S} {r : Int64} {k36 : fw_S → Int32 → Int64 → Int32 → Int32 → Int64 → Int32 → Option (Int64 × fw_S)} (C : CX (WX ca a) D (tyv ca) p s m args c A prog_1_method_21_code 10 RX10) (hr : True → RX (WX ca a) D p l e rm_X_X10_seek__0 s m args below meth c A prog_1_method_21_code Q .lreturn [.long r] u) (hk36 : ∀ (t : fw_S) (x1 : Int32) (y2 : Int64) (x4 : Int32) (x5 : Int32) (y6 : Int64) (x8 : Int32) (H : Heap) (locs : List Loc) (ls : Array Slot), k36 t x1 y2 x4 x5 y6 x8 = some (r, u) → va_P D classes (WX ca a t) H → va_S A s.heap H locs → lv_has ls 10 [(0, .ref (a 0)), (1, .int x1), (2, .long y2), (4, .int x4), (5, .int x5), (6, .long y6), (8, .int x8)] → W p l e rm_X_X10_seek__0 s m args below meth c H locs 0 0 Q (F0 m 36 ls [])) {t : fw_S} {x1 : Int32} {y2 : Int64} {x4 : Int32} {x5 : Int32} {y6 : Int64} {x8 : Int32} {H : Heap} {locs : List Loc} {ls : Array Slot} (hf : b_X_X10_seek__0_55 k36 t x1 y2 x4 x5 y6 x8 = some (r, u)) (hP : va_P D classes (WX ca a t) H) (hS : va_S A s.heap H locs) (hl : lv_has ls 10 [(0, .ref (a 0)), (1, .int x1), (2, .long y2), (4, .int x4), (5, .int x5), (6, .long y6), (8, .int x8)]) : W p l e rm_X_X10_seek__0 s m args below meth c H locs 0 0 Q (F0 m 55 ls []) := by
  obtain ⟨hx, hb, hml, hown, hts, hN, hK, hD, hA⟩ := id C
  have hf : (fb_b (f_X_X10_supposed__0 t x1 (y2 + x8.toInt64)) fun v_2 t_1 => (if v_2 = ((-7 : Int32)) then b_X_X10_seek__0_104 k36 t_1 x1 y2 x4 x5 y6 x8 else b_X_X10_seek__0_70 k36 t_1 x1 y2 x4 x5 y6 x8)) = some (r, u) := hf
  refine lv_aload_n hx hb dX10_seek_55 rfl (lv_at hl 0 rfl) ?_
  refine lv_iload_n hx hb dX10_seek_56 rfl (lv_at hl 1 rfl) ?_
  refine lv_lload_n hx hb dX10_seek_57 rfl (lv_at hl 2 rfl) ?_
  refine lv_iload hx hb dX10_seek_58 (lv_at hl 6 rfl) ?_
  refine lv_i2l hx hb dX10_seek_60 rfl ?_
  refine lv_ladd hx hb dX10_seek_61 ?_
  obtain ⟨v_2, t_1, g_62, hf⟩ := fb_bs hf
  refine fw_V1 (As := [.int x1, .long (y2 + x8.toInt64)]) (rest := []) (n := 2) (q0 := 0) C (c_X_X10_supposed__0 (l := l) (D := D) (ca := ca) (a := a) g_62) kw_950 kw_952 kw_92 kw_953 kw_35 hP hS hl (heX_0 ca a t) rfl rfl rfl (by decide) (by decide +kernel) ⟨Nat.le_of_ble_eq_true rfl, Nat.le_of_ble_eq_true rfl⟩ rfl rfl (Nat.le_of_ble_eq_true rfl) dX10_seek_62 (fun H locs hP hS => ?_)
  refine W.eq (g2 := F0 m 65 ls [.int v_2]) rfl ?_
  refine lv_bipush (v := (-7)) hx hb dX10_seek_65 (by decide) ?_
  refine lv_icmp_eq (tgt := 104) hx hb dX10_seek_67 (by decide) (fun h_67 => ?_) (fun h_67 => ?_)
  · have hf := fb_t h_67 hf
    exact w_X_X10_seek__0_104 C hr hk36 hf hP hS (lv_sub hl [0, 1, 2, 3, 4, 5, 6] rfl)
  · have hf := fb_f h_67 hf
    exact w_X_X10_seek__0_70 C hr hk36 hf hP hS (lv_sub hl [0, 1, 2, 3, 4, 5, 6] rfl)
set_option maxRecDepth 20000 in
theorem w_X_X10_seek__0_43 {p : Program} {l : Launch} {e : Env} {s : State} {m : MethodId} {args : Array Value} {below : List Frame} {meth : Method} {c : Code} {A : Nat → Prop} {Q : State → Prop} {D : va_G} {ca : Nat → ClassId} {a : Nat → Nat} {u : fw_S} {r : Int64} {k36 : fw_S → Int32 → Int64 → Int32 → Int32 → Int64 → Int32 → Option (Int64 × fw_S)} (C : CX (WX ca a) D (tyv ca) p s m args c A prog_1_method_21_code 10 RX10) (hr : True → RX (WX ca a) D p l e rm_X_X10_seek__0 s m args below meth c A prog_1_method_21_code Q .lreturn [.long r] u) (hk36 : ∀ (t : fw_S) (x1 : Int32) (y2 : Int64) (x4 : Int32) (x5 : Int32) (y6 : Int64) (x8 : Int32) (H : Heap) (locs : List Loc) (ls : Array Slot), k36 t x1 y2 x4 x5 y6 x8 = some (r, u) → va_P D classes (WX ca a t) H → va_S A s.heap H locs → lv_has ls 10 [(0, .ref (a 0)), (1, .int x1), (2, .long y2), (4, .int x4), (5, .int x5), (6, .long y6), (8, .int x8)] → W p l e rm_X_X10_seek__0 s m args below meth c H locs 0 0 Q (F0 m 36 ls [])) {t : fw_S} {x1 : Int32} {y2 : Int64} {x4 : Int32} {x5 : Int32} {y6 : Int64} {x8 : Int32} {H : Heap} {locs : List Loc} {ls : Array Slot} (hf : b_X_X10_seek__0_43 k36 t x1 y2 x4 x5 y6 x8 = some (r, u)) (hP : va_P D classes (WX ca a t) H) (hS : va_S A s.heap H locs) (hl : lv_has ls 10 [(0, .ref (a 0)), (1, .int x1), (2, .long y2), (4, .int x4), (5, .int x5), (6, .long y6), (8, .int x8)]) : W p l e rm_X_X10_seek__0 s m args below meth c H locs 0 0 Q (F0 m 43 ls []) := by
  obtain ⟨hx, hb, hml, hown, hts, hN, hK, hD, hA⟩ := id C
  have hf : (if 0 < (lg_cmp y2 (((9223372036854775807 : Int64)) - x8.toInt64)) then b_X_X10_seek__0_110 t else b_X_X10_seek__0_55 k36 t x1 y2 x4 x5 y6 x8) = some (r, u) := hf
  refine lv_lload_n hx hb dX10_seek_43 rfl (lv_at hl 2 rfl) ?_
  refine lv_ldc2 (v := (9223372036854775807)) hx hb hown (hts _ kw_963) dX10_seek_44 ?_
  refine lv_iload hx hb dX10_seek_47 (lv_at hl 6 rfl) ?_
  refine lv_i2l hx hb dX10_seek_49 rfl ?_
  refine lv_lsub hx hb dX10_seek_50 ?_
  refine W.lcmp hx hb dX10_seek_51 ?_
  refine lv_if_gt (tgt := 110) hx hb dX10_seek_52 (by decide) (fun h_52 => ?_) (fun h_52 => ?_)
  · have hf := fb_t h_52 hf
    exact w_X_X10_seek__0_110 C hr hf hP hS (lv_sub hl [] rfl)
  · have hf := fb_f h_52 hf
    exact w_X_X10_seek__0_55 C hr hk36 hf hP hS (lv_sub hl [0, 1, 2, 3, 4, 5, 6] rfl)
set_option maxRecDepth 20000 in
theorem w_X_X10_seek__0_36 {p : Program} {l : Launch} {e : Env} {s : State} {m : MethodId} {args : Array Value} {below : List Frame} {meth : Method} {c : Code} {A : Nat → Prop} {Q : State → Prop} {D : va_G} {ca : Nat → ClassId} {a : Nat → Nat} {u : fw_S} {r : Int64}  (C : CX (WX ca a) D (tyv ca) p s m args c A prog_1_method_21_code 10 RX10) (hr : True → RX (WX ca a) D p l e rm_X_X10_seek__0 s m args below meth c A prog_1_method_21_code Q .lreturn [.long r] u) : ∀ (n : Nat) (t : fw_S) (x1 : Int32) (y2 : Int64) (x4 : Int32) (x5 : Int32) (y6 : Int64) (x8 : Int32) (H : Heap) (locs : List Loc) (ls : Array Slot), b_X_X10_seek__0_36  n t x1 y2 x4 x5 y6 x8 = some (r, u) → va_P D classes (WX ca a t) H → va_S A s.heap H locs → lv_has ls 10 [(0, .ref (a 0)), (1, .int x1), (2, .long y2), (4, .int x4), (5, .int x5), (6, .long y6), (8, .int x8)] → W p l e rm_X_X10_seek__0 s m args below meth c H locs 0 0 Q (F0 m 36 ls []) := by
  obtain ⟨hx, hb, hml, hown, hts, hN, hK, hD, hA⟩ := id C
  intro n
  induction n with
  | zero => intro t x1 y2 x4 x5 y6 x8 H locs ls hf; cases hf
  | succ n hk36 =>
    intro t x1 y2 x4 x5 y6 x8 H locs ls hf hP hS hl
    have hf : (if x4 ≤ x8 then b_X_X10_seek__0_110 t else b_X_X10_seek__0_43 (b_X_X10_seek__0_36 n) t x1 y2 x4 x5 y6 x8) = some (r, u) := hf
    refine lv_iload hx hb dX10_seek_36 (lv_at hl 6 rfl) ?_
    refine lv_iload hx hb dX10_seek_38 (lv_at hl 3 rfl) ?_
    refine lv_icmp_ge (tgt := 110) hx hb dX10_seek_40 (by decide) (fun h_40 => ?_) (fun h_40 => ?_)
    · have hf := fb_t h_40 hf
      exact w_X_X10_seek__0_110 C hr hf hP hS (lv_sub hl [] rfl)
    · have hf := fb_f h_40 hf
      exact w_X_X10_seek__0_43 C hr hk36 hf hP hS (lv_sub hl [0, 1, 2, 3, 4, 5, 6] rfl)
set_option maxRecDepth 20000 in
theorem w_X_X10_seek__0_33 {p : Program} {l : Launch} {e : Env} {s : State} {m : MethodId} {args : Array Value} {below : List Frame} {meth : Method} {c : Code} {A : Nat → Prop} {Q : State → Prop} {D : va_G} {ca : Nat → ClassId} {a : Nat → Nat} {u : fw_S} {r : Int64}  (C : CX (WX ca a) D (tyv ca) p s m args c A prog_1_method_21_code 10 RX10) (hr : True → RX (WX ca a) D p l e rm_X_X10_seek__0 s m args below meth c A prog_1_method_21_code Q .lreturn [.long r] u) {t : fw_S} {x1 : Int32} {y2 : Int64} {x4 : Int32} {x5 : Int32} {y6 : Int64} {H : Heap} {locs : List Loc} {ls : Array Slot} (hf : b_X_X10_seek__0_33  t x1 y2 x4 x5 y6 = some (r, u)) (hP : va_P D classes (WX ca a t) H) (hS : va_S A s.heap H locs) (hl : lv_has ls 10 [(0, .ref (a 0)), (1, .int x1), (2, .long y2), (4, .int x4), (5, .int x5), (6, .long y6)]) : W p l e rm_X_X10_seek__0 s m args below meth c H locs 0 0 Q (F0 m 33 ls []) := by
  obtain ⟨hx, hb, hml, hown, hts, hN, hK, hD, hA⟩ := id C
  have hf : (b_X_X10_seek__0_36 3000 t x1 y2 x4 x5 y6 ((0 : Int32))) = some (r, u) := hf
  refine lv_iconst (v := 0) hx hb dX10_seek_33 (by decide) ?_
  refine lv_istore (lv' := [(8, .int ((0 : Int32))), (0, .ref (a 0)), (1, .int x1), (2, .long y2), (4, .int x4), (5, .int x5), (6, .long y6)]) hx hb dX10_seek_34 hl (by decide) rfl (fun ls hl => ?_)
  exact w_X_X10_seek__0_36 C hr 3000 t x1 y2 x4 x5 y6 ((0 : Int32)) _ _ _ hf hP hS (lv_sub hl [1, 2, 3, 4, 5, 6, 0] rfl)
set_option maxRecDepth 20000 in
theorem w_X_X10_seek__0_22 {p : Program} {l : Launch} {e : Env} {s : State} {m : MethodId} {args : Array Value} {below : List Frame} {meth : Method} {c : Code} {A : Nat → Prop} {Q : State → Prop} {D : va_G} {ca : Nat → ClassId} {a : Nat → Nat} {u : fw_S} {r : Int64}  (C : CX (WX ca a) D (tyv ca) p s m args c A prog_1_method_21_code 10 RX10) (hr : True → RX (WX ca a) D p l e rm_X_X10_seek__0 s m args below meth c A prog_1_method_21_code Q .lreturn [.long r] u) {t : fw_S} {x1 : Int32} {y2 : Int64} {x4 : Int32} {x5 : Int32} {y6 : Int64} {H : Heap} {locs : List Loc} {ls : Array Slot} (hf : b_X_X10_seek__0_22  t x1 y2 x4 x5 y6 = some (r, u)) (hP : va_P D classes (WX ca a t) H) (hS : va_S A s.heap H locs) (hl : lv_has ls 10 [(0, .ref (a 0)), (1, .int x1), (2, .long y2), (4, .int x4), (5, .int x5), (6, .long y6)]) : W p l e rm_X_X10_seek__0 s m args below meth c H locs 0 0 Q (F0 m 22 ls []) := by
  obtain ⟨hx, hb, hml, hown, hts, hN, hK, hD, hA⟩ := id C
  have hf : (if x4 ≤ ((12 : Int32)) then b_X_X10_seek__0_33 t x1 y2 x4 x5 y6 else b_X_X10_seek__0_29 t) = some (r, u) := hf
  refine lv_iload hx hb dX10_seek_22 (lv_at hl 3 rfl) ?_
  refine lv_bipush (v := 12) hx hb dX10_seek_24 (by decide) ?_
  refine lv_icmp_le (tgt := 33) hx hb dX10_seek_26 (by decide) (fun h_26 => ?_) (fun h_26 => ?_)
  · have hf := fb_t h_26 hf
    exact w_X_X10_seek__0_33 C hr hf hP hS (lv_sub hl [0, 1, 2, 3, 4, 5] rfl)
  · have hf := fb_f h_26 hf
    exact w_X_X10_seek__0_29 C hr hf hP hS (lv_sub hl [] rfl)
set_option maxRecDepth 20000 in
theorem w_X_X10_seek__0_17 {p : Program} {l : Launch} {e : Env} {s : State} {m : MethodId} {args : Array Value} {below : List Frame} {meth : Method} {c : Code} {A : Nat → Prop} {Q : State → Prop} {D : va_G} {ca : Nat → ClassId} {a : Nat → Nat} {u : fw_S} {r : Int64}  (C : CX (WX ca a) D (tyv ca) p s m args c A prog_1_method_21_code 10 RX10) (hr : True → RX (WX ca a) D p l e rm_X_X10_seek__0 s m args below meth c A prog_1_method_21_code Q .lreturn [.long r] u) {t : fw_S} {x1 : Int32} {y2 : Int64} {x4 : Int32} {x5 : Int32} {y6 : Int64} {H : Heap} {locs : List Loc} {ls : Array Slot} (hf : b_X_X10_seek__0_17  t x1 y2 x4 x5 y6 = some (r, u)) (hP : va_P D classes (WX ca a t) H) (hS : va_S A s.heap H locs) (hl : lv_has ls 10 [(0, .ref (a 0)), (1, .int x1), (2, .long y2), (4, .int x4), (5, .int x5), (6, .long y6)]) : W p l e rm_X_X10_seek__0 s m args below meth c H locs 0 0 Q (F0 m 17 ls []) := by
  obtain ⟨hx, hb, hml, hown, hts, hN, hK, hD, hA⟩ := id C
  have hf : (if x4 < 0 then b_X_X10_seek__0_29 t else b_X_X10_seek__0_22 t x1 y2 x4 x5 y6) = some (r, u) := hf
  refine lv_iload hx hb dX10_seek_17 (lv_at hl 3 rfl) ?_
  refine lv_if_lt (tgt := 29) hx hb dX10_seek_19 (by decide) (fun h_19 => ?_) (fun h_19 => ?_)
  · have hf := fb_t h_19 hf
    exact w_X_X10_seek__0_29 C hr hf hP hS (lv_sub hl [] rfl)
  · have hf := fb_f h_19 hf
    exact w_X_X10_seek__0_22 C hr hf hP hS (lv_sub hl [0, 1, 2, 3, 4, 5] rfl)
set_option maxRecDepth 20000 in
theorem w_X_X10_seek__0_8 {p : Program} {l : Launch} {e : Env} {s : State} {m : MethodId} {args : Array Value} {below : List Frame} {meth : Method} {c : Code} {A : Nat → Prop} {Q : State → Prop} {D : va_G} {ca : Nat → ClassId} {a : Nat → Nat} {u : fw_S} {r : Int64}  (C : CX (WX ca a) D (tyv ca) p s m args c A prog_1_method_21_code 10 RX10) (hr : True → RX (WX ca a) D p l e rm_X_X10_seek__0 s m args below meth c A prog_1_method_21_code Q .lreturn [.long r] u) {t : fw_S} {x1 : Int32} {y2 : Int64} {x4 : Int32} {x5 : Int32} {y6 : Int64} {H : Heap} {locs : List Loc} {ls : Array Slot} (hf : b_X_X10_seek__0_8  t x1 y2 x4 x5 y6 = some (r, u)) (hP : va_P D classes (WX ca a t) H) (hS : va_S A s.heap H locs) (hl : lv_has ls 10 [(0, .ref (a 0)), (1, .int x1), (2, .long y2), (4, .int x4), (5, .int x5), (6, .long y6)]) : W p l e rm_X_X10_seek__0 s m args below meth c H locs 0 0 Q (F0 m 8 ls []) := by
  obtain ⟨hx, hb, hml, hown, hts, hN, hK, hD, hA⟩ := id C
  have hf : (fb_b (f_X_X10_isCell t x5.toInt64) fun v_2 t_1 => (if v_2 = 0 then b_X_X10_seek__0_29 t_1 else b_X_X10_seek__0_17 t_1 x1 y2 x4 x5 y6)) = some (r, u) := hf
  refine lv_iload hx hb dX10_seek_8 (lv_at hl 4 rfl) ?_
  refine lv_i2l hx hb dX10_seek_10 rfl ?_
  obtain ⟨v_2, t_1, g_11, hf⟩ := fb_bs hf
  refine fw_S1 (As := [.long x5.toInt64]) (rest := []) (n := 1) C (c_X_X10_isCell (l := l) (D := D) (ca := ca) (a := a) g_11) kw_398 kw_399 kw_92 kw_400 hP hS hl rfl rfl (by decide) (by decide +kernel) ⟨Nat.le_of_ble_eq_true rfl, Nat.le_of_ble_eq_true rfl⟩ rfl rfl (Nat.le_of_ble_eq_true rfl) dX10_seek_11 (fun H locs hP hS => ?_)
  refine W.eq (g2 := F0 m 14 ls [.int v_2]) rfl ?_
  refine lv_if_eq (tgt := 29) hx hb dX10_seek_14 (by decide) (fun h_14 => ?_) (fun h_14 => ?_)
  · have hf := fb_t h_14 hf
    exact w_X_X10_seek__0_29 C hr hf hP hS (lv_sub hl [] rfl)
  · have hf := fb_f h_14 hf
    exact w_X_X10_seek__0_17 C hr hf hP hS (lv_sub hl [0, 1, 2, 3, 4, 5] rfl)
set_option maxRecDepth 20000 in
theorem w_X_X10_seek__0_0 {p : Program} {l : Launch} {e : Env} {s : State} {m : MethodId} {args : Array Value} {below : List Frame} {meth : Method} {c : Code} {A : Nat → Prop} {Q : State → Prop} {D : va_G} {ca : Nat → ClassId} {a : Nat → Nat} {u : fw_S} {r : Int64}  (C : CX (WX ca a) D (tyv ca) p s m args c A prog_1_method_21_code 10 RX10) (hr : True → RX (WX ca a) D p l e rm_X_X10_seek__0 s m args below meth c A prog_1_method_21_code Q .lreturn [.long r] u) {t : fw_S} {x1 : Int32} {y2 : Int64} {x4 : Int32} {x5 : Int32} {y6 : Int64} {H : Heap} {locs : List Loc} {ls : Array Slot} (hf : b_X_X10_seek__0_0  t x1 y2 x4 x5 y6 = some (r, u)) (hP : va_P D classes (WX ca a t) H) (hS : va_S A s.heap H locs) (hl : lv_has ls 10 [(0, .ref (a 0)), (1, .int x1), (2, .long y2), (4, .int x4), (5, .int x5), (6, .long y6)]) : W p l e rm_X_X10_seek__0 s m args below meth c H locs 0 0 Q (F0 m 0 ls []) := by
  obtain ⟨hx, hb, hml, hown, hts, hN, hK, hD, hA⟩ := id C
  have hf : (fb_b (f_X_X10_isCell t x1.toInt64) fun v_2 t_1 => (if v_2 = 0 then b_X_X10_seek__0_29 t_1 else b_X_X10_seek__0_8 t_1 x1 y2 x4 x5 y6)) = some (r, u) := hf
  refine lv_iload_n hx hb dX10_seek_0 rfl (lv_at hl 1 rfl) ?_
  refine lv_i2l hx hb dX10_seek_1 rfl ?_
  obtain ⟨v_2, t_1, g_2, hf⟩ := fb_bs hf
  refine fw_S1 (As := [.long x1.toInt64]) (rest := []) (n := 1) C (c_X_X10_isCell (l := l) (D := D) (ca := ca) (a := a) g_2) kw_398 kw_399 kw_92 kw_400 hP hS hl rfl rfl (by decide) (by decide +kernel) ⟨Nat.le_of_ble_eq_true rfl, Nat.le_of_ble_eq_true rfl⟩ rfl rfl (Nat.le_of_ble_eq_true rfl) dX10_seek_2 (fun H locs hP hS => ?_)
  refine W.eq (g2 := F0 m 5 ls [.int v_2]) rfl ?_
  refine lv_if_eq (tgt := 29) hx hb dX10_seek_5 (by decide) (fun h_5 => ?_) (fun h_5 => ?_)
  · have hf := fb_t h_5 hf
    exact w_X_X10_seek__0_29 C hr hf hP hS (lv_sub hl [] rfl)
  · have hf := fb_f h_5 hf
    exact w_X_X10_seek__0_8 C hr hf hP hS (lv_sub hl [0, 1, 2, 3, 4, 5] rfl)
set_option maxRecDepth 20000 in
theorem c_X_X10_seek__0 {l : Launch} {D : va_G} {ca : Nat → ClassId} {a : Nat → Nat} {t : fw_S} {x1 : Int32} {y2 : Int64} {x4 : Int32} {x5 : Int32} {y6 : Int64} {u : fw_S} {r : Int64} (hf : f_X_X10_seek__0 t x1 y2 x4 x5 y6 = some (r, u)) : MC (WX ca a) D (tyv ca) l yX10_seek (.code yX10_seek prog_1_method_21_code 10 (some .long) :: lw_gd) rm_X_X10_seek__0 [.ref (a 0), .int x1, .long y2, .int x4, .int x5, .long y6] (some (.long r)) t u := by
  refine fw_met (okX ca a) (by decide +kernel) rfl rfl (Nat.le_of_ble_eq_true rfl) ?_
  intro p e s m args below meth c A Q ls C hr hk hP hS hl hQ
  exact w_X_X10_seek__0_0 C (fun _ => fw_rl C hr hk hQ) hf hP hS (lv_sub hl [0, 1, 2, 3, 4, 5] rfl)
/-! ReactiveSheet.spell(I)I ['x'] -/
abbrev rm_X_X10_spell__0 : Room := { frames := 2, cells := 0, slots := 0, locals := 42 }
def b_X_X10_spell__0_26  (t : fw_S)  : Option (Int32 × fw_S) := some ((-3 : Int32), t)
def b_X_X10_spell__0_10  (t : fw_S) (x1 : Int32) : Option (Int32 × fw_S) := fb_v (f_X_X1_now__3 t) fun t_1 => (fb_v (f_X_X0_formulaOf__4 t_1 x1) fun t_2 => (b_X_X10_spell__0_26 t_2))
def b_X_X10_spell__0_8  (t : fw_S)  : Option (Int32 × fw_S) := some ((-1 : Int32), t)
def b_X_X10_spell__0_0  (t : fw_S) (x1 : Int32) : Option (Int32 × fw_S) := fb_b (f_X_X10_isCell t x1.toInt64) fun v_2 t_1 => (if v_2 = 0 then b_X_X10_spell__0_8 t_1 else b_X_X10_spell__0_10 t_1 x1)
def f_X_X10_spell__0 (t : fw_S) (x1 : Int32) : Option (Int32 × fw_S) := b_X_X10_spell__0_0 t x1
set_option maxRecDepth 20000 in
theorem w_X_X10_spell__0_26 {p : Program} {l : Launch} {e : Env} {s : State} {m : MethodId} {args : Array Value} {below : List Frame} {meth : Method} {c : Code} {A : Nat → Prop} {Q : State → Prop} {D : va_G} {ca : Nat → ClassId} {a : Nat → Nat} {u : fw_S} {r : Int32}  (C : CX (WX ca a) D (tyv ca) p s m args c A prog_1_method_22_code 3 RX10) (hr : True → RX (WX ca a) D p l e rm_X_X10_spell__0 s m args below meth c A prog_1_method_22_code Q .ireturn [.int r] u) {t : fw_S}  {H : Heap} {locs : List Loc} {ls : Array Slot} (hf : b_X_X10_spell__0_26  t  = some (r, u)) (hP : va_P D classes (WX ca a t) H) (hS : va_S A s.heap H locs) (hl : lv_has ls 3 []) : W p l e rm_X_X10_spell__0 s m args below meth c H locs 0 0 Q (F0 m 26 ls []) := by
  obtain ⟨hx, hb, hml, hown, hts, hN, hK, hD, hA⟩ := id C
  have hf : (some ((-3 : Int32), t)) = some (r, u) := hf
  refine lv_bipush (v := (-3)) hx hb dX10_spell_26 (by decide) ?_
  obtain ⟨e_28, e2_28⟩ := fb_e hf
  subst e_28; subst e2_28
  exact hr trivial _ _ _ _ hP hS dX10_spell_28
set_option maxRecDepth 20000 in
theorem w_X_X10_spell__0_10 {p : Program} {l : Launch} {e : Env} {s : State} {m : MethodId} {args : Array Value} {below : List Frame} {meth : Method} {c : Code} {A : Nat → Prop} {Q : State → Prop} {D : va_G} {ca : Nat → ClassId} {a : Nat → Nat} {u : fw_S} {r : Int32}  (C : CX (WX ca a) D (tyv ca) p s m args c A prog_1_method_22_code 3 RX10) (hr : True → RX (WX ca a) D p l e rm_X_X10_spell__0 s m args below meth c A prog_1_method_22_code Q .ireturn [.int r] u) {t : fw_S} {x1 : Int32} {H : Heap} {locs : List Loc} {ls : Array Slot} (hf : b_X_X10_spell__0_10  t x1 = some (r, u)) (hP : va_P D classes (WX ca a t) H) (hS : va_S A s.heap H locs) (hl : lv_has ls 3 [(0, .ref (a 0)), (1, .int x1)]) : W p l e rm_X_X10_spell__0 s m args below meth c H locs 0 0 Q (F0 m 10 ls []) := by
  obtain ⟨hx, hb, hml, hown, hts, hN, hK, hD, hA⟩ := id C
  have hf : (fb_v (f_X_X1_now__3 t) fun t_1 => (fb_v (f_X_X0_formulaOf__4 t_1 x1) fun t_2 => (b_X_X10_spell__0_26 t_2))) = some (r, u) := hf
  refine lv_aload_n hx hb dX10_spell_10 rfl (lv_at hl 0 rfl) ?_
  refine va_get (D := D) (ci := 10) (v := .ref (a 3)) (C := RX10) (T := TX10) (N := 13) hx hb hts inX10 hown hK hP 0 (heX_0 ca a t) rfl 2 (by decide) (hts _ kw_356) (fun _ h9 => h9) rfl dX10_spell_11 ?_
  obtain ⟨t_1, g_14, hf⟩ := fb_vs hf
  refine fw_V1 (As := []) (rest := []) (n := 0) (q0 := 3) C (c_X_X1_now__3 (l := l) (D := D) (ca := ca) (a := a) g_14) kw_626 kw_627 kw_95 kw_629 kw_628 hP hS hl (heX_3 ca a t) rfl rfl rfl (by decide) (by decide +kernel) ⟨Nat.le_of_ble_eq_true rfl, Nat.le_of_ble_eq_true rfl⟩ rfl rfl (Nat.le_of_ble_eq_true rfl) dX10_spell_14 (fun H locs hP hS => ?_)
  refine W.eq (g2 := F0 m 17 ls [.ref (a 4)]) rfl ?_
  refine lv_iload_n hx hb dX10_spell_17 rfl (lv_at hl 1 rfl) ?_
  obtain ⟨t_2, g_18, hf⟩ := fb_vs hf
  refine fw_V1 (As := [.int x1]) (rest := []) (n := 1) (q0 := 4) C (c_X_X0_formulaOf__4 (l := l) (D := D) (ca := ca) (a := a) g_18) kw_799 kw_490 kw_96 kw_492 kw_491 hP hS hl (heX_4 ca a t_1) rfl rfl rfl (by decide) (by decide +kernel) ⟨Nat.le_of_ble_eq_true rfl, Nat.le_of_ble_eq_true rfl⟩ rfl rfl (Nat.le_of_ble_eq_true rfl) dX10_spell_18 (fun H locs hP hS => ?_)
  refine W.eq (g2 := F0 m 21 ls [.null]) rfl ?_
  refine lv_astore_nN (lv' := [(2, .null), (0, .ref (a 0)), (1, .int x1)]) hx hb dX10_spell_21 rfl hl (by decide) rfl (fun ls hl => ?_)
  refine lv_aload_nN hx hb dX10_spell_22 rfl (lv_at hl 0 rfl) ?_
  refine lv_ifnonnullN hx hb dX10_spell_23 ?_
  exact w_X_X10_spell__0_26 C hr hf hP hS (lv_sub hl [] rfl)
set_option maxRecDepth 20000 in
theorem w_X_X10_spell__0_8 {p : Program} {l : Launch} {e : Env} {s : State} {m : MethodId} {args : Array Value} {below : List Frame} {meth : Method} {c : Code} {A : Nat → Prop} {Q : State → Prop} {D : va_G} {ca : Nat → ClassId} {a : Nat → Nat} {u : fw_S} {r : Int32}  (C : CX (WX ca a) D (tyv ca) p s m args c A prog_1_method_22_code 3 RX10) (hr : True → RX (WX ca a) D p l e rm_X_X10_spell__0 s m args below meth c A prog_1_method_22_code Q .ireturn [.int r] u) {t : fw_S}  {H : Heap} {locs : List Loc} {ls : Array Slot} (hf : b_X_X10_spell__0_8  t  = some (r, u)) (hP : va_P D classes (WX ca a t) H) (hS : va_S A s.heap H locs) (hl : lv_has ls 3 []) : W p l e rm_X_X10_spell__0 s m args below meth c H locs 0 0 Q (F0 m 8 ls []) := by
  obtain ⟨hx, hb, hml, hown, hts, hN, hK, hD, hA⟩ := id C
  have hf : (some ((-1 : Int32), t)) = some (r, u) := hf
  refine lv_iconst (v := (-1)) hx hb dX10_spell_8 (by decide) ?_
  obtain ⟨e_9, e2_9⟩ := fb_e hf
  subst e_9; subst e2_9
  exact hr trivial _ _ _ _ hP hS dX10_spell_9
set_option maxRecDepth 20000 in
theorem w_X_X10_spell__0_0 {p : Program} {l : Launch} {e : Env} {s : State} {m : MethodId} {args : Array Value} {below : List Frame} {meth : Method} {c : Code} {A : Nat → Prop} {Q : State → Prop} {D : va_G} {ca : Nat → ClassId} {a : Nat → Nat} {u : fw_S} {r : Int32}  (C : CX (WX ca a) D (tyv ca) p s m args c A prog_1_method_22_code 3 RX10) (hr : True → RX (WX ca a) D p l e rm_X_X10_spell__0 s m args below meth c A prog_1_method_22_code Q .ireturn [.int r] u) {t : fw_S} {x1 : Int32} {H : Heap} {locs : List Loc} {ls : Array Slot} (hf : b_X_X10_spell__0_0  t x1 = some (r, u)) (hP : va_P D classes (WX ca a t) H) (hS : va_S A s.heap H locs) (hl : lv_has ls 3 [(0, .ref (a 0)), (1, .int x1)]) : W p l e rm_X_X10_spell__0 s m args below meth c H locs 0 0 Q (F0 m 0 ls []) := by
  obtain ⟨hx, hb, hml, hown, hts, hN, hK, hD, hA⟩ := id C
  have hf : (fb_b (f_X_X10_isCell t x1.toInt64) fun v_2 t_1 => (if v_2 = 0 then b_X_X10_spell__0_8 t_1 else b_X_X10_spell__0_10 t_1 x1)) = some (r, u) := hf
  refine lv_iload_n hx hb dX10_spell_0 rfl (lv_at hl 1 rfl) ?_
  refine lv_i2l hx hb dX10_spell_1 rfl ?_
  obtain ⟨v_2, t_1, g_2, hf⟩ := fb_bs hf
  refine fw_S1 (As := [.long x1.toInt64]) (rest := []) (n := 1) C (c_X_X10_isCell (l := l) (D := D) (ca := ca) (a := a) g_2) kw_398 kw_399 kw_92 kw_400 hP hS hl rfl rfl (by decide) (by decide +kernel) ⟨Nat.le_of_ble_eq_true rfl, Nat.le_of_ble_eq_true rfl⟩ rfl rfl (Nat.le_of_ble_eq_true rfl) dX10_spell_2 (fun H locs hP hS => ?_)
  refine W.eq (g2 := F0 m 5 ls [.int v_2]) rfl ?_
  refine lv_if_ne (tgt := 10) hx hb dX10_spell_5 (by decide) (fun h_5 => ?_) (fun h_5 => ?_)
  · have hf := fb_f h_5 hf
    exact w_X_X10_spell__0_10 C hr hf hP hS (lv_sub hl [0, 1] rfl)
  · have hf := fb_t h_5 hf
    exact w_X_X10_spell__0_8 C hr hf hP hS (lv_sub hl [] rfl)
set_option maxRecDepth 20000 in
theorem c_X_X10_spell__0 {l : Launch} {D : va_G} {ca : Nat → ClassId} {a : Nat → Nat} {t : fw_S} {x1 : Int32} {u : fw_S} {r : Int32} (hf : f_X_X10_spell__0 t x1 = some (r, u)) : MC (WX ca a) D (tyv ca) l yX10_spell (.code yX10_spell prog_1_method_22_code 3 (some .int) :: lw_gd) rm_X_X10_spell__0 [.ref (a 0), .int x1] (some (.int r)) t u := by
  refine fw_met (okX ca a) (by decide +kernel) rfl rfl (Nat.le_of_ble_eq_true rfl) ?_
  intro p e s m args below meth c A Q ls C hr hk hP hS hl hQ
  exact w_X_X10_spell__0_0 C (fun _ => fw_ri C hr hk hQ) hf hP hS (lv_sub hl [0, 1] rfl)
/-! ReactiveSheet.Speller.letter(I)I ['x.speller'] -/
abbrev rm_X_X6_letter__2 : Room := { frames := 0, cells := 0, slots := 0, locals := 0 }
def b_X_X6_letter__2_29  (t : fw_S) (z0 : Int32) : Option (Int32 × fw_S) := some (z0, t)
def b_X_X6_letter__2_28  (t : fw_S)  : Option (Int32 × fw_S) := b_X_X6_letter__2_29 t ((-1 : Int32))
def b_X_X6_letter__2_19  (t : fw_S) (x1 : Int32) : Option (Int32 × fw_S) := fb_g (¬ (x1 < 0 ∨ 256 ≤ x1.toNatClampNeg)) (b_X_X6_letter__2_29 t (st_F t 6 x1.toNatClampNeg))
def b_X_X6_letter__2_12  (t : fw_S) (x1 : Int32) : Option (Int32 × fw_S) := if ((256 : Int32)) ≤ x1 then b_X_X6_letter__2_28 t else b_X_X6_letter__2_19 t x1
def b_X_X6_letter__2_4  (t : fw_S) (x1 : Int32) : Option (Int32 × fw_S) := if (st_I t 6) ≤ x1 then b_X_X6_letter__2_28 t else b_X_X6_letter__2_12 t x1
def b_X_X6_letter__2_0  (t : fw_S) (x1 : Int32) : Option (Int32 × fw_S) := if x1 < 0 then b_X_X6_letter__2_28 t else b_X_X6_letter__2_4 t x1
def f_X_X6_letter__2 (t : fw_S) (x1 : Int32) : Option (Int32 × fw_S) := b_X_X6_letter__2_0 t x1
set_option maxRecDepth 20000 in
theorem w_X_X6_letter__2_29 {p : Program} {l : Launch} {e : Env} {s : State} {m : MethodId} {args : Array Value} {below : List Frame} {meth : Method} {c : Code} {A : Nat → Prop} {Q : State → Prop} {D : va_G} {ca : Nat → ClassId} {a : Nat → Nat} {u : fw_S} {r : Int32}  (C : CX (WX ca a) D (tyv ca) p s m args c A prog_8_method_3_code 2 RX6) (hr : True → RX (WX ca a) D p l e rm_X_X6_letter__2 s m args below meth c A prog_8_method_3_code Q .ireturn [.int r] u) {t : fw_S} {z0 : Int32} {H : Heap} {locs : List Loc} {ls : Array Slot} (hf : b_X_X6_letter__2_29  t z0 = some (r, u)) (hP : va_P D classes (WX ca a t) H) (hS : va_S A s.heap H locs) (hl : lv_has ls 2 []) : W p l e rm_X_X6_letter__2 s m args below meth c H locs 0 0 Q (F0 m 29 ls [.int z0]) := by
  obtain ⟨hx, hb, hml, hown, hts, hN, hK, hD, hA⟩ := id C
  have hf : (some (z0, t)) = some (r, u) := hf
  obtain ⟨e_29, e2_29⟩ := fb_e hf
  subst e_29; subst e2_29
  exact hr trivial _ _ _ _ hP hS dX6_letter_29
set_option maxRecDepth 20000 in
theorem w_X_X6_letter__2_28 {p : Program} {l : Launch} {e : Env} {s : State} {m : MethodId} {args : Array Value} {below : List Frame} {meth : Method} {c : Code} {A : Nat → Prop} {Q : State → Prop} {D : va_G} {ca : Nat → ClassId} {a : Nat → Nat} {u : fw_S} {r : Int32}  (C : CX (WX ca a) D (tyv ca) p s m args c A prog_8_method_3_code 2 RX6) (hr : True → RX (WX ca a) D p l e rm_X_X6_letter__2 s m args below meth c A prog_8_method_3_code Q .ireturn [.int r] u) {t : fw_S}  {H : Heap} {locs : List Loc} {ls : Array Slot} (hf : b_X_X6_letter__2_28  t  = some (r, u)) (hP : va_P D classes (WX ca a t) H) (hS : va_S A s.heap H locs) (hl : lv_has ls 2 []) : W p l e rm_X_X6_letter__2 s m args below meth c H locs 0 0 Q (F0 m 28 ls []) := by
  obtain ⟨hx, hb, hml, hown, hts, hN, hK, hD, hA⟩ := id C
  have hf : (b_X_X6_letter__2_29 t ((-1 : Int32))) = some (r, u) := hf
  refine lv_iconst (v := (-1)) hx hb dX6_letter_28 (by decide) ?_
  exact w_X_X6_letter__2_29 C hr hf hP hS (lv_sub hl [] rfl)
set_option maxRecDepth 20000 in
theorem w_X_X6_letter__2_19 {p : Program} {l : Launch} {e : Env} {s : State} {m : MethodId} {args : Array Value} {below : List Frame} {meth : Method} {c : Code} {A : Nat → Prop} {Q : State → Prop} {D : va_G} {ca : Nat → ClassId} {a : Nat → Nat} {u : fw_S} {r : Int32}  (C : CX (WX ca a) D (tyv ca) p s m args c A prog_8_method_3_code 2 RX6) (hr : True → RX (WX ca a) D p l e rm_X_X6_letter__2 s m args below meth c A prog_8_method_3_code Q .ireturn [.int r] u) {t : fw_S} {x1 : Int32} {H : Heap} {locs : List Loc} {ls : Array Slot} (hf : b_X_X6_letter__2_19  t x1 = some (r, u)) (hP : va_P D classes (WX ca a t) H) (hS : va_S A s.heap H locs) (hl : lv_has ls 2 [(0, .ref (a 2)), (1, .int x1)]) : W p l e rm_X_X6_letter__2 s m args below meth c H locs 0 0 Q (F0 m 19 ls []) := by
  obtain ⟨hx, hb, hml, hown, hts, hN, hK, hD, hA⟩ := id C
  have hf : (fb_g (¬ (x1 < 0 ∨ 256 ≤ x1.toNatClampNeg)) (b_X_X6_letter__2_29 t (st_F t 6 x1.toNatClampNeg))) = some (r, u) := hf
  refine lv_aload_n hx hb dX6_letter_19 rfl (lv_at hl 0 rfl) ?_
  refine va_get (D := D) (ci := 6) (v := .ref (a 20)) (C := RX6) (T := TX6) (N := 4) hx hb hts inX6 hown hK hP 2 (heX_2 ca a t) rfl 0 (by decide) (hts _ kw_160) (fun _ h9 => h9) rfl dX6_letter_20 ?_
  refine lv_iload_n hx hb dX6_letter_23 rfl (lv_at hl 1 rfl) ?_
  obtain ⟨h_24, hf⟩ := fb_if hf
  refine va_iald hx hb hK hP 20 0 (haX_20 ca a t) rfl h_24 dX6_letter_24 ?_
  refine lv_goto (tgt := 29) hx hb dX6_letter_25 (by decide) ?_
  exact w_X_X6_letter__2_29 C hr hf hP hS (lv_sub hl [] rfl)
set_option maxRecDepth 20000 in
theorem w_X_X6_letter__2_12 {p : Program} {l : Launch} {e : Env} {s : State} {m : MethodId} {args : Array Value} {below : List Frame} {meth : Method} {c : Code} {A : Nat → Prop} {Q : State → Prop} {D : va_G} {ca : Nat → ClassId} {a : Nat → Nat} {u : fw_S} {r : Int32}  (C : CX (WX ca a) D (tyv ca) p s m args c A prog_8_method_3_code 2 RX6) (hr : True → RX (WX ca a) D p l e rm_X_X6_letter__2 s m args below meth c A prog_8_method_3_code Q .ireturn [.int r] u) {t : fw_S} {x1 : Int32} {H : Heap} {locs : List Loc} {ls : Array Slot} (hf : b_X_X6_letter__2_12  t x1 = some (r, u)) (hP : va_P D classes (WX ca a t) H) (hS : va_S A s.heap H locs) (hl : lv_has ls 2 [(0, .ref (a 2)), (1, .int x1)]) : W p l e rm_X_X6_letter__2 s m args below meth c H locs 0 0 Q (F0 m 12 ls []) := by
  obtain ⟨hx, hb, hml, hown, hts, hN, hK, hD, hA⟩ := id C
  have hf : (if ((256 : Int32)) ≤ x1 then b_X_X6_letter__2_28 t else b_X_X6_letter__2_19 t x1) = some (r, u) := hf
  refine lv_iload_n hx hb dX6_letter_12 rfl (lv_at hl 1 rfl) ?_
  refine lv_sipush (v := 256) hx hb dX6_letter_13 (by decide) ?_
  refine lv_icmp_ge (tgt := 28) hx hb dX6_letter_16 (by decide) (fun h_16 => ?_) (fun h_16 => ?_)
  · have hf := fb_t h_16 hf
    exact w_X_X6_letter__2_28 C hr hf hP hS (lv_sub hl [] rfl)
  · have hf := fb_f h_16 hf
    exact w_X_X6_letter__2_19 C hr hf hP hS (lv_sub hl [0, 1] rfl)
set_option maxRecDepth 20000 in
theorem w_X_X6_letter__2_4 {p : Program} {l : Launch} {e : Env} {s : State} {m : MethodId} {args : Array Value} {below : List Frame} {meth : Method} {c : Code} {A : Nat → Prop} {Q : State → Prop} {D : va_G} {ca : Nat → ClassId} {a : Nat → Nat} {u : fw_S} {r : Int32}  (C : CX (WX ca a) D (tyv ca) p s m args c A prog_8_method_3_code 2 RX6) (hr : True → RX (WX ca a) D p l e rm_X_X6_letter__2 s m args below meth c A prog_8_method_3_code Q .ireturn [.int r] u) {t : fw_S} {x1 : Int32} {H : Heap} {locs : List Loc} {ls : Array Slot} (hf : b_X_X6_letter__2_4  t x1 = some (r, u)) (hP : va_P D classes (WX ca a t) H) (hS : va_S A s.heap H locs) (hl : lv_has ls 2 [(0, .ref (a 2)), (1, .int x1)]) : W p l e rm_X_X6_letter__2 s m args below meth c H locs 0 0 Q (F0 m 4 ls []) := by
  obtain ⟨hx, hb, hml, hown, hts, hN, hK, hD, hA⟩ := id C
  have hf : (if (st_I t 6) ≤ x1 then b_X_X6_letter__2_28 t else b_X_X6_letter__2_12 t x1) = some (r, u) := hf
  refine lv_iload_n hx hb dX6_letter_4 rfl (lv_at hl 1 rfl) ?_
  refine lv_aload_n hx hb dX6_letter_5 rfl (lv_at hl 0 rfl) ?_
  refine va_get (D := D) (ci := 6) (v := .int (st_I t 6)) (C := RX6) (T := TX6) (N := 4) hx hb hts inX6 hown hK hP 2 (heX_2 ca a t) rfl 2 (by decide) (hts _ kw_162) (fun _ h9 => h9) rfl dX6_letter_6 ?_
  refine lv_icmp_ge (tgt := 28) hx hb dX6_letter_9 (by decide) (fun h_9 => ?_) (fun h_9 => ?_)
  · have hf := fb_t h_9 hf
    exact w_X_X6_letter__2_28 C hr hf hP hS (lv_sub hl [] rfl)
  · have hf := fb_f h_9 hf
    exact w_X_X6_letter__2_12 C hr hf hP hS (lv_sub hl [0, 1] rfl)
set_option maxRecDepth 20000 in
theorem w_X_X6_letter__2_0 {p : Program} {l : Launch} {e : Env} {s : State} {m : MethodId} {args : Array Value} {below : List Frame} {meth : Method} {c : Code} {A : Nat → Prop} {Q : State → Prop} {D : va_G} {ca : Nat → ClassId} {a : Nat → Nat} {u : fw_S} {r : Int32}  (C : CX (WX ca a) D (tyv ca) p s m args c A prog_8_method_3_code 2 RX6) (hr : True → RX (WX ca a) D p l e rm_X_X6_letter__2 s m args below meth c A prog_8_method_3_code Q .ireturn [.int r] u) {t : fw_S} {x1 : Int32} {H : Heap} {locs : List Loc} {ls : Array Slot} (hf : b_X_X6_letter__2_0  t x1 = some (r, u)) (hP : va_P D classes (WX ca a t) H) (hS : va_S A s.heap H locs) (hl : lv_has ls 2 [(0, .ref (a 2)), (1, .int x1)]) : W p l e rm_X_X6_letter__2 s m args below meth c H locs 0 0 Q (F0 m 0 ls []) := by
  obtain ⟨hx, hb, hml, hown, hts, hN, hK, hD, hA⟩ := id C
  have hf : (if x1 < 0 then b_X_X6_letter__2_28 t else b_X_X6_letter__2_4 t x1) = some (r, u) := hf
  refine lv_iload_n hx hb dX6_letter_0 rfl (lv_at hl 1 rfl) ?_
  refine lv_if_lt (tgt := 28) hx hb dX6_letter_1 (by decide) (fun h_1 => ?_) (fun h_1 => ?_)
  · have hf := fb_t h_1 hf
    exact w_X_X6_letter__2_28 C hr hf hP hS (lv_sub hl [] rfl)
  · have hf := fb_f h_1 hf
    exact w_X_X6_letter__2_4 C hr hf hP hS (lv_sub hl [0, 1] rfl)
set_option maxRecDepth 20000 in
theorem c_X_X6_letter__2 {l : Launch} {D : va_G} {ca : Nat → ClassId} {a : Nat → Nat} {t : fw_S} {x1 : Int32} {u : fw_S} {r : Int32} (hf : f_X_X6_letter__2 t x1 = some (r, u)) : MC (WX ca a) D (tyv ca) l yX6_letter (.code yX6_letter prog_8_method_3_code 2 (some .int) :: lw_gd) rm_X_X6_letter__2 [.ref (a 2), .int x1] (some (.int r)) t u := by
  refine fw_met (okX ca a) (by decide +kernel) rfl rfl (Nat.le_of_ble_eq_true rfl) ?_
  intro p e s m args below meth c A Q ls C hr hk hP hS hl hQ
  exact w_X_X6_letter__2_0 C (fun _ => fw_ri C hr hk hQ) hf hP hS (lv_sub hl [0, 1] rfl)
/-! ReactiveSheet.paper(I)I ['x'] -/
abbrev rm_X_X10_paper__0 : Room := { frames := 1, cells := 0, slots := 0, locals := 21 }
def b_X_X10_paper__0_0  (t : fw_S) (x1 : Int32) : Option (Int32 × fw_S) := fb_b (f_X_X6_letter__2 t x1) fun v_2 t_1 => (some (v_2, t_1))
def f_X_X10_paper__0 (t : fw_S) (x1 : Int32) : Option (Int32 × fw_S) := b_X_X10_paper__0_0 t x1
set_option maxRecDepth 20000 in
theorem w_X_X10_paper__0_0 {p : Program} {l : Launch} {e : Env} {s : State} {m : MethodId} {args : Array Value} {below : List Frame} {meth : Method} {c : Code} {A : Nat → Prop} {Q : State → Prop} {D : va_G} {ca : Nat → ClassId} {a : Nat → Nat} {u : fw_S} {r : Int32}  (C : CX (WX ca a) D (tyv ca) p s m args c A prog_1_method_23_code 2 RX10) (hr : True → RX (WX ca a) D p l e rm_X_X10_paper__0 s m args below meth c A prog_1_method_23_code Q .ireturn [.int r] u) {t : fw_S} {x1 : Int32} {H : Heap} {locs : List Loc} {ls : Array Slot} (hf : b_X_X10_paper__0_0  t x1 = some (r, u)) (hP : va_P D classes (WX ca a t) H) (hS : va_S A s.heap H locs) (hl : lv_has ls 2 [(0, .ref (a 0)), (1, .int x1)]) : W p l e rm_X_X10_paper__0 s m args below meth c H locs 0 0 Q (F0 m 0 ls []) := by
  obtain ⟨hx, hb, hml, hown, hts, hN, hK, hD, hA⟩ := id C
  have hf : (fb_b (f_X_X6_letter__2 t x1) fun v_2 t_1 => (some (v_2, t_1))) = some (r, u) := hf
  refine lv_aload_n hx hb dX10_paper_0 rfl (lv_at hl 0 rfl) ?_
  refine va_get (D := D) (ci := 10) (v := .ref (a 2)) (C := RX10) (T := TX10) (N := 13) hx hb hts inX10 hown hK hP 0 (heX_0 ca a t) rfl 1 (by decide) (hts _ kw_355) (fun _ h9 => h9) rfl dX10_paper_1 ?_
  refine lv_iload_n hx hb dX10_paper_4 rfl (lv_at hl 1 rfl) ?_
  obtain ⟨v_2, t_1, g_5, hf⟩ := fb_bs hf
  refine fw_V1 (As := [.int x1]) (rest := []) (n := 1) (q0 := 2) C (c_X_X6_letter__2 (l := l) (D := D) (ca := ca) (a := a) g_5) kw_1021 kw_1022 kw_94 kw_1024 kw_1023 hP hS hl (heX_2 ca a t) rfl rfl rfl (by decide) (by decide +kernel) ⟨Nat.le_of_ble_eq_true rfl, Nat.le_of_ble_eq_true rfl⟩ rfl rfl (Nat.le_of_ble_eq_true rfl) dX10_paper_5 (fun H locs hP hS => ?_)
  refine W.eq (g2 := F0 m 8 ls [.int v_2]) rfl ?_
  obtain ⟨e_8, e2_8⟩ := fb_e hf
  subst e_8; subst e2_8
  exact hr trivial _ _ _ _ hP hS dX10_paper_8
set_option maxRecDepth 20000 in
theorem c_X_X10_paper__0 {l : Launch} {D : va_G} {ca : Nat → ClassId} {a : Nat → Nat} {t : fw_S} {x1 : Int32} {u : fw_S} {r : Int32} (hf : f_X_X10_paper__0 t x1 = some (r, u)) : MC (WX ca a) D (tyv ca) l yX10_paper (.code yX10_paper prog_1_method_23_code 2 (some .int) :: lw_gd) rm_X_X10_paper__0 [.ref (a 0), .int x1] (some (.int r)) t u := by
  refine fw_met (okX ca a) (by decide +kernel) rfl rfl (Nat.le_of_ble_eq_true rfl) ?_
  intro p e s m args below meth c A Q ls C hr hk hP hS hl hQ
  exact w_X_X10_paper__0_0 C (fun _ => fw_ri C hr hk hQ) hf hP hS (lv_sub hl [0, 1] rfl)
/-! ReactiveSheet.Watching.join(IIJ)I ['x.watching'] -/
abbrev rm_X_X9_join__8 : Room := { frames := 1, cells := 0, slots := 0, locals := 20 }
def b_X_X9_join__8_12  (t : fw_S) (x1 : Int32) (x2 : Int32) (y3 : Int64) : Option (Int32 × fw_S) := fb_g (¬ ((st_I t 9) < 0 ∨ 8 ≤ (st_I t 9).toNatClampNeg)) (fb_l (up_F t 24 (upd (st_F t 24) (st_I t 9).toNatClampNeg x1)) fun t_1 => (fb_g (¬ ((st_I t_1 9) < 0 ∨ 8 ≤ (st_I t_1 9).toNatClampNeg)) (fb_l (up_F t_1 25 (upd (st_F t_1 25) (st_I t_1 9).toNatClampNeg x2)) fun t_2 => (fb_g (¬ ((st_I t_2 9) < 0 ∨ 8 ≤ (st_I t_2 9).toNatClampNeg)) (fb_l (up_G t_2 7 (vp_updL (st_G t_2 7) (st_I t_2 9).toNatClampNeg y3)) fun t_3 => (fb_b (f_X_X10_bit t_3 (st_I t_3 9)) fun v_5 t_4 => (fb_l (up_J t_4 10 ((st_J t_3 10) ||| v_5)) fun t_6 => (fb_l (up_I t_6 9 ((st_I t_6 9) + ((1 : Int32)))) fun t_7 => (some ((st_I t_7 9) - ((1 : Int32)), t_7))))))))))
def b_X_X9_join__8_9  (t : fw_S)  : Option (Int32 × fw_S) := some ((-4 : Int32), t)
def b_X_X9_join__8_0  (t : fw_S) (x1 : Int32) (x2 : Int32) (y3 : Int64) : Option (Int32 × fw_S) := if (st_I t 9) < ((8 : Int32)) then b_X_X9_join__8_12 t x1 x2 y3 else b_X_X9_join__8_9 t
def f_X_X9_join__8 (t : fw_S) (x1 : Int32) (x2 : Int32) (y3 : Int64) : Option (Int32 × fw_S) := b_X_X9_join__8_0 t x1 x2 y3
set_option maxRecDepth 20000 in
theorem w_X_X9_join__8_12 {p : Program} {l : Launch} {e : Env} {s : State} {m : MethodId} {args : Array Value} {below : List Frame} {meth : Method} {c : Code} {A : Nat → Prop} {Q : State → Prop} {D : va_G} {ca : Nat → ClassId} {a : Nat → Nat} {u : fw_S} {r : Int32}  (C : CX (WX ca a) D (tyv ca) p s m args c A prog_11_method_3_code 5 RX9) (hr : True → RX (WX ca a) D p l e rm_X_X9_join__8 s m args below meth c A prog_11_method_3_code Q .ireturn [.int r] u) {t : fw_S} {x1 : Int32} {x2 : Int32} {y3 : Int64} {H : Heap} {locs : List Loc} {ls : Array Slot} (hf : b_X_X9_join__8_12  t x1 x2 y3 = some (r, u)) (hP : va_P D classes (WX ca a t) H) (hS : va_S A s.heap H locs) (hl : lv_has ls 5 [(0, .ref (a 8)), (1, .int x1), (2, .int x2), (3, .long y3)]) : W p l e rm_X_X9_join__8 s m args below meth c H locs 0 0 Q (F0 m 12 ls []) := by
  obtain ⟨hx, hb, hml, hown, hts, hN, hK, hD, hA⟩ := id C
  have hf : (fb_g (¬ ((st_I t 9) < 0 ∨ 8 ≤ (st_I t 9).toNatClampNeg)) (fb_l (up_F t 24 (upd (st_F t 24) (st_I t 9).toNatClampNeg x1)) fun t_1 => (fb_g (¬ ((st_I t_1 9) < 0 ∨ 8 ≤ (st_I t_1 9).toNatClampNeg)) (fb_l (up_F t_1 25 (upd (st_F t_1 25) (st_I t_1 9).toNatClampNeg x2)) fun t_2 => (fb_g (¬ ((st_I t_2 9) < 0 ∨ 8 ≤ (st_I t_2 9).toNatClampNeg)) (fb_l (up_G t_2 7 (vp_updL (st_G t_2 7) (st_I t_2 9).toNatClampNeg y3)) fun t_3 => (fb_b (f_X_X10_bit t_3 (st_I t_3 9)) fun v_5 t_4 => (fb_l (up_J t_4 10 ((st_J t_3 10) ||| v_5)) fun t_6 => (fb_l (up_I t_6 9 ((st_I t_6 9) + ((1 : Int32)))) fun t_7 => (some ((st_I t_7 9) - ((1 : Int32)), t_7))))))))))) = some (r, u) := hf
  refine lv_aload_n hx hb dX9_join_12 rfl (lv_at hl 0 rfl) ?_
  refine va_get (D := D) (ci := 9) (v := .ref (a 49)) (C := RX9) (T := TX9) (N := 12) hx hb hts inX9 hown hK hP 8 (heX_8 ca a t) rfl 0 (by decide) (hts _ kw_276) (fun _ h9 => h9) rfl dX9_join_13 ?_
  refine lv_aload_n hx hb dX9_join_16 rfl (lv_at hl 0 rfl) ?_
  refine va_get (D := D) (ci := 9) (v := .int (st_I t 9)) (C := RX9) (T := TX9) (N := 12) hx hb hts inX9 hown hK hP 8 (heX_8 ca a t) rfl 3 (by decide) (hts _ kw_279) (fun _ h9 => h9) rfl dX9_join_17 ?_
  refine lv_iload_n hx hb dX9_join_20 rfl (lv_at hl 1 rfl) ?_
  obtain ⟨h_21, hf⟩ := fb_if hf
  refine va_iast hx hb hK hP (hD t) hS 49 0 (haX_49 ca a t) rfl h_21 dX9_join_21 (fun H locs hP _ hS => ?_)
  rw [saX_49] at hP
  obtain ⟨t_1, e_21, hf⟩ := fb_ls hf
  rw [← e_21] at hP
  refine lv_aload_n hx hb dX9_join_22 rfl (lv_at hl 0 rfl) ?_
  refine va_get (D := D) (ci := 9) (v := .ref (a 50)) (C := RX9) (T := TX9) (N := 12) hx hb hts inX9 hown hK hP 8 (heX_8 ca a t_1) rfl 1 (by decide) (hts _ kw_277) (fun _ h9 => h9) rfl dX9_join_23 ?_
  refine lv_aload_n hx hb dX9_join_26 rfl (lv_at hl 0 rfl) ?_
  refine va_get (D := D) (ci := 9) (v := .int (st_I t_1 9)) (C := RX9) (T := TX9) (N := 12) hx hb hts inX9 hown hK hP 8 (heX_8 ca a t_1) rfl 3 (by decide) (hts _ kw_279) (fun _ h9 => h9) rfl dX9_join_27 ?_
  refine lv_iload_n hx hb dX9_join_30 rfl (lv_at hl 2 rfl) ?_
  obtain ⟨h_31, hf⟩ := fb_if hf
  refine va_iast hx hb hK hP (hD t_1) hS 50 0 (haX_50 ca a t_1) rfl h_31 dX9_join_31 (fun H locs hP _ hS => ?_)
  rw [saX_50] at hP
  obtain ⟨t_2, e_31, hf⟩ := fb_ls hf
  rw [← e_31] at hP
  refine lv_aload_n hx hb dX9_join_32 rfl (lv_at hl 0 rfl) ?_
  refine va_get (D := D) (ci := 9) (v := .ref (a 51)) (C := RX9) (T := TX9) (N := 12) hx hb hts inX9 hown hK hP 8 (heX_8 ca a t_2) rfl 2 (by decide) (hts _ kw_278) (fun _ h9 => h9) rfl dX9_join_33 ?_
  refine lv_aload_n hx hb dX9_join_36 rfl (lv_at hl 0 rfl) ?_
  refine va_get (D := D) (ci := 9) (v := .int (st_I t_2 9)) (C := RX9) (T := TX9) (N := 12) hx hb hts inX9 hown hK hP 8 (heX_8 ca a t_2) rfl 3 (by decide) (hts _ kw_279) (fun _ h9 => h9) rfl dX9_join_37 ?_
  refine lv_lload_n hx hb dX9_join_40 rfl (lv_at hl 3 rfl) ?_
  obtain ⟨h_41, hf⟩ := fb_if hf
  refine va_last hx hb hK hP (hD t_2) hS 51 1 (haX_51 ca a t_2) rfl h_41 dX9_join_41 (fun H locs hP _ hS => ?_)
  rw [saX_51] at hP
  obtain ⟨t_3, e_41, hf⟩ := fb_ls hf
  rw [← e_41] at hP
  refine lv_aload_n hx hb dX9_join_42 rfl (lv_at hl 0 rfl) ?_
  refine lv_dup hx hb dX9_join_43 rfl ?_
  refine va_get (D := D) (ci := 9) (v := .long (st_J t_3 10)) (C := RX9) (T := TX9) (N := 12) hx hb hts inX9 hown hK hP 8 (heX_8 ca a t_3) rfl 4 (by decide) (hts _ kw_280) (fun _ h9 => h9) rfl dX9_join_44 ?_
  refine lv_aload_n hx hb dX9_join_47 rfl (lv_at hl 0 rfl) ?_
  refine va_get (D := D) (ci := 9) (v := .int (st_I t_3 9)) (C := RX9) (T := TX9) (N := 12) hx hb hts inX9 hown hK hP 8 (heX_8 ca a t_3) rfl 3 (by decide) (hts _ kw_279) (fun _ h9 => h9) rfl dX9_join_48 ?_
  obtain ⟨v_5, t_4, g_51, hf⟩ := fb_bs hf
  refine fw_S2 (As := [.int (st_I t_3 9)]) (rest := [.long (st_J t_3 10), .ref (a 8)]) (n := 1) C (c_X_X10_bit (l := l) (D := D) (ca := ca) (a := a) g_51) kw_1033 kw_408 kw_92 kw_409 hP hS hl rfl rfl (by decide) (by decide +kernel) ⟨Nat.le_of_ble_eq_true rfl, Nat.le_of_ble_eq_true rfl⟩ rfl rfl (Nat.le_of_ble_eq_true rfl) dX9_join_51 (fun H locs hP hS => ?_)
  refine W.eq (g2 := F0 m 54 ls [.long v_5, .long (st_J t_3 10), .ref (a 8)]) rfl ?_
  refine lv_lor hx hb dX9_join_54 ?_
  refine va_put (D := D) (ci := 9) (v := .long ((st_J t_3 10) ||| v_5)) (ty := .long) (C := RX9) (T := TX9) (N := 12) hx hb hts inX9 tyX9 tyX9_ok nmX9 hown hK hP (hD t_4) hS 8 (heX_8 ca a t_4) rfl 4 (by decide) (hts _ kw_280) (fun _ h9 => h9) rfl (by decide +kernel) rfl rfl (Nat.le_of_ble_eq_true rfl) dX9_join_55 (fun H locs hP _ hS => ?_)
  rw [suX_8_4] at hP
  obtain ⟨t_6, e_55, hf⟩ := fb_ls hf
  rw [← e_55] at hP
  refine lv_aload_n hx hb dX9_join_58 rfl (lv_at hl 0 rfl) ?_
  refine lv_dup hx hb dX9_join_59 rfl ?_
  refine va_get (D := D) (ci := 9) (v := .int (st_I t_6 9)) (C := RX9) (T := TX9) (N := 12) hx hb hts inX9 hown hK hP 8 (heX_8 ca a t_6) rfl 3 (by decide) (hts _ kw_279) (fun _ h9 => h9) rfl dX9_join_60 ?_
  refine lv_iconst (v := 1) hx hb dX9_join_63 (by decide) ?_
  refine lv_iadd hx hb dX9_join_64 ?_
  refine va_put (D := D) (ci := 9) (v := .int ((st_I t_6 9) + ((1 : Int32)))) (ty := .int) (C := RX9) (T := TX9) (N := 12) hx hb hts inX9 tyX9 tyX9_ok nmX9 hown hK hP (hD t_6) hS 8 (heX_8 ca a t_6) rfl 3 (by decide) (hts _ kw_279) (fun _ h9 => h9) rfl (by decide +kernel) rfl rfl (Nat.le_of_ble_eq_true rfl) dX9_join_65 (fun H locs hP _ hS => ?_)
  rw [suX_8_3] at hP
  obtain ⟨t_7, e_65, hf⟩ := fb_ls hf
  rw [← e_65] at hP
  refine lv_aload_n hx hb dX9_join_68 rfl (lv_at hl 0 rfl) ?_
  refine va_get (D := D) (ci := 9) (v := .int (st_I t_7 9)) (C := RX9) (T := TX9) (N := 12) hx hb hts inX9 hown hK hP 8 (heX_8 ca a t_7) rfl 3 (by decide) (hts _ kw_279) (fun _ h9 => h9) rfl dX9_join_69 ?_
  refine lv_iconst (v := 1) hx hb dX9_join_72 (by decide) ?_
  refine lv_isub hx hb dX9_join_73 ?_
  obtain ⟨e_74, e2_74⟩ := fb_e hf
  subst e_74; subst e2_74
  exact hr trivial _ _ _ _ hP hS dX9_join_74
set_option maxRecDepth 20000 in
theorem w_X_X9_join__8_9 {p : Program} {l : Launch} {e : Env} {s : State} {m : MethodId} {args : Array Value} {below : List Frame} {meth : Method} {c : Code} {A : Nat → Prop} {Q : State → Prop} {D : va_G} {ca : Nat → ClassId} {a : Nat → Nat} {u : fw_S} {r : Int32}  (C : CX (WX ca a) D (tyv ca) p s m args c A prog_11_method_3_code 5 RX9) (hr : True → RX (WX ca a) D p l e rm_X_X9_join__8 s m args below meth c A prog_11_method_3_code Q .ireturn [.int r] u) {t : fw_S}  {H : Heap} {locs : List Loc} {ls : Array Slot} (hf : b_X_X9_join__8_9  t  = some (r, u)) (hP : va_P D classes (WX ca a t) H) (hS : va_S A s.heap H locs) (hl : lv_has ls 5 []) : W p l e rm_X_X9_join__8 s m args below meth c H locs 0 0 Q (F0 m 9 ls []) := by
  obtain ⟨hx, hb, hml, hown, hts, hN, hK, hD, hA⟩ := id C
  have hf : (some ((-4 : Int32), t)) = some (r, u) := hf
  refine lv_bipush (v := (-4)) hx hb dX9_join_9 (by decide) ?_
  obtain ⟨e_11, e2_11⟩ := fb_e hf
  subst e_11; subst e2_11
  exact hr trivial _ _ _ _ hP hS dX9_join_11
set_option maxRecDepth 20000 in
theorem w_X_X9_join__8_0 {p : Program} {l : Launch} {e : Env} {s : State} {m : MethodId} {args : Array Value} {below : List Frame} {meth : Method} {c : Code} {A : Nat → Prop} {Q : State → Prop} {D : va_G} {ca : Nat → ClassId} {a : Nat → Nat} {u : fw_S} {r : Int32}  (C : CX (WX ca a) D (tyv ca) p s m args c A prog_11_method_3_code 5 RX9) (hr : True → RX (WX ca a) D p l e rm_X_X9_join__8 s m args below meth c A prog_11_method_3_code Q .ireturn [.int r] u) {t : fw_S} {x1 : Int32} {x2 : Int32} {y3 : Int64} {H : Heap} {locs : List Loc} {ls : Array Slot} (hf : b_X_X9_join__8_0  t x1 x2 y3 = some (r, u)) (hP : va_P D classes (WX ca a t) H) (hS : va_S A s.heap H locs) (hl : lv_has ls 5 [(0, .ref (a 8)), (1, .int x1), (2, .int x2), (3, .long y3)]) : W p l e rm_X_X9_join__8 s m args below meth c H locs 0 0 Q (F0 m 0 ls []) := by
  obtain ⟨hx, hb, hml, hown, hts, hN, hK, hD, hA⟩ := id C
  have hf : (if (st_I t 9) < ((8 : Int32)) then b_X_X9_join__8_12 t x1 x2 y3 else b_X_X9_join__8_9 t) = some (r, u) := hf
  refine lv_aload_n hx hb dX9_join_0 rfl (lv_at hl 0 rfl) ?_
  refine va_get (D := D) (ci := 9) (v := .int (st_I t 9)) (C := RX9) (T := TX9) (N := 12) hx hb hts inX9 hown hK hP 8 (heX_8 ca a t) rfl 3 (by decide) (hts _ kw_279) (fun _ h9 => h9) rfl dX9_join_1 ?_
  refine lv_bipush (v := 8) hx hb dX9_join_4 (by decide) ?_
  refine lv_icmp_lt (tgt := 12) hx hb dX9_join_6 (by decide) (fun h_6 => ?_) (fun h_6 => ?_)
  · have hf := fb_t h_6 hf
    exact w_X_X9_join__8_12 C hr hf hP hS (lv_sub hl [0, 1, 2, 3] rfl)
  · have hf := fb_f h_6 hf
    exact w_X_X9_join__8_9 C hr hf hP hS (lv_sub hl [] rfl)
set_option maxRecDepth 20000 in
theorem c_X_X9_join__8 {l : Launch} {D : va_G} {ca : Nat → ClassId} {a : Nat → Nat} {t : fw_S} {x1 : Int32} {x2 : Int32} {y3 : Int64} {u : fw_S} {r : Int32} (hf : f_X_X9_join__8 t x1 x2 y3 = some (r, u)) : MC (WX ca a) D (tyv ca) l yX9_join (.code yX9_join prog_11_method_3_code 5 (some .int) :: lw_gd) rm_X_X9_join__8 [.ref (a 8), .int x1, .int x2, .long y3] (some (.int r)) t u := by
  refine fw_met (okX ca a) (by decide +kernel) rfl rfl (Nat.le_of_ble_eq_true rfl) ?_
  intro p e s m args below meth c A Q ls C hr hk hP hS hl hQ
  exact w_X_X9_join__8_0 C (fun _ => fw_ri C hr hk hQ) hf hP hS (lv_sub hl [0, 1, 2, 3] rfl)
/-! ReactiveSheet.watch(IIJ)I ['x'] -/
abbrev rm_X_X10_watch__0 : Room := { frames := 2, cells := 0, slots := 0, locals := 44 }
def b_X_X10_watch__0_17  (t : fw_S)  : Option (Int32 × fw_S) := some ((-1 : Int32), t)
def b_X_X10_watch__0_19  (t : fw_S) (x1 : Int32) (x2 : Int32) (y3 : Int64) : Option (Int32 × fw_S) := fb_b (f_X_X9_join__8 t x1 x2 y3) fun v_2 t_1 => (some (v_2, t_1))
def b_X_X10_watch__0_12  (t : fw_S) (x1 : Int32) (x2 : Int32) (y3 : Int64) : Option (Int32 × fw_S) := if x2 ≤ ((3 : Int32)) then b_X_X10_watch__0_19 t x1 x2 y3 else b_X_X10_watch__0_17 t
def b_X_X10_watch__0_8  (t : fw_S) (x1 : Int32) (x2 : Int32) (y3 : Int64) : Option (Int32 × fw_S) := if x2 < 0 then b_X_X10_watch__0_17 t else b_X_X10_watch__0_12 t x1 x2 y3
def b_X_X10_watch__0_0  (t : fw_S) (x1 : Int32) (x2 : Int32) (y3 : Int64) : Option (Int32 × fw_S) := fb_b (f_X_X10_isCell t x1.toInt64) fun v_2 t_1 => (if v_2 = 0 then b_X_X10_watch__0_17 t_1 else b_X_X10_watch__0_8 t_1 x1 x2 y3)
def f_X_X10_watch__0 (t : fw_S) (x1 : Int32) (x2 : Int32) (y3 : Int64) : Option (Int32 × fw_S) := b_X_X10_watch__0_0 t x1 x2 y3
set_option maxRecDepth 20000 in
theorem w_X_X10_watch__0_17 {p : Program} {l : Launch} {e : Env} {s : State} {m : MethodId} {args : Array Value} {below : List Frame} {meth : Method} {c : Code} {A : Nat → Prop} {Q : State → Prop} {D : va_G} {ca : Nat → ClassId} {a : Nat → Nat} {u : fw_S} {r : Int32}  (C : CX (WX ca a) D (tyv ca) p s m args c A prog_1_method_24_code 5 RX10) (hr : True → RX (WX ca a) D p l e rm_X_X10_watch__0 s m args below meth c A prog_1_method_24_code Q .ireturn [.int r] u) {t : fw_S}  {H : Heap} {locs : List Loc} {ls : Array Slot} (hf : b_X_X10_watch__0_17  t  = some (r, u)) (hP : va_P D classes (WX ca a t) H) (hS : va_S A s.heap H locs) (hl : lv_has ls 5 []) : W p l e rm_X_X10_watch__0 s m args below meth c H locs 0 0 Q (F0 m 17 ls []) := by
  obtain ⟨hx, hb, hml, hown, hts, hN, hK, hD, hA⟩ := id C
  have hf : (some ((-1 : Int32), t)) = some (r, u) := hf
  refine lv_iconst (v := (-1)) hx hb dX10_watch_17 (by decide) ?_
  obtain ⟨e_18, e2_18⟩ := fb_e hf
  subst e_18; subst e2_18
  exact hr trivial _ _ _ _ hP hS dX10_watch_18
set_option maxRecDepth 20000 in
theorem w_X_X10_watch__0_19 {p : Program} {l : Launch} {e : Env} {s : State} {m : MethodId} {args : Array Value} {below : List Frame} {meth : Method} {c : Code} {A : Nat → Prop} {Q : State → Prop} {D : va_G} {ca : Nat → ClassId} {a : Nat → Nat} {u : fw_S} {r : Int32}  (C : CX (WX ca a) D (tyv ca) p s m args c A prog_1_method_24_code 5 RX10) (hr : True → RX (WX ca a) D p l e rm_X_X10_watch__0 s m args below meth c A prog_1_method_24_code Q .ireturn [.int r] u) {t : fw_S} {x1 : Int32} {x2 : Int32} {y3 : Int64} {H : Heap} {locs : List Loc} {ls : Array Slot} (hf : b_X_X10_watch__0_19  t x1 x2 y3 = some (r, u)) (hP : va_P D classes (WX ca a t) H) (hS : va_S A s.heap H locs) (hl : lv_has ls 5 [(0, .ref (a 0)), (1, .int x1), (2, .int x2), (3, .long y3)]) : W p l e rm_X_X10_watch__0 s m args below meth c H locs 0 0 Q (F0 m 19 ls []) := by
  obtain ⟨hx, hb, hml, hown, hts, hN, hK, hD, hA⟩ := id C
  have hf : (fb_b (f_X_X9_join__8 t x1 x2 y3) fun v_2 t_1 => (some (v_2, t_1))) = some (r, u) := hf
  refine lv_aload_n hx hb dX10_watch_19 rfl (lv_at hl 0 rfl) ?_
  refine va_get (D := D) (ci := 10) (v := .ref (a 8)) (C := RX10) (T := TX10) (N := 13) hx hb hts inX10 hown hK hP 0 (heX_0 ca a t) rfl 5 (by decide) (hts _ kw_359) (fun _ h9 => h9) rfl dX10_watch_20 ?_
  refine lv_iload_n hx hb dX10_watch_23 rfl (lv_at hl 1 rfl) ?_
  refine lv_iload_n hx hb dX10_watch_24 rfl (lv_at hl 2 rfl) ?_
  refine lv_lload_n hx hb dX10_watch_25 rfl (lv_at hl 3 rfl) ?_
  obtain ⟨v_2, t_1, g_26, hf⟩ := fb_bs hf
  refine fw_V1 (As := [.int x1, .int x2, .long y3]) (rest := []) (n := 3) (q0 := 8) C (c_X_X9_join__8 (l := l) (D := D) (ca := ca) (a := a) g_26) kw_1029 kw_1030 kw_98 kw_1032 kw_1031 hP hS hl (heX_8 ca a t) rfl rfl rfl (by decide) (by decide +kernel) ⟨Nat.le_of_ble_eq_true rfl, Nat.le_of_ble_eq_true rfl⟩ rfl rfl (Nat.le_of_ble_eq_true rfl) dX10_watch_26 (fun H locs hP hS => ?_)
  refine W.eq (g2 := F0 m 29 ls [.int v_2]) rfl ?_
  obtain ⟨e_29, e2_29⟩ := fb_e hf
  subst e_29; subst e2_29
  exact hr trivial _ _ _ _ hP hS dX10_watch_29
set_option maxRecDepth 20000 in
theorem w_X_X10_watch__0_12 {p : Program} {l : Launch} {e : Env} {s : State} {m : MethodId} {args : Array Value} {below : List Frame} {meth : Method} {c : Code} {A : Nat → Prop} {Q : State → Prop} {D : va_G} {ca : Nat → ClassId} {a : Nat → Nat} {u : fw_S} {r : Int32}  (C : CX (WX ca a) D (tyv ca) p s m args c A prog_1_method_24_code 5 RX10) (hr : True → RX (WX ca a) D p l e rm_X_X10_watch__0 s m args below meth c A prog_1_method_24_code Q .ireturn [.int r] u) {t : fw_S} {x1 : Int32} {x2 : Int32} {y3 : Int64} {H : Heap} {locs : List Loc} {ls : Array Slot} (hf : b_X_X10_watch__0_12  t x1 x2 y3 = some (r, u)) (hP : va_P D classes (WX ca a t) H) (hS : va_S A s.heap H locs) (hl : lv_has ls 5 [(0, .ref (a 0)), (1, .int x1), (2, .int x2), (3, .long y3)]) : W p l e rm_X_X10_watch__0 s m args below meth c H locs 0 0 Q (F0 m 12 ls []) := by
  obtain ⟨hx, hb, hml, hown, hts, hN, hK, hD, hA⟩ := id C
  have hf : (if x2 ≤ ((3 : Int32)) then b_X_X10_watch__0_19 t x1 x2 y3 else b_X_X10_watch__0_17 t) = some (r, u) := hf
  refine lv_iload_n hx hb dX10_watch_12 rfl (lv_at hl 2 rfl) ?_
  refine lv_iconst (v := 3) hx hb dX10_watch_13 (by decide) ?_
  refine lv_icmp_le (tgt := 19) hx hb dX10_watch_14 (by decide) (fun h_14 => ?_) (fun h_14 => ?_)
  · have hf := fb_t h_14 hf
    exact w_X_X10_watch__0_19 C hr hf hP hS (lv_sub hl [0, 1, 2, 3] rfl)
  · have hf := fb_f h_14 hf
    exact w_X_X10_watch__0_17 C hr hf hP hS (lv_sub hl [] rfl)
set_option maxRecDepth 20000 in
theorem w_X_X10_watch__0_8 {p : Program} {l : Launch} {e : Env} {s : State} {m : MethodId} {args : Array Value} {below : List Frame} {meth : Method} {c : Code} {A : Nat → Prop} {Q : State → Prop} {D : va_G} {ca : Nat → ClassId} {a : Nat → Nat} {u : fw_S} {r : Int32}  (C : CX (WX ca a) D (tyv ca) p s m args c A prog_1_method_24_code 5 RX10) (hr : True → RX (WX ca a) D p l e rm_X_X10_watch__0 s m args below meth c A prog_1_method_24_code Q .ireturn [.int r] u) {t : fw_S} {x1 : Int32} {x2 : Int32} {y3 : Int64} {H : Heap} {locs : List Loc} {ls : Array Slot} (hf : b_X_X10_watch__0_8  t x1 x2 y3 = some (r, u)) (hP : va_P D classes (WX ca a t) H) (hS : va_S A s.heap H locs) (hl : lv_has ls 5 [(0, .ref (a 0)), (1, .int x1), (2, .int x2), (3, .long y3)]) : W p l e rm_X_X10_watch__0 s m args below meth c H locs 0 0 Q (F0 m 8 ls []) := by
  obtain ⟨hx, hb, hml, hown, hts, hN, hK, hD, hA⟩ := id C
  have hf : (if x2 < 0 then b_X_X10_watch__0_17 t else b_X_X10_watch__0_12 t x1 x2 y3) = some (r, u) := hf
  refine lv_iload_n hx hb dX10_watch_8 rfl (lv_at hl 2 rfl) ?_
  refine lv_if_lt (tgt := 17) hx hb dX10_watch_9 (by decide) (fun h_9 => ?_) (fun h_9 => ?_)
  · have hf := fb_t h_9 hf
    exact w_X_X10_watch__0_17 C hr hf hP hS (lv_sub hl [] rfl)
  · have hf := fb_f h_9 hf
    exact w_X_X10_watch__0_12 C hr hf hP hS (lv_sub hl [0, 1, 2, 3] rfl)
set_option maxRecDepth 20000 in
theorem w_X_X10_watch__0_0 {p : Program} {l : Launch} {e : Env} {s : State} {m : MethodId} {args : Array Value} {below : List Frame} {meth : Method} {c : Code} {A : Nat → Prop} {Q : State → Prop} {D : va_G} {ca : Nat → ClassId} {a : Nat → Nat} {u : fw_S} {r : Int32}  (C : CX (WX ca a) D (tyv ca) p s m args c A prog_1_method_24_code 5 RX10) (hr : True → RX (WX ca a) D p l e rm_X_X10_watch__0 s m args below meth c A prog_1_method_24_code Q .ireturn [.int r] u) {t : fw_S} {x1 : Int32} {x2 : Int32} {y3 : Int64} {H : Heap} {locs : List Loc} {ls : Array Slot} (hf : b_X_X10_watch__0_0  t x1 x2 y3 = some (r, u)) (hP : va_P D classes (WX ca a t) H) (hS : va_S A s.heap H locs) (hl : lv_has ls 5 [(0, .ref (a 0)), (1, .int x1), (2, .int x2), (3, .long y3)]) : W p l e rm_X_X10_watch__0 s m args below meth c H locs 0 0 Q (F0 m 0 ls []) := by
  obtain ⟨hx, hb, hml, hown, hts, hN, hK, hD, hA⟩ := id C
  have hf : (fb_b (f_X_X10_isCell t x1.toInt64) fun v_2 t_1 => (if v_2 = 0 then b_X_X10_watch__0_17 t_1 else b_X_X10_watch__0_8 t_1 x1 x2 y3)) = some (r, u) := hf
  refine lv_iload_n hx hb dX10_watch_0 rfl (lv_at hl 1 rfl) ?_
  refine lv_i2l hx hb dX10_watch_1 rfl ?_
  obtain ⟨v_2, t_1, g_2, hf⟩ := fb_bs hf
  refine fw_S1 (As := [.long x1.toInt64]) (rest := []) (n := 1) C (c_X_X10_isCell (l := l) (D := D) (ca := ca) (a := a) g_2) kw_398 kw_399 kw_92 kw_400 hP hS hl rfl rfl (by decide) (by decide +kernel) ⟨Nat.le_of_ble_eq_true rfl, Nat.le_of_ble_eq_true rfl⟩ rfl rfl (Nat.le_of_ble_eq_true rfl) dX10_watch_2 (fun H locs hP hS => ?_)
  refine W.eq (g2 := F0 m 5 ls [.int v_2]) rfl ?_
  refine lv_if_eq (tgt := 17) hx hb dX10_watch_5 (by decide) (fun h_5 => ?_) (fun h_5 => ?_)
  · have hf := fb_t h_5 hf
    exact w_X_X10_watch__0_17 C hr hf hP hS (lv_sub hl [] rfl)
  · have hf := fb_f h_5 hf
    exact w_X_X10_watch__0_8 C hr hf hP hS (lv_sub hl [0, 1, 2, 3] rfl)
set_option maxRecDepth 20000 in
theorem c_X_X10_watch__0 {l : Launch} {D : va_G} {ca : Nat → ClassId} {a : Nat → Nat} {t : fw_S} {x1 : Int32} {x2 : Int32} {y3 : Int64} {u : fw_S} {r : Int32} (hf : f_X_X10_watch__0 t x1 x2 y3 = some (r, u)) : MC (WX ca a) D (tyv ca) l yX10_watch (.code yX10_watch prog_1_method_24_code 5 (some .int) :: lw_gd) rm_X_X10_watch__0 [.ref (a 0), .int x1, .int x2, .long y3] (some (.int r)) t u := by
  refine fw_met (okX ca a) (by decide +kernel) rfl rfl (Nat.le_of_ble_eq_true rfl) ?_
  intro p e s m args below meth c A Q ls C hr hk hP hS hl hQ
  exact w_X_X10_watch__0_0 C (fun _ => fw_ri C hr hk hQ) hf hP hS (lv_sub hl [0, 1, 2, 3] rfl)
/-! ReactiveSheet.Watching.leave(I)I ['x.watching'] -/
abbrev rm_X_X9_leave__8 : Room := { frames := 1, cells := 0, slots := 0, locals := 22 }
def b_X_X9_leave__8_12  (t : fw_S)  : Option (Int32 × fw_S) := some ((-1 : Int32), t)
def b_X_X9_leave__8_30  (t : fw_S) (x1 : Int32) (z0 : Int32) : Option (Int32 × fw_S) := fb_b (f_X_X10_bit t x1) fun v_2 t_1 => (fb_l (up_J t_1 10 ((st_J t 10) &&& (v_2 ^^^ ((-1 : Int64))))) fun t_3 => (some (z0, t_3)))
def b_X_X9_leave__8_29  (t : fw_S) (x1 : Int32) : Option (Int32 × fw_S) := b_X_X9_leave__8_30 t x1 ((0 : Int32))
def b_X_X9_leave__8_25  (t : fw_S) (x1 : Int32) : Option (Int32 × fw_S) := b_X_X9_leave__8_30 t x1 ((1 : Int32))
def b_X_X9_leave__8_14  (t : fw_S) (x1 : Int32) : Option (Int32 × fw_S) := fb_b (f_X_X10_has t (st_J t 10) x1) fun v_2 t_1 => (if v_2 = 0 then b_X_X9_leave__8_29 t_1 x1 else b_X_X9_leave__8_25 t_1 x1)
def b_X_X9_leave__8_4  (t : fw_S) (x1 : Int32) : Option (Int32 × fw_S) := if x1 < (st_I t 9) then b_X_X9_leave__8_14 t x1 else b_X_X9_leave__8_12 t
def b_X_X9_leave__8_0  (t : fw_S) (x1 : Int32) : Option (Int32 × fw_S) := if x1 < 0 then b_X_X9_leave__8_12 t else b_X_X9_leave__8_4 t x1
def f_X_X9_leave__8 (t : fw_S) (x1 : Int32) : Option (Int32 × fw_S) := b_X_X9_leave__8_0 t x1
set_option maxRecDepth 20000 in
theorem w_X_X9_leave__8_12 {p : Program} {l : Launch} {e : Env} {s : State} {m : MethodId} {args : Array Value} {below : List Frame} {meth : Method} {c : Code} {A : Nat → Prop} {Q : State → Prop} {D : va_G} {ca : Nat → ClassId} {a : Nat → Nat} {u : fw_S} {r : Int32}  (C : CX (WX ca a) D (tyv ca) p s m args c A prog_11_method_4_code 3 RX9) (hr : True → RX (WX ca a) D p l e rm_X_X9_leave__8 s m args below meth c A prog_11_method_4_code Q .ireturn [.int r] u) {t : fw_S}  {H : Heap} {locs : List Loc} {ls : Array Slot} (hf : b_X_X9_leave__8_12  t  = some (r, u)) (hP : va_P D classes (WX ca a t) H) (hS : va_S A s.heap H locs) (hl : lv_has ls 3 []) : W p l e rm_X_X9_leave__8 s m args below meth c H locs 0 0 Q (F0 m 12 ls []) := by
  obtain ⟨hx, hb, hml, hown, hts, hN, hK, hD, hA⟩ := id C
  have hf : (some ((-1 : Int32), t)) = some (r, u) := hf
  refine lv_iconst (v := (-1)) hx hb dX9_leave_12 (by decide) ?_
  obtain ⟨e_13, e2_13⟩ := fb_e hf
  subst e_13; subst e2_13
  exact hr trivial _ _ _ _ hP hS dX9_leave_13
set_option maxRecDepth 20000 in
theorem w_X_X9_leave__8_30 {p : Program} {l : Launch} {e : Env} {s : State} {m : MethodId} {args : Array Value} {below : List Frame} {meth : Method} {c : Code} {A : Nat → Prop} {Q : State → Prop} {D : va_G} {ca : Nat → ClassId} {a : Nat → Nat} {u : fw_S} {r : Int32}  (C : CX (WX ca a) D (tyv ca) p s m args c A prog_11_method_4_code 3 RX9) (hr : True → RX (WX ca a) D p l e rm_X_X9_leave__8 s m args below meth c A prog_11_method_4_code Q .ireturn [.int r] u) {t : fw_S} {x1 : Int32} {z0 : Int32} {H : Heap} {locs : List Loc} {ls : Array Slot} (hf : b_X_X9_leave__8_30  t x1 z0 = some (r, u)) (hP : va_P D classes (WX ca a t) H) (hS : va_S A s.heap H locs) (hl : lv_has ls 3 [(0, .ref (a 8)), (1, .int x1)]) : W p l e rm_X_X9_leave__8 s m args below meth c H locs 0 0 Q (F0 m 30 ls [.int z0]) := by
  obtain ⟨hx, hb, hml, hown, hts, hN, hK, hD, hA⟩ := id C
  have hf : (fb_b (f_X_X10_bit t x1) fun v_2 t_1 => (fb_l (up_J t_1 10 ((st_J t 10) &&& (v_2 ^^^ ((-1 : Int64))))) fun t_3 => (some (z0, t_3)))) = some (r, u) := hf
  refine lv_istore_n (lv' := [(2, .int z0), (0, .ref (a 8)), (1, .int x1)]) hx hb dX9_leave_30 rfl hl (by decide) rfl (fun ls hl => ?_)
  refine lv_aload_n hx hb dX9_leave_31 rfl (lv_at hl 1 rfl) ?_
  refine lv_dup hx hb dX9_leave_32 rfl ?_
  refine va_get (D := D) (ci := 9) (v := .long (st_J t 10)) (C := RX9) (T := TX9) (N := 12) hx hb hts inX9 hown hK hP 8 (heX_8 ca a t) rfl 4 (by decide) (hts _ kw_280) (fun _ h9 => h9) rfl dX9_leave_33 ?_
  refine lv_iload_n hx hb dX9_leave_36 rfl (lv_at hl 2 rfl) ?_
  obtain ⟨v_2, t_1, g_37, hf⟩ := fb_bs hf
  refine fw_S2 (As := [.int x1]) (rest := [.long (st_J t 10), .ref (a 8)]) (n := 1) C (c_X_X10_bit (l := l) (D := D) (ca := ca) (a := a) g_37) kw_1033 kw_408 kw_92 kw_409 hP hS hl rfl rfl (by decide) (by decide +kernel) ⟨Nat.le_of_ble_eq_true rfl, Nat.le_of_ble_eq_true rfl⟩ rfl rfl (Nat.le_of_ble_eq_true rfl) dX9_leave_37 (fun H locs hP hS => ?_)
  refine W.eq (g2 := F0 m 40 ls [.long v_2, .long (st_J t 10), .ref (a 8)]) rfl ?_
  refine lv_ldc2 (v := (-1)) hx hb hown (hts _ kw_1042) dX9_leave_40 ?_
  refine lv_lxor hx hb dX9_leave_43 ?_
  refine lv_land hx hb dX9_leave_44 ?_
  refine va_put (D := D) (ci := 9) (v := .long ((st_J t 10) &&& (v_2 ^^^ ((-1 : Int64))))) (ty := .long) (C := RX9) (T := TX9) (N := 12) hx hb hts inX9 tyX9 tyX9_ok nmX9 hown hK hP (hD t_1) hS 8 (heX_8 ca a t_1) rfl 4 (by decide) (hts _ kw_280) (fun _ h9 => h9) rfl (by decide +kernel) rfl rfl (Nat.le_of_ble_eq_true rfl) dX9_leave_45 (fun H locs hP _ hS => ?_)
  rw [suX_8_4] at hP
  obtain ⟨t_3, e_45, hf⟩ := fb_ls hf
  rw [← e_45] at hP
  refine lv_iload_n hx hb dX9_leave_48 rfl (lv_at hl 0 rfl) ?_
  obtain ⟨e_49, e2_49⟩ := fb_e hf
  subst e_49; subst e2_49
  exact hr trivial _ _ _ _ hP hS dX9_leave_49
set_option maxRecDepth 20000 in
theorem w_X_X9_leave__8_29 {p : Program} {l : Launch} {e : Env} {s : State} {m : MethodId} {args : Array Value} {below : List Frame} {meth : Method} {c : Code} {A : Nat → Prop} {Q : State → Prop} {D : va_G} {ca : Nat → ClassId} {a : Nat → Nat} {u : fw_S} {r : Int32}  (C : CX (WX ca a) D (tyv ca) p s m args c A prog_11_method_4_code 3 RX9) (hr : True → RX (WX ca a) D p l e rm_X_X9_leave__8 s m args below meth c A prog_11_method_4_code Q .ireturn [.int r] u) {t : fw_S} {x1 : Int32} {H : Heap} {locs : List Loc} {ls : Array Slot} (hf : b_X_X9_leave__8_29  t x1 = some (r, u)) (hP : va_P D classes (WX ca a t) H) (hS : va_S A s.heap H locs) (hl : lv_has ls 3 [(0, .ref (a 8)), (1, .int x1)]) : W p l e rm_X_X9_leave__8 s m args below meth c H locs 0 0 Q (F0 m 29 ls []) := by
  obtain ⟨hx, hb, hml, hown, hts, hN, hK, hD, hA⟩ := id C
  have hf : (b_X_X9_leave__8_30 t x1 ((0 : Int32))) = some (r, u) := hf
  refine lv_iconst (v := 0) hx hb dX9_leave_29 (by decide) ?_
  exact w_X_X9_leave__8_30 C hr hf hP hS (lv_sub hl [0, 1] rfl)
set_option maxRecDepth 20000 in
theorem w_X_X9_leave__8_25 {p : Program} {l : Launch} {e : Env} {s : State} {m : MethodId} {args : Array Value} {below : List Frame} {meth : Method} {c : Code} {A : Nat → Prop} {Q : State → Prop} {D : va_G} {ca : Nat → ClassId} {a : Nat → Nat} {u : fw_S} {r : Int32}  (C : CX (WX ca a) D (tyv ca) p s m args c A prog_11_method_4_code 3 RX9) (hr : True → RX (WX ca a) D p l e rm_X_X9_leave__8 s m args below meth c A prog_11_method_4_code Q .ireturn [.int r] u) {t : fw_S} {x1 : Int32} {H : Heap} {locs : List Loc} {ls : Array Slot} (hf : b_X_X9_leave__8_25  t x1 = some (r, u)) (hP : va_P D classes (WX ca a t) H) (hS : va_S A s.heap H locs) (hl : lv_has ls 3 [(0, .ref (a 8)), (1, .int x1)]) : W p l e rm_X_X9_leave__8 s m args below meth c H locs 0 0 Q (F0 m 25 ls []) := by
  obtain ⟨hx, hb, hml, hown, hts, hN, hK, hD, hA⟩ := id C
  have hf : (b_X_X9_leave__8_30 t x1 ((1 : Int32))) = some (r, u) := hf
  refine lv_iconst (v := 1) hx hb dX9_leave_25 (by decide) ?_
  refine lv_goto (tgt := 30) hx hb dX9_leave_26 (by decide) ?_
  exact w_X_X9_leave__8_30 C hr hf hP hS (lv_sub hl [0, 1] rfl)
set_option maxRecDepth 20000 in
theorem w_X_X9_leave__8_14 {p : Program} {l : Launch} {e : Env} {s : State} {m : MethodId} {args : Array Value} {below : List Frame} {meth : Method} {c : Code} {A : Nat → Prop} {Q : State → Prop} {D : va_G} {ca : Nat → ClassId} {a : Nat → Nat} {u : fw_S} {r : Int32}  (C : CX (WX ca a) D (tyv ca) p s m args c A prog_11_method_4_code 3 RX9) (hr : True → RX (WX ca a) D p l e rm_X_X9_leave__8 s m args below meth c A prog_11_method_4_code Q .ireturn [.int r] u) {t : fw_S} {x1 : Int32} {H : Heap} {locs : List Loc} {ls : Array Slot} (hf : b_X_X9_leave__8_14  t x1 = some (r, u)) (hP : va_P D classes (WX ca a t) H) (hS : va_S A s.heap H locs) (hl : lv_has ls 3 [(0, .ref (a 8)), (1, .int x1)]) : W p l e rm_X_X9_leave__8 s m args below meth c H locs 0 0 Q (F0 m 14 ls []) := by
  obtain ⟨hx, hb, hml, hown, hts, hN, hK, hD, hA⟩ := id C
  have hf : (fb_b (f_X_X10_has t (st_J t 10) x1) fun v_2 t_1 => (if v_2 = 0 then b_X_X9_leave__8_29 t_1 x1 else b_X_X9_leave__8_25 t_1 x1)) = some (r, u) := hf
  refine lv_aload_n hx hb dX9_leave_14 rfl (lv_at hl 0 rfl) ?_
  refine va_get (D := D) (ci := 9) (v := .long (st_J t 10)) (C := RX9) (T := TX9) (N := 12) hx hb hts inX9 hown hK hP 8 (heX_8 ca a t) rfl 4 (by decide) (hts _ kw_280) (fun _ h9 => h9) rfl dX9_leave_15 ?_
  refine lv_iload_n hx hb dX9_leave_18 rfl (lv_at hl 1 rfl) ?_
  obtain ⟨v_2, t_1, g_19, hf⟩ := fb_bs hf
  refine fw_S2 (As := [.long (st_J t 10), .int x1]) (rest := []) (n := 2) C (c_X_X10_has (l := l) (D := D) (ca := ca) (a := a) g_19) kw_634 kw_442 kw_92 kw_443 hP hS hl rfl rfl (by decide) (by decide +kernel) ⟨Nat.le_of_ble_eq_true rfl, Nat.le_of_ble_eq_true rfl⟩ rfl rfl (Nat.le_of_ble_eq_true rfl) dX9_leave_19 (fun H locs hP hS => ?_)
  refine W.eq (g2 := F0 m 22 ls [.int v_2]) rfl ?_
  refine lv_if_eq (tgt := 29) hx hb dX9_leave_22 (by decide) (fun h_22 => ?_) (fun h_22 => ?_)
  · have hf := fb_t h_22 hf
    exact w_X_X9_leave__8_29 C hr hf hP hS (lv_sub hl [0, 1] rfl)
  · have hf := fb_f h_22 hf
    exact w_X_X9_leave__8_25 C hr hf hP hS (lv_sub hl [0, 1] rfl)
set_option maxRecDepth 20000 in
theorem w_X_X9_leave__8_4 {p : Program} {l : Launch} {e : Env} {s : State} {m : MethodId} {args : Array Value} {below : List Frame} {meth : Method} {c : Code} {A : Nat → Prop} {Q : State → Prop} {D : va_G} {ca : Nat → ClassId} {a : Nat → Nat} {u : fw_S} {r : Int32}  (C : CX (WX ca a) D (tyv ca) p s m args c A prog_11_method_4_code 3 RX9) (hr : True → RX (WX ca a) D p l e rm_X_X9_leave__8 s m args below meth c A prog_11_method_4_code Q .ireturn [.int r] u) {t : fw_S} {x1 : Int32} {H : Heap} {locs : List Loc} {ls : Array Slot} (hf : b_X_X9_leave__8_4  t x1 = some (r, u)) (hP : va_P D classes (WX ca a t) H) (hS : va_S A s.heap H locs) (hl : lv_has ls 3 [(0, .ref (a 8)), (1, .int x1)]) : W p l e rm_X_X9_leave__8 s m args below meth c H locs 0 0 Q (F0 m 4 ls []) := by
  obtain ⟨hx, hb, hml, hown, hts, hN, hK, hD, hA⟩ := id C
  have hf : (if x1 < (st_I t 9) then b_X_X9_leave__8_14 t x1 else b_X_X9_leave__8_12 t) = some (r, u) := hf
  refine lv_iload_n hx hb dX9_leave_4 rfl (lv_at hl 1 rfl) ?_
  refine lv_aload_n hx hb dX9_leave_5 rfl (lv_at hl 0 rfl) ?_
  refine va_get (D := D) (ci := 9) (v := .int (st_I t 9)) (C := RX9) (T := TX9) (N := 12) hx hb hts inX9 hown hK hP 8 (heX_8 ca a t) rfl 3 (by decide) (hts _ kw_279) (fun _ h9 => h9) rfl dX9_leave_6 ?_
  refine lv_icmp_lt (tgt := 14) hx hb dX9_leave_9 (by decide) (fun h_9 => ?_) (fun h_9 => ?_)
  · have hf := fb_t h_9 hf
    exact w_X_X9_leave__8_14 C hr hf hP hS (lv_sub hl [0, 1] rfl)
  · have hf := fb_f h_9 hf
    exact w_X_X9_leave__8_12 C hr hf hP hS (lv_sub hl [] rfl)
set_option maxRecDepth 20000 in
theorem w_X_X9_leave__8_0 {p : Program} {l : Launch} {e : Env} {s : State} {m : MethodId} {args : Array Value} {below : List Frame} {meth : Method} {c : Code} {A : Nat → Prop} {Q : State → Prop} {D : va_G} {ca : Nat → ClassId} {a : Nat → Nat} {u : fw_S} {r : Int32}  (C : CX (WX ca a) D (tyv ca) p s m args c A prog_11_method_4_code 3 RX9) (hr : True → RX (WX ca a) D p l e rm_X_X9_leave__8 s m args below meth c A prog_11_method_4_code Q .ireturn [.int r] u) {t : fw_S} {x1 : Int32} {H : Heap} {locs : List Loc} {ls : Array Slot} (hf : b_X_X9_leave__8_0  t x1 = some (r, u)) (hP : va_P D classes (WX ca a t) H) (hS : va_S A s.heap H locs) (hl : lv_has ls 3 [(0, .ref (a 8)), (1, .int x1)]) : W p l e rm_X_X9_leave__8 s m args below meth c H locs 0 0 Q (F0 m 0 ls []) := by
  obtain ⟨hx, hb, hml, hown, hts, hN, hK, hD, hA⟩ := id C
  have hf : (if x1 < 0 then b_X_X9_leave__8_12 t else b_X_X9_leave__8_4 t x1) = some (r, u) := hf
  refine lv_iload_n hx hb dX9_leave_0 rfl (lv_at hl 1 rfl) ?_
  refine lv_if_lt (tgt := 12) hx hb dX9_leave_1 (by decide) (fun h_1 => ?_) (fun h_1 => ?_)
  · have hf := fb_t h_1 hf
    exact w_X_X9_leave__8_12 C hr hf hP hS (lv_sub hl [] rfl)
  · have hf := fb_f h_1 hf
    exact w_X_X9_leave__8_4 C hr hf hP hS (lv_sub hl [0, 1] rfl)
set_option maxRecDepth 20000 in
theorem c_X_X9_leave__8 {l : Launch} {D : va_G} {ca : Nat → ClassId} {a : Nat → Nat} {t : fw_S} {x1 : Int32} {u : fw_S} {r : Int32} (hf : f_X_X9_leave__8 t x1 = some (r, u)) : MC (WX ca a) D (tyv ca) l yX9_leave (.code yX9_leave prog_11_method_4_code 3 (some .int) :: lw_gd) rm_X_X9_leave__8 [.ref (a 8), .int x1] (some (.int r)) t u := by
  refine fw_met (okX ca a) (by decide +kernel) rfl rfl (Nat.le_of_ble_eq_true rfl) ?_
  intro p e s m args below meth c A Q ls C hr hk hP hS hl hQ
  exact w_X_X9_leave__8_0 C (fun _ => fw_ri C hr hk hQ) hf hP hS (lv_sub hl [0, 1] rfl)
/-! ReactiveSheet.quit(I)I ['x'] -/
abbrev rm_X_X10_quit__0 : Room := { frames := 2, cells := 0, slots := 0, locals := 44 }
def b_X_X10_quit__0_0  (t : fw_S) (x1 : Int32) : Option (Int32 × fw_S) := fb_b (f_X_X9_leave__8 t x1) fun v_2 t_1 => (some (v_2, t_1))
def f_X_X10_quit__0 (t : fw_S) (x1 : Int32) : Option (Int32 × fw_S) := b_X_X10_quit__0_0 t x1
set_option maxRecDepth 20000 in
theorem w_X_X10_quit__0_0 {p : Program} {l : Launch} {e : Env} {s : State} {m : MethodId} {args : Array Value} {below : List Frame} {meth : Method} {c : Code} {A : Nat → Prop} {Q : State → Prop} {D : va_G} {ca : Nat → ClassId} {a : Nat → Nat} {u : fw_S} {r : Int32}  (C : CX (WX ca a) D (tyv ca) p s m args c A prog_1_method_25_code 2 RX10) (hr : True → RX (WX ca a) D p l e rm_X_X10_quit__0 s m args below meth c A prog_1_method_25_code Q .ireturn [.int r] u) {t : fw_S} {x1 : Int32} {H : Heap} {locs : List Loc} {ls : Array Slot} (hf : b_X_X10_quit__0_0  t x1 = some (r, u)) (hP : va_P D classes (WX ca a t) H) (hS : va_S A s.heap H locs) (hl : lv_has ls 2 [(0, .ref (a 0)), (1, .int x1)]) : W p l e rm_X_X10_quit__0 s m args below meth c H locs 0 0 Q (F0 m 0 ls []) := by
  obtain ⟨hx, hb, hml, hown, hts, hN, hK, hD, hA⟩ := id C
  have hf : (fb_b (f_X_X9_leave__8 t x1) fun v_2 t_1 => (some (v_2, t_1))) = some (r, u) := hf
  refine lv_aload_n hx hb dX10_quit_0 rfl (lv_at hl 0 rfl) ?_
  refine va_get (D := D) (ci := 10) (v := .ref (a 8)) (C := RX10) (T := TX10) (N := 13) hx hb hts inX10 hown hK hP 0 (heX_0 ca a t) rfl 5 (by decide) (hts _ kw_359) (fun _ h9 => h9) rfl dX10_quit_1 ?_
  refine lv_iload_n hx hb dX10_quit_4 rfl (lv_at hl 1 rfl) ?_
  obtain ⟨v_2, t_1, g_5, hf⟩ := fb_bs hf
  refine fw_V1 (As := [.int x1]) (rest := []) (n := 1) (q0 := 8) C (c_X_X9_leave__8 (l := l) (D := D) (ca := ca) (a := a) g_5) kw_1038 kw_1039 kw_98 kw_1041 kw_1040 hP hS hl (heX_8 ca a t) rfl rfl rfl (by decide) (by decide +kernel) ⟨Nat.le_of_ble_eq_true rfl, Nat.le_of_ble_eq_true rfl⟩ rfl rfl (Nat.le_of_ble_eq_true rfl) dX10_quit_5 (fun H locs hP hS => ?_)
  refine W.eq (g2 := F0 m 8 ls [.int v_2]) rfl ?_
  obtain ⟨e_8, e2_8⟩ := fb_e hf
  subst e_8; subst e2_8
  exact hr trivial _ _ _ _ hP hS dX10_quit_8
set_option maxRecDepth 20000 in
theorem c_X_X10_quit__0 {l : Launch} {D : va_G} {ca : Nat → ClassId} {a : Nat → Nat} {t : fw_S} {x1 : Int32} {u : fw_S} {r : Int32} (hf : f_X_X10_quit__0 t x1 = some (r, u)) : MC (WX ca a) D (tyv ca) l yX10_quit (.code yX10_quit prog_1_method_25_code 2 (some .int) :: lw_gd) rm_X_X10_quit__0 [.ref (a 0), .int x1] (some (.int r)) t u := by
  refine fw_met (okX ca a) (by decide +kernel) rfl rfl (Nat.le_of_ble_eq_true rfl) ?_
  intro p e s m args below meth c A Q ls C hr hk hP hS hl hQ
  exact w_X_X10_quit__0_0 C (fun _ => fw_ri C hr hk hQ) hf hP hS (lv_sub hl [0, 1] rfl)
/-! ReactiveSheet.Watching.placeOf(I)I ['x.watching'] -/
abbrev rm_X_X9_placeOf__8 : Room := { frames := 1, cells := 0, slots := 0, locals := 22 }
def b_X_X9_placeOf__8_27  (t : fw_S) (z0 : Int32) : Option (Int32 × fw_S) := some (z0, t)
def b_X_X9_placeOf__8_26  (t : fw_S)  : Option (Int32 × fw_S) := b_X_X9_placeOf__8_27 t ((-1 : Int32))
def b_X_X9_placeOf__8_12  (t : fw_S) (x1 : Int32) : Option (Int32 × fw_S) := fb_b (f_X_J9_floorMod_7cf53 t ((st_I t 10) + x1) ((60 : Int32))) fun v_2 t_1 => (b_X_X9_placeOf__8_27 t_1 v_2)
def b_X_X9_placeOf__8_4  (t : fw_S) (x1 : Int32) : Option (Int32 × fw_S) := if (st_I t 11) ≤ x1 then b_X_X9_placeOf__8_26 t else b_X_X9_placeOf__8_12 t x1
def b_X_X9_placeOf__8_0  (t : fw_S) (x1 : Int32) : Option (Int32 × fw_S) := if x1 < 0 then b_X_X9_placeOf__8_26 t else b_X_X9_placeOf__8_4 t x1
def f_X_X9_placeOf__8 (t : fw_S) (x1 : Int32) : Option (Int32 × fw_S) := b_X_X9_placeOf__8_0 t x1
set_option maxRecDepth 20000 in
theorem w_X_X9_placeOf__8_27 {p : Program} {l : Launch} {e : Env} {s : State} {m : MethodId} {args : Array Value} {below : List Frame} {meth : Method} {c : Code} {A : Nat → Prop} {Q : State → Prop} {D : va_G} {ca : Nat → ClassId} {a : Nat → Nat} {u : fw_S} {r : Int32}  (C : CX (WX ca a) D (tyv ca) p s m args c A prog_11_method_10_code 2 RX9) (hr : True → RX (WX ca a) D p l e rm_X_X9_placeOf__8 s m args below meth c A prog_11_method_10_code Q .ireturn [.int r] u) {t : fw_S} {z0 : Int32} {H : Heap} {locs : List Loc} {ls : Array Slot} (hf : b_X_X9_placeOf__8_27  t z0 = some (r, u)) (hP : va_P D classes (WX ca a t) H) (hS : va_S A s.heap H locs) (hl : lv_has ls 2 []) : W p l e rm_X_X9_placeOf__8 s m args below meth c H locs 0 0 Q (F0 m 27 ls [.int z0]) := by
  obtain ⟨hx, hb, hml, hown, hts, hN, hK, hD, hA⟩ := id C
  have hf : (some (z0, t)) = some (r, u) := hf
  obtain ⟨e_27, e2_27⟩ := fb_e hf
  subst e_27; subst e2_27
  exact hr trivial _ _ _ _ hP hS dX9_placeOf_27
set_option maxRecDepth 20000 in
theorem w_X_X9_placeOf__8_26 {p : Program} {l : Launch} {e : Env} {s : State} {m : MethodId} {args : Array Value} {below : List Frame} {meth : Method} {c : Code} {A : Nat → Prop} {Q : State → Prop} {D : va_G} {ca : Nat → ClassId} {a : Nat → Nat} {u : fw_S} {r : Int32}  (C : CX (WX ca a) D (tyv ca) p s m args c A prog_11_method_10_code 2 RX9) (hr : True → RX (WX ca a) D p l e rm_X_X9_placeOf__8 s m args below meth c A prog_11_method_10_code Q .ireturn [.int r] u) {t : fw_S}  {H : Heap} {locs : List Loc} {ls : Array Slot} (hf : b_X_X9_placeOf__8_26  t  = some (r, u)) (hP : va_P D classes (WX ca a t) H) (hS : va_S A s.heap H locs) (hl : lv_has ls 2 []) : W p l e rm_X_X9_placeOf__8 s m args below meth c H locs 0 0 Q (F0 m 26 ls []) := by
  obtain ⟨hx, hb, hml, hown, hts, hN, hK, hD, hA⟩ := id C
  have hf : (b_X_X9_placeOf__8_27 t ((-1 : Int32))) = some (r, u) := hf
  refine lv_iconst (v := (-1)) hx hb dX9_placeOf_26 (by decide) ?_
  exact w_X_X9_placeOf__8_27 C hr hf hP hS (lv_sub hl [] rfl)
set_option maxRecDepth 20000 in
theorem w_X_X9_placeOf__8_12 {p : Program} {l : Launch} {e : Env} {s : State} {m : MethodId} {args : Array Value} {below : List Frame} {meth : Method} {c : Code} {A : Nat → Prop} {Q : State → Prop} {D : va_G} {ca : Nat → ClassId} {a : Nat → Nat} {u : fw_S} {r : Int32}  (C : CX (WX ca a) D (tyv ca) p s m args c A prog_11_method_10_code 2 RX9) (hr : True → RX (WX ca a) D p l e rm_X_X9_placeOf__8 s m args below meth c A prog_11_method_10_code Q .ireturn [.int r] u) {t : fw_S} {x1 : Int32} {H : Heap} {locs : List Loc} {ls : Array Slot} (hf : b_X_X9_placeOf__8_12  t x1 = some (r, u)) (hP : va_P D classes (WX ca a t) H) (hS : va_S A s.heap H locs) (hl : lv_has ls 2 [(0, .ref (a 8)), (1, .int x1)]) : W p l e rm_X_X9_placeOf__8 s m args below meth c H locs 0 0 Q (F0 m 12 ls []) := by
  obtain ⟨hx, hb, hml, hown, hts, hN, hK, hD, hA⟩ := id C
  have hf : (fb_b (f_X_J9_floorMod_7cf53 t ((st_I t 10) + x1) ((60 : Int32))) fun v_2 t_1 => (b_X_X9_placeOf__8_27 t_1 v_2)) = some (r, u) := hf
  refine lv_aload_n hx hb dX9_placeOf_12 rfl (lv_at hl 0 rfl) ?_
  refine va_get (D := D) (ci := 9) (v := .int (st_I t 10)) (C := RX9) (T := TX9) (N := 12) hx hb hts inX9 hown hK hP 8 (heX_8 ca a t) rfl 10 (by decide) (hts _ kw_286) (fun _ h9 => h9) rfl dX9_placeOf_13 ?_
  refine lv_iload_n hx hb dX9_placeOf_16 rfl (lv_at hl 1 rfl) ?_
  refine lv_iadd hx hb dX9_placeOf_17 ?_
  refine lv_bipush (v := 60) hx hb dX9_placeOf_18 (by decide) ?_
  obtain ⟨v_2, t_1, g_20, hf⟩ := fb_bs hf
  refine fw_S1 (As := [.int ((st_I t 10) + x1), .int ((60 : Int32))]) (rest := []) (n := 2) C (c_X_J9_floorMod_7cf53 (l := l) (D := D) (ca := ca) (a := a) g_20) kw_1055 kw_667 kw_106 kw_668 hP hS hl rfl rfl (by decide) (by decide +kernel) ⟨Nat.le_of_ble_eq_true rfl, Nat.le_of_ble_eq_true rfl⟩ rfl rfl (Nat.le_of_ble_eq_true rfl) dX9_placeOf_20 (fun H locs hP hS => ?_)
  refine W.eq (g2 := F0 m 23 ls [.int v_2]) rfl ?_
  refine lv_goto (tgt := 27) hx hb dX9_placeOf_23 (by decide) ?_
  exact w_X_X9_placeOf__8_27 C hr hf hP hS (lv_sub hl [] rfl)
set_option maxRecDepth 20000 in
theorem w_X_X9_placeOf__8_4 {p : Program} {l : Launch} {e : Env} {s : State} {m : MethodId} {args : Array Value} {below : List Frame} {meth : Method} {c : Code} {A : Nat → Prop} {Q : State → Prop} {D : va_G} {ca : Nat → ClassId} {a : Nat → Nat} {u : fw_S} {r : Int32}  (C : CX (WX ca a) D (tyv ca) p s m args c A prog_11_method_10_code 2 RX9) (hr : True → RX (WX ca a) D p l e rm_X_X9_placeOf__8 s m args below meth c A prog_11_method_10_code Q .ireturn [.int r] u) {t : fw_S} {x1 : Int32} {H : Heap} {locs : List Loc} {ls : Array Slot} (hf : b_X_X9_placeOf__8_4  t x1 = some (r, u)) (hP : va_P D classes (WX ca a t) H) (hS : va_S A s.heap H locs) (hl : lv_has ls 2 [(0, .ref (a 8)), (1, .int x1)]) : W p l e rm_X_X9_placeOf__8 s m args below meth c H locs 0 0 Q (F0 m 4 ls []) := by
  obtain ⟨hx, hb, hml, hown, hts, hN, hK, hD, hA⟩ := id C
  have hf : (if (st_I t 11) ≤ x1 then b_X_X9_placeOf__8_26 t else b_X_X9_placeOf__8_12 t x1) = some (r, u) := hf
  refine lv_iload_n hx hb dX9_placeOf_4 rfl (lv_at hl 1 rfl) ?_
  refine lv_aload_n hx hb dX9_placeOf_5 rfl (lv_at hl 0 rfl) ?_
  refine va_get (D := D) (ci := 9) (v := .int (st_I t 11)) (C := RX9) (T := TX9) (N := 12) hx hb hts inX9 hown hK hP 8 (heX_8 ca a t) rfl 11 (by decide) (hts _ kw_287) (fun _ h9 => h9) rfl dX9_placeOf_6 ?_
  refine lv_icmp_ge (tgt := 26) hx hb dX9_placeOf_9 (by decide) (fun h_9 => ?_) (fun h_9 => ?_)
  · have hf := fb_t h_9 hf
    exact w_X_X9_placeOf__8_26 C hr hf hP hS (lv_sub hl [] rfl)
  · have hf := fb_f h_9 hf
    exact w_X_X9_placeOf__8_12 C hr hf hP hS (lv_sub hl [0, 1] rfl)
set_option maxRecDepth 20000 in
theorem w_X_X9_placeOf__8_0 {p : Program} {l : Launch} {e : Env} {s : State} {m : MethodId} {args : Array Value} {below : List Frame} {meth : Method} {c : Code} {A : Nat → Prop} {Q : State → Prop} {D : va_G} {ca : Nat → ClassId} {a : Nat → Nat} {u : fw_S} {r : Int32}  (C : CX (WX ca a) D (tyv ca) p s m args c A prog_11_method_10_code 2 RX9) (hr : True → RX (WX ca a) D p l e rm_X_X9_placeOf__8 s m args below meth c A prog_11_method_10_code Q .ireturn [.int r] u) {t : fw_S} {x1 : Int32} {H : Heap} {locs : List Loc} {ls : Array Slot} (hf : b_X_X9_placeOf__8_0  t x1 = some (r, u)) (hP : va_P D classes (WX ca a t) H) (hS : va_S A s.heap H locs) (hl : lv_has ls 2 [(0, .ref (a 8)), (1, .int x1)]) : W p l e rm_X_X9_placeOf__8 s m args below meth c H locs 0 0 Q (F0 m 0 ls []) := by
  obtain ⟨hx, hb, hml, hown, hts, hN, hK, hD, hA⟩ := id C
  have hf : (if x1 < 0 then b_X_X9_placeOf__8_26 t else b_X_X9_placeOf__8_4 t x1) = some (r, u) := hf
  refine lv_iload_n hx hb dX9_placeOf_0 rfl (lv_at hl 1 rfl) ?_
  refine lv_if_lt (tgt := 26) hx hb dX9_placeOf_1 (by decide) (fun h_1 => ?_) (fun h_1 => ?_)
  · have hf := fb_t h_1 hf
    exact w_X_X9_placeOf__8_26 C hr hf hP hS (lv_sub hl [] rfl)
  · have hf := fb_f h_1 hf
    exact w_X_X9_placeOf__8_4 C hr hf hP hS (lv_sub hl [0, 1] rfl)
set_option maxRecDepth 20000 in
theorem c_X_X9_placeOf__8 {l : Launch} {D : va_G} {ca : Nat → ClassId} {a : Nat → Nat} {t : fw_S} {x1 : Int32} {u : fw_S} {r : Int32} (hf : f_X_X9_placeOf__8 t x1 = some (r, u)) : MC (WX ca a) D (tyv ca) l yX9_placeOf (.code yX9_placeOf prog_11_method_10_code 2 (some .int) :: lw_gd) rm_X_X9_placeOf__8 [.ref (a 8), .int x1] (some (.int r)) t u := by
  refine fw_met (okX ca a) (by decide +kernel) rfl rfl (Nat.le_of_ble_eq_true rfl) ?_
  intro p e s m args below meth c A Q ls C hr hk hP hS hl hQ
  exact w_X_X9_placeOf__8_0 C (fun _ => fw_ri C hr hk hQ) hf hP hS (lv_sub hl [0, 1] rfl)
/-! ReactiveSheet.Watching.entry(II)I ['x.watching'] -/
abbrev rm_X_X9_entry__8 : Room := { frames := 2, cells := 0, slots := 0, locals := 43 }
def b_X_X9_entry__8_40  (t : fw_S) (x3 : Int32) : Option (Int32 × fw_S) := fb_g (¬ (x3 < 0 ∨ 60 ≤ x3.toNatClampNeg)) (some (st_F t 26 x3.toNatClampNeg, t))
def b_X_X9_entry__8_47  (t : fw_S) (x3 : Int32) : Option (Int32 × fw_S) := fb_g (¬ (x3 < 0 ∨ 60 ≤ x3.toNatClampNeg)) (some (st_F t 27 x3.toNatClampNeg, t))
def b_X_X9_entry__8_54  (t : fw_S) (x3 : Int32) : Option (Int32 × fw_S) := fb_g (¬ (x3 < 0 ∨ 60 ≤ x3.toNatClampNeg)) (some (st_F t 28 x3.toNatClampNeg, t))
def b_X_X9_entry__8_61  (t : fw_S)  : Option (Int32 × fw_S) := some ((-1 : Int32), t)
def b_X_X9_entry__8_12  (t : fw_S) (x2 : Int32) (x3 : Int32) : Option (Int32 × fw_S) := if x2 = 0 then b_X_X9_entry__8_40 t x3 else if x2 = 1 then b_X_X9_entry__8_47 t x3 else if x2 = 2 then b_X_X9_entry__8_54 t x3 else b_X_X9_entry__8_61 t
def b_X_X9_entry__8_10  (t : fw_S)  : Option (Int32 × fw_S) := some ((-1 : Int32), t)
def b_X_X9_entry__8_0  (t : fw_S) (x1 : Int32) (x2 : Int32) : Option (Int32 × fw_S) := fb_b (f_X_X9_placeOf__8 t x1) fun v_2 t_1 => (if 0 ≤ v_2 then b_X_X9_entry__8_12 t_1 x2 v_2 else b_X_X9_entry__8_10 t_1)
def f_X_X9_entry__8 (t : fw_S) (x1 : Int32) (x2 : Int32) : Option (Int32 × fw_S) := b_X_X9_entry__8_0 t x1 x2
set_option maxRecDepth 20000 in
theorem w_X_X9_entry__8_40 {p : Program} {l : Launch} {e : Env} {s : State} {m : MethodId} {args : Array Value} {below : List Frame} {meth : Method} {c : Code} {A : Nat → Prop} {Q : State → Prop} {D : va_G} {ca : Nat → ClassId} {a : Nat → Nat} {u : fw_S} {r : Int32}  (C : CX (WX ca a) D (tyv ca) p s m args c A prog_11_method_11_code 4 RX9) (hr : True → RX (WX ca a) D p l e rm_X_X9_entry__8 s m args below meth c A prog_11_method_11_code Q .ireturn [.int r] u) {t : fw_S} {x3 : Int32} {H : Heap} {locs : List Loc} {ls : Array Slot} (hf : b_X_X9_entry__8_40  t x3 = some (r, u)) (hP : va_P D classes (WX ca a t) H) (hS : va_S A s.heap H locs) (hl : lv_has ls 4 [(0, .ref (a 8)), (3, .int x3)]) : W p l e rm_X_X9_entry__8 s m args below meth c H locs 0 0 Q (F0 m 40 ls []) := by
  obtain ⟨hx, hb, hml, hown, hts, hN, hK, hD, hA⟩ := id C
  have hf : (fb_g (¬ (x3 < 0 ∨ 60 ≤ x3.toNatClampNeg)) (some (st_F t 26 x3.toNatClampNeg, t))) = some (r, u) := hf
  refine lv_aload_n hx hb dX9_entry_40 rfl (lv_at hl 0 rfl) ?_
  refine va_get (D := D) (ci := 9) (v := .ref (a 52)) (C := RX9) (T := TX9) (N := 12) hx hb hts inX9 hown hK hP 8 (heX_8 ca a t) rfl 5 (by decide) (hts _ kw_281) (fun _ h9 => h9) rfl dX9_entry_41 ?_
  refine lv_iload_n hx hb dX9_entry_44 rfl (lv_at hl 1 rfl) ?_
  obtain ⟨h_45, hf⟩ := fb_if hf
  refine va_iald hx hb hK hP 52 0 (haX_52 ca a t) rfl h_45 dX9_entry_45 ?_
  obtain ⟨e_46, e2_46⟩ := fb_e hf
  subst e_46; subst e2_46
  exact hr trivial _ _ _ _ hP hS dX9_entry_46
set_option maxRecDepth 20000 in
theorem w_X_X9_entry__8_47 {p : Program} {l : Launch} {e : Env} {s : State} {m : MethodId} {args : Array Value} {below : List Frame} {meth : Method} {c : Code} {A : Nat → Prop} {Q : State → Prop} {D : va_G} {ca : Nat → ClassId} {a : Nat → Nat} {u : fw_S} {r : Int32}  (C : CX (WX ca a) D (tyv ca) p s m args c A prog_11_method_11_code 4 RX9) (hr : True → RX (WX ca a) D p l e rm_X_X9_entry__8 s m args below meth c A prog_11_method_11_code Q .ireturn [.int r] u) {t : fw_S} {x3 : Int32} {H : Heap} {locs : List Loc} {ls : Array Slot} (hf : b_X_X9_entry__8_47  t x3 = some (r, u)) (hP : va_P D classes (WX ca a t) H) (hS : va_S A s.heap H locs) (hl : lv_has ls 4 [(0, .ref (a 8)), (3, .int x3)]) : W p l e rm_X_X9_entry__8 s m args below meth c H locs 0 0 Q (F0 m 47 ls []) := by
  obtain ⟨hx, hb, hml, hown, hts, hN, hK, hD, hA⟩ := id C
  have hf : (fb_g (¬ (x3 < 0 ∨ 60 ≤ x3.toNatClampNeg)) (some (st_F t 27 x3.toNatClampNeg, t))) = some (r, u) := hf
  refine lv_aload_n hx hb dX9_entry_47 rfl (lv_at hl 0 rfl) ?_
  refine va_get (D := D) (ci := 9) (v := .ref (a 53)) (C := RX9) (T := TX9) (N := 12) hx hb hts inX9 hown hK hP 8 (heX_8 ca a t) rfl 6 (by decide) (hts _ kw_282) (fun _ h9 => h9) rfl dX9_entry_48 ?_
  refine lv_iload_n hx hb dX9_entry_51 rfl (lv_at hl 1 rfl) ?_
  obtain ⟨h_52, hf⟩ := fb_if hf
  refine va_iald hx hb hK hP 53 0 (haX_53 ca a t) rfl h_52 dX9_entry_52 ?_
  obtain ⟨e_53, e2_53⟩ := fb_e hf
  subst e_53; subst e2_53
  exact hr trivial _ _ _ _ hP hS dX9_entry_53
set_option maxRecDepth 20000 in
theorem w_X_X9_entry__8_54 {p : Program} {l : Launch} {e : Env} {s : State} {m : MethodId} {args : Array Value} {below : List Frame} {meth : Method} {c : Code} {A : Nat → Prop} {Q : State → Prop} {D : va_G} {ca : Nat → ClassId} {a : Nat → Nat} {u : fw_S} {r : Int32}  (C : CX (WX ca a) D (tyv ca) p s m args c A prog_11_method_11_code 4 RX9) (hr : True → RX (WX ca a) D p l e rm_X_X9_entry__8 s m args below meth c A prog_11_method_11_code Q .ireturn [.int r] u) {t : fw_S} {x3 : Int32} {H : Heap} {locs : List Loc} {ls : Array Slot} (hf : b_X_X9_entry__8_54  t x3 = some (r, u)) (hP : va_P D classes (WX ca a t) H) (hS : va_S A s.heap H locs) (hl : lv_has ls 4 [(0, .ref (a 8)), (3, .int x3)]) : W p l e rm_X_X9_entry__8 s m args below meth c H locs 0 0 Q (F0 m 54 ls []) := by
  obtain ⟨hx, hb, hml, hown, hts, hN, hK, hD, hA⟩ := id C
  have hf : (fb_g (¬ (x3 < 0 ∨ 60 ≤ x3.toNatClampNeg)) (some (st_F t 28 x3.toNatClampNeg, t))) = some (r, u) := hf
  refine lv_aload_n hx hb dX9_entry_54 rfl (lv_at hl 0 rfl) ?_
  refine va_get (D := D) (ci := 9) (v := .ref (a 54)) (C := RX9) (T := TX9) (N := 12) hx hb hts inX9 hown hK hP 8 (heX_8 ca a t) rfl 7 (by decide) (hts _ kw_283) (fun _ h9 => h9) rfl dX9_entry_55 ?_
  refine lv_iload_n hx hb dX9_entry_58 rfl (lv_at hl 1 rfl) ?_
  obtain ⟨h_59, hf⟩ := fb_if hf
  refine va_iald hx hb hK hP 54 0 (haX_54 ca a t) rfl h_59 dX9_entry_59 ?_
  obtain ⟨e_60, e2_60⟩ := fb_e hf
  subst e_60; subst e2_60
  exact hr trivial _ _ _ _ hP hS dX9_entry_60
set_option maxRecDepth 20000 in
theorem w_X_X9_entry__8_61 {p : Program} {l : Launch} {e : Env} {s : State} {m : MethodId} {args : Array Value} {below : List Frame} {meth : Method} {c : Code} {A : Nat → Prop} {Q : State → Prop} {D : va_G} {ca : Nat → ClassId} {a : Nat → Nat} {u : fw_S} {r : Int32}  (C : CX (WX ca a) D (tyv ca) p s m args c A prog_11_method_11_code 4 RX9) (hr : True → RX (WX ca a) D p l e rm_X_X9_entry__8 s m args below meth c A prog_11_method_11_code Q .ireturn [.int r] u) {t : fw_S}  {H : Heap} {locs : List Loc} {ls : Array Slot} (hf : b_X_X9_entry__8_61  t  = some (r, u)) (hP : va_P D classes (WX ca a t) H) (hS : va_S A s.heap H locs) (hl : lv_has ls 4 []) : W p l e rm_X_X9_entry__8 s m args below meth c H locs 0 0 Q (F0 m 61 ls []) := by
  obtain ⟨hx, hb, hml, hown, hts, hN, hK, hD, hA⟩ := id C
  have hf : (some ((-1 : Int32), t)) = some (r, u) := hf
  refine lv_iconst (v := (-1)) hx hb dX9_entry_61 (by decide) ?_
  obtain ⟨e_62, e2_62⟩ := fb_e hf
  subst e_62; subst e2_62
  exact hr trivial _ _ _ _ hP hS dX9_entry_62
set_option maxRecDepth 20000 in
theorem w_X_X9_entry__8_12 {p : Program} {l : Launch} {e : Env} {s : State} {m : MethodId} {args : Array Value} {below : List Frame} {meth : Method} {c : Code} {A : Nat → Prop} {Q : State → Prop} {D : va_G} {ca : Nat → ClassId} {a : Nat → Nat} {u : fw_S} {r : Int32}  (C : CX (WX ca a) D (tyv ca) p s m args c A prog_11_method_11_code 4 RX9) (hr : True → RX (WX ca a) D p l e rm_X_X9_entry__8 s m args below meth c A prog_11_method_11_code Q .ireturn [.int r] u) {t : fw_S} {x2 : Int32} {x3 : Int32} {H : Heap} {locs : List Loc} {ls : Array Slot} (hf : b_X_X9_entry__8_12  t x2 x3 = some (r, u)) (hP : va_P D classes (WX ca a t) H) (hS : va_S A s.heap H locs) (hl : lv_has ls 4 [(0, .ref (a 8)), (2, .int x2), (3, .int x3)]) : W p l e rm_X_X9_entry__8 s m args below meth c H locs 0 0 Q (F0 m 12 ls []) := by
  obtain ⟨hx, hb, hml, hown, hts, hN, hK, hD, hA⟩ := id C
  have hf : (if x2 = 0 then b_X_X9_entry__8_40 t x3 else if x2 = 1 then b_X_X9_entry__8_47 t x3 else if x2 = 2 then b_X_X9_entry__8_54 t x3 else b_X_X9_entry__8_61 t) = some (r, u) := hf
  refine lv_iload_n hx hb dX9_entry_12 rfl (lv_at hl 1 rfl) ?_
  by_cases h_13_0 : x2 = 0
  · have hf := fb_t h_13_0 hf
    refine lv_tableIn (tgt := 40) hx hb dX9_entry_13 (by rw [h_13_0]; decide) (by rw [h_13_0]; decide) (by rw [h_13_0]; rfl) (by decide) ?_
    exact w_X_X9_entry__8_40 C hr hf hP hS (lv_sub hl [0, 2] rfl)
  have hf := fb_f h_13_0 hf
  by_cases h_13_1 : x2 = 1
  · have hf := fb_t h_13_1 hf
    refine lv_tableIn (tgt := 47) hx hb dX9_entry_13 (by rw [h_13_1]; decide) (by rw [h_13_1]; decide) (by rw [h_13_1]; rfl) (by decide) ?_
    exact w_X_X9_entry__8_47 C hr hf hP hS (lv_sub hl [0, 2] rfl)
  have hf := fb_f h_13_1 hf
  by_cases h_13_2 : x2 = 2
  · have hf := fb_t h_13_2 hf
    refine lv_tableIn (tgt := 54) hx hb dX9_entry_13 (by rw [h_13_2]; decide) (by rw [h_13_2]; decide) (by rw [h_13_2]; rfl) (by decide) ?_
    exact w_X_X9_entry__8_54 C hr hf hP hS (lv_sub hl [0, 2] rfl)
  have hf := fb_f h_13_2 hf
  refine lv_tableOut (tgt := 61) hx hb dX9_entry_13 (by have q0 := lv_neT h_13_0 (a := 0) (by decide); have q1 := lv_neT h_13_1 (a := 1) (by decide); have q2 := lv_neT h_13_2 (a := 2) (by decide); omega) (by decide) ?_
  exact w_X_X9_entry__8_61 C hr hf hP hS (lv_sub hl [] rfl)
set_option maxRecDepth 20000 in
theorem w_X_X9_entry__8_10 {p : Program} {l : Launch} {e : Env} {s : State} {m : MethodId} {args : Array Value} {below : List Frame} {meth : Method} {c : Code} {A : Nat → Prop} {Q : State → Prop} {D : va_G} {ca : Nat → ClassId} {a : Nat → Nat} {u : fw_S} {r : Int32}  (C : CX (WX ca a) D (tyv ca) p s m args c A prog_11_method_11_code 4 RX9) (hr : True → RX (WX ca a) D p l e rm_X_X9_entry__8 s m args below meth c A prog_11_method_11_code Q .ireturn [.int r] u) {t : fw_S}  {H : Heap} {locs : List Loc} {ls : Array Slot} (hf : b_X_X9_entry__8_10  t  = some (r, u)) (hP : va_P D classes (WX ca a t) H) (hS : va_S A s.heap H locs) (hl : lv_has ls 4 []) : W p l e rm_X_X9_entry__8 s m args below meth c H locs 0 0 Q (F0 m 10 ls []) := by
  obtain ⟨hx, hb, hml, hown, hts, hN, hK, hD, hA⟩ := id C
  have hf : (some ((-1 : Int32), t)) = some (r, u) := hf
  refine lv_iconst (v := (-1)) hx hb dX9_entry_10 (by decide) ?_
  obtain ⟨e_11, e2_11⟩ := fb_e hf
  subst e_11; subst e2_11
  exact hr trivial _ _ _ _ hP hS dX9_entry_11
set_option maxRecDepth 20000 in
theorem w_X_X9_entry__8_0 {p : Program} {l : Launch} {e : Env} {s : State} {m : MethodId} {args : Array Value} {below : List Frame} {meth : Method} {c : Code} {A : Nat → Prop} {Q : State → Prop} {D : va_G} {ca : Nat → ClassId} {a : Nat → Nat} {u : fw_S} {r : Int32}  (C : CX (WX ca a) D (tyv ca) p s m args c A prog_11_method_11_code 4 RX9) (hr : True → RX (WX ca a) D p l e rm_X_X9_entry__8 s m args below meth c A prog_11_method_11_code Q .ireturn [.int r] u) {t : fw_S} {x1 : Int32} {x2 : Int32} {H : Heap} {locs : List Loc} {ls : Array Slot} (hf : b_X_X9_entry__8_0  t x1 x2 = some (r, u)) (hP : va_P D classes (WX ca a t) H) (hS : va_S A s.heap H locs) (hl : lv_has ls 4 [(0, .ref (a 8)), (1, .int x1), (2, .int x2)]) : W p l e rm_X_X9_entry__8 s m args below meth c H locs 0 0 Q (F0 m 0 ls []) := by
  obtain ⟨hx, hb, hml, hown, hts, hN, hK, hD, hA⟩ := id C
  have hf : (fb_b (f_X_X9_placeOf__8 t x1) fun v_2 t_1 => (if 0 ≤ v_2 then b_X_X9_entry__8_12 t_1 x2 v_2 else b_X_X9_entry__8_10 t_1)) = some (r, u) := hf
  refine lv_aload_n hx hb dX9_entry_0 rfl (lv_at hl 0 rfl) ?_
  refine lv_iload_n hx hb dX9_entry_1 rfl (lv_at hl 1 rfl) ?_
  obtain ⟨v_2, t_1, g_2, hf⟩ := fb_bs hf
  refine fw_V1 (As := [.int x1]) (rest := []) (n := 1) (q0 := 8) C (c_X_X9_placeOf__8 (l := l) (D := D) (ca := ca) (a := a) g_2) kw_1051 kw_1053 kw_98 kw_1054 kw_43 hP hS hl (heX_8 ca a t) rfl rfl rfl (by decide) (by decide +kernel) ⟨Nat.le_of_ble_eq_true rfl, Nat.le_of_ble_eq_true rfl⟩ rfl rfl (Nat.le_of_ble_eq_true rfl) dX9_entry_2 (fun H locs hP hS => ?_)
  refine W.eq (g2 := F0 m 5 ls [.int v_2]) rfl ?_
  refine lv_istore_n (lv' := [(3, .int v_2), (0, .ref (a 8)), (1, .int x1), (2, .int x2)]) hx hb dX9_entry_5 rfl hl (by decide) rfl (fun ls hl => ?_)
  refine lv_iload_n hx hb dX9_entry_6 rfl (lv_at hl 0 rfl) ?_
  refine lv_if_ge (tgt := 12) hx hb dX9_entry_7 (by decide) (fun h_7 => ?_) (fun h_7 => ?_)
  · have hf := fb_t h_7 hf
    exact w_X_X9_entry__8_12 C hr hf hP hS (lv_sub hl [1, 3, 0] rfl)
  · have hf := fb_f h_7 hf
    exact w_X_X9_entry__8_10 C hr hf hP hS (lv_sub hl [] rfl)
set_option maxRecDepth 20000 in
theorem c_X_X9_entry__8 {l : Launch} {D : va_G} {ca : Nat → ClassId} {a : Nat → Nat} {t : fw_S} {x1 : Int32} {x2 : Int32} {u : fw_S} {r : Int32} (hf : f_X_X9_entry__8 t x1 x2 = some (r, u)) : MC (WX ca a) D (tyv ca) l yX9_entry (.code yX9_entry prog_11_method_11_code 4 (some .int) :: lw_gd) rm_X_X9_entry__8 [.ref (a 8), .int x1, .int x2] (some (.int r)) t u := by
  refine fw_met (okX ca a) (by decide +kernel) rfl rfl (Nat.le_of_ble_eq_true rfl) ?_
  intro p e s m args below meth c A Q ls C hr hk hP hS hl hQ
  exact w_X_X9_entry__8_0 C (fun _ => fw_ri C hr hk hQ) hf hP hS (lv_sub hl [0, 1, 2] rfl)
/-! ReactiveSheet.log(II)I ['x'] -/
abbrev rm_X_X10_log__0 : Room := { frames := 3, cells := 0, slots := 0, locals := 66 }
def b_X_X10_log__0_0  (t : fw_S) (x1 : Int32) (x2 : Int32) : Option (Int32 × fw_S) := fb_b (f_X_X9_entry__8 t x1 x2) fun v_2 t_1 => (some (v_2, t_1))
def f_X_X10_log__0 (t : fw_S) (x1 : Int32) (x2 : Int32) : Option (Int32 × fw_S) := b_X_X10_log__0_0 t x1 x2
set_option maxRecDepth 20000 in
theorem w_X_X10_log__0_0 {p : Program} {l : Launch} {e : Env} {s : State} {m : MethodId} {args : Array Value} {below : List Frame} {meth : Method} {c : Code} {A : Nat → Prop} {Q : State → Prop} {D : va_G} {ca : Nat → ClassId} {a : Nat → Nat} {u : fw_S} {r : Int32}  (C : CX (WX ca a) D (tyv ca) p s m args c A prog_1_method_26_code 3 RX10) (hr : True → RX (WX ca a) D p l e rm_X_X10_log__0 s m args below meth c A prog_1_method_26_code Q .ireturn [.int r] u) {t : fw_S} {x1 : Int32} {x2 : Int32} {H : Heap} {locs : List Loc} {ls : Array Slot} (hf : b_X_X10_log__0_0  t x1 x2 = some (r, u)) (hP : va_P D classes (WX ca a t) H) (hS : va_S A s.heap H locs) (hl : lv_has ls 3 [(0, .ref (a 0)), (1, .int x1), (2, .int x2)]) : W p l e rm_X_X10_log__0 s m args below meth c H locs 0 0 Q (F0 m 0 ls []) := by
  obtain ⟨hx, hb, hml, hown, hts, hN, hK, hD, hA⟩ := id C
  have hf : (fb_b (f_X_X9_entry__8 t x1 x2) fun v_2 t_1 => (some (v_2, t_1))) = some (r, u) := hf
  refine lv_aload_n hx hb dX10_log_0 rfl (lv_at hl 0 rfl) ?_
  refine va_get (D := D) (ci := 10) (v := .ref (a 8)) (C := RX10) (T := TX10) (N := 13) hx hb hts inX10 hown hK hP 0 (heX_0 ca a t) rfl 5 (by decide) (hts _ kw_359) (fun _ h9 => h9) rfl dX10_log_1 ?_
  refine lv_iload_n hx hb dX10_log_4 rfl (lv_at hl 1 rfl) ?_
  refine lv_iload_n hx hb dX10_log_5 rfl (lv_at hl 2 rfl) ?_
  obtain ⟨v_2, t_1, g_6, hf⟩ := fb_bs hf
  refine fw_V1 (As := [.int x1, .int x2]) (rest := []) (n := 2) (q0 := 8) C (c_X_X9_entry__8 (l := l) (D := D) (ca := ca) (a := a) g_6) kw_1047 kw_1048 kw_98 kw_1050 kw_1049 hP hS hl (heX_8 ca a t) rfl rfl rfl (by decide) (by decide +kernel) ⟨Nat.le_of_ble_eq_true rfl, Nat.le_of_ble_eq_true rfl⟩ rfl rfl (Nat.le_of_ble_eq_true rfl) dX10_log_6 (fun H locs hP hS => ?_)
  refine W.eq (g2 := F0 m 9 ls [.int v_2]) rfl ?_
  obtain ⟨e_9, e2_9⟩ := fb_e hf
  subst e_9; subst e2_9
  exact hr trivial _ _ _ _ hP hS dX10_log_9
set_option maxRecDepth 20000 in
theorem c_X_X10_log__0 {l : Launch} {D : va_G} {ca : Nat → ClassId} {a : Nat → Nat} {t : fw_S} {x1 : Int32} {x2 : Int32} {u : fw_S} {r : Int32} (hf : f_X_X10_log__0 t x1 x2 = some (r, u)) : MC (WX ca a) D (tyv ca) l yX10_log (.code yX10_log prog_1_method_26_code 3 (some .int) :: lw_gd) rm_X_X10_log__0 [.ref (a 0), .int x1, .int x2] (some (.int r)) t u := by
  refine fw_met (okX ca a) (by decide +kernel) rfl rfl (Nat.le_of_ble_eq_true rfl) ?_
  intro p e s m args below meth c A Q ls C hr hk hP hS hl hQ
  exact w_X_X10_log__0_0 C (fun _ => fw_ri C hr hk hQ) hf hP hS (lv_sub hl [0, 1, 2] rfl)
/-! ReactiveSheet.Watching.number(II)J ['x.watching'] -/
abbrev rm_X_X9_number__8 : Room := { frames := 2, cells := 0, slots := 0, locals := 43 }
def b_X_X9_number__8_19  (t : fw_S)  : Option (Int64 × fw_S) := some ((-9223372036854775808 : Int64), t)
def b_X_X9_number__8_42  (t : fw_S) (w0 : Int64) : Option (Int64 × fw_S) := some (w0, t)
def b_X_X9_number__8_36  (t : fw_S) (x3 : Int32) : Option (Int64 × fw_S) := fb_g (¬ (x3 < 0 ∨ 60 ≤ x3.toNatClampNeg)) (b_X_X9_number__8_42 t (st_G t 9 x3.toNatClampNeg))
def b_X_X9_number__8_27  (t : fw_S) (x3 : Int32) : Option (Int64 × fw_S) := fb_g (¬ (x3 < 0 ∨ 60 ≤ x3.toNatClampNeg)) (b_X_X9_number__8_42 t (st_G t 8 x3.toNatClampNeg))
def b_X_X9_number__8_23  (t : fw_S) (x2 : Int32) (x3 : Int32) : Option (Int64 × fw_S) := if x2 = 0 then b_X_X9_number__8_27 t x3 else b_X_X9_number__8_36 t x3
def b_X_X9_number__8_14  (t : fw_S) (x2 : Int32) (x3 : Int32) : Option (Int64 × fw_S) := if x2 ≤ ((1 : Int32)) then b_X_X9_number__8_23 t x2 x3 else b_X_X9_number__8_19 t
def b_X_X9_number__8_10  (t : fw_S) (x2 : Int32) (x3 : Int32) : Option (Int64 × fw_S) := if x2 < 0 then b_X_X9_number__8_19 t else b_X_X9_number__8_14 t x2 x3
def b_X_X9_number__8_0  (t : fw_S) (x1 : Int32) (x2 : Int32) : Option (Int64 × fw_S) := fb_b (f_X_X9_placeOf__8 t x1) fun v_2 t_1 => (if v_2 < 0 then b_X_X9_number__8_19 t_1 else b_X_X9_number__8_10 t_1 x2 v_2)
def f_X_X9_number__8 (t : fw_S) (x1 : Int32) (x2 : Int32) : Option (Int64 × fw_S) := b_X_X9_number__8_0 t x1 x2
set_option maxRecDepth 20000 in
theorem w_X_X9_number__8_19 {p : Program} {l : Launch} {e : Env} {s : State} {m : MethodId} {args : Array Value} {below : List Frame} {meth : Method} {c : Code} {A : Nat → Prop} {Q : State → Prop} {D : va_G} {ca : Nat → ClassId} {a : Nat → Nat} {u : fw_S} {r : Int64}  (C : CX (WX ca a) D (tyv ca) p s m args c A prog_11_method_12_code 4 RX9) (hr : True → RX (WX ca a) D p l e rm_X_X9_number__8 s m args below meth c A prog_11_method_12_code Q .lreturn [.long r] u) {t : fw_S}  {H : Heap} {locs : List Loc} {ls : Array Slot} (hf : b_X_X9_number__8_19  t  = some (r, u)) (hP : va_P D classes (WX ca a t) H) (hS : va_S A s.heap H locs) (hl : lv_has ls 4 []) : W p l e rm_X_X9_number__8 s m args below meth c H locs 0 0 Q (F0 m 19 ls []) := by
  obtain ⟨hx, hb, hml, hown, hts, hN, hK, hD, hA⟩ := id C
  have hf : (some ((-9223372036854775808 : Int64), t)) = some (r, u) := hf
  refine lv_ldc2 (v := (-9223372036854775808)) hx hb hown (hts _ kw_1064) dX9_number_19 ?_
  obtain ⟨e_22, e2_22⟩ := fb_e hf
  subst e_22; subst e2_22
  exact hr trivial _ _ _ _ hP hS dX9_number_22
set_option maxRecDepth 20000 in
theorem w_X_X9_number__8_42 {p : Program} {l : Launch} {e : Env} {s : State} {m : MethodId} {args : Array Value} {below : List Frame} {meth : Method} {c : Code} {A : Nat → Prop} {Q : State → Prop} {D : va_G} {ca : Nat → ClassId} {a : Nat → Nat} {u : fw_S} {r : Int64}  (C : CX (WX ca a) D (tyv ca) p s m args c A prog_11_method_12_code 4 RX9) (hr : True → RX (WX ca a) D p l e rm_X_X9_number__8 s m args below meth c A prog_11_method_12_code Q .lreturn [.long r] u) {t : fw_S} {w0 : Int64} {H : Heap} {locs : List Loc} {ls : Array Slot} (hf : b_X_X9_number__8_42  t w0 = some (r, u)) (hP : va_P D classes (WX ca a t) H) (hS : va_S A s.heap H locs) (hl : lv_has ls 4 []) : W p l e rm_X_X9_number__8 s m args below meth c H locs 0 0 Q (F0 m 42 ls [.long w0]) := by
  obtain ⟨hx, hb, hml, hown, hts, hN, hK, hD, hA⟩ := id C
  have hf : (some (w0, t)) = some (r, u) := hf
  obtain ⟨e_42, e2_42⟩ := fb_e hf
  subst e_42; subst e2_42
  exact hr trivial _ _ _ _ hP hS dX9_number_42
set_option maxRecDepth 20000 in
theorem w_X_X9_number__8_36 {p : Program} {l : Launch} {e : Env} {s : State} {m : MethodId} {args : Array Value} {below : List Frame} {meth : Method} {c : Code} {A : Nat → Prop} {Q : State → Prop} {D : va_G} {ca : Nat → ClassId} {a : Nat → Nat} {u : fw_S} {r : Int64}  (C : CX (WX ca a) D (tyv ca) p s m args c A prog_11_method_12_code 4 RX9) (hr : True → RX (WX ca a) D p l e rm_X_X9_number__8 s m args below meth c A prog_11_method_12_code Q .lreturn [.long r] u) {t : fw_S} {x3 : Int32} {H : Heap} {locs : List Loc} {ls : Array Slot} (hf : b_X_X9_number__8_36  t x3 = some (r, u)) (hP : va_P D classes (WX ca a t) H) (hS : va_S A s.heap H locs) (hl : lv_has ls 4 [(0, .ref (a 8)), (3, .int x3)]) : W p l e rm_X_X9_number__8 s m args below meth c H locs 0 0 Q (F0 m 36 ls []) := by
  obtain ⟨hx, hb, hml, hown, hts, hN, hK, hD, hA⟩ := id C
  have hf : (fb_g (¬ (x3 < 0 ∨ 60 ≤ x3.toNatClampNeg)) (b_X_X9_number__8_42 t (st_G t 9 x3.toNatClampNeg))) = some (r, u) := hf
  refine lv_aload_n hx hb dX9_number_36 rfl (lv_at hl 0 rfl) ?_
  refine va_get (D := D) (ci := 9) (v := .ref (a 56)) (C := RX9) (T := TX9) (N := 12) hx hb hts inX9 hown hK hP 8 (heX_8 ca a t) rfl 9 (by decide) (hts _ kw_285) (fun _ h9 => h9) rfl dX9_number_37 ?_
  refine lv_iload_n hx hb dX9_number_40 rfl (lv_at hl 1 rfl) ?_
  obtain ⟨h_41, hf⟩ := fb_if hf
  refine va_lald hx hb hK hP 56 1 (haX_56 ca a t) rfl h_41 dX9_number_41 ?_
  exact w_X_X9_number__8_42 C hr hf hP hS (lv_sub hl [] rfl)
set_option maxRecDepth 20000 in
theorem w_X_X9_number__8_27 {p : Program} {l : Launch} {e : Env} {s : State} {m : MethodId} {args : Array Value} {below : List Frame} {meth : Method} {c : Code} {A : Nat → Prop} {Q : State → Prop} {D : va_G} {ca : Nat → ClassId} {a : Nat → Nat} {u : fw_S} {r : Int64}  (C : CX (WX ca a) D (tyv ca) p s m args c A prog_11_method_12_code 4 RX9) (hr : True → RX (WX ca a) D p l e rm_X_X9_number__8 s m args below meth c A prog_11_method_12_code Q .lreturn [.long r] u) {t : fw_S} {x3 : Int32} {H : Heap} {locs : List Loc} {ls : Array Slot} (hf : b_X_X9_number__8_27  t x3 = some (r, u)) (hP : va_P D classes (WX ca a t) H) (hS : va_S A s.heap H locs) (hl : lv_has ls 4 [(0, .ref (a 8)), (3, .int x3)]) : W p l e rm_X_X9_number__8 s m args below meth c H locs 0 0 Q (F0 m 27 ls []) := by
  obtain ⟨hx, hb, hml, hown, hts, hN, hK, hD, hA⟩ := id C
  have hf : (fb_g (¬ (x3 < 0 ∨ 60 ≤ x3.toNatClampNeg)) (b_X_X9_number__8_42 t (st_G t 8 x3.toNatClampNeg))) = some (r, u) := hf
  refine lv_aload_n hx hb dX9_number_27 rfl (lv_at hl 0 rfl) ?_
  refine va_get (D := D) (ci := 9) (v := .ref (a 55)) (C := RX9) (T := TX9) (N := 12) hx hb hts inX9 hown hK hP 8 (heX_8 ca a t) rfl 8 (by decide) (hts _ kw_284) (fun _ h9 => h9) rfl dX9_number_28 ?_
  refine lv_iload_n hx hb dX9_number_31 rfl (lv_at hl 1 rfl) ?_
  obtain ⟨h_32, hf⟩ := fb_if hf
  refine va_lald hx hb hK hP 55 1 (haX_55 ca a t) rfl h_32 dX9_number_32 ?_
  refine lv_goto (tgt := 42) hx hb dX9_number_33 (by decide) ?_
  exact w_X_X9_number__8_42 C hr hf hP hS (lv_sub hl [] rfl)
set_option maxRecDepth 20000 in
theorem w_X_X9_number__8_23 {p : Program} {l : Launch} {e : Env} {s : State} {m : MethodId} {args : Array Value} {below : List Frame} {meth : Method} {c : Code} {A : Nat → Prop} {Q : State → Prop} {D : va_G} {ca : Nat → ClassId} {a : Nat → Nat} {u : fw_S} {r : Int64}  (C : CX (WX ca a) D (tyv ca) p s m args c A prog_11_method_12_code 4 RX9) (hr : True → RX (WX ca a) D p l e rm_X_X9_number__8 s m args below meth c A prog_11_method_12_code Q .lreturn [.long r] u) {t : fw_S} {x2 : Int32} {x3 : Int32} {H : Heap} {locs : List Loc} {ls : Array Slot} (hf : b_X_X9_number__8_23  t x2 x3 = some (r, u)) (hP : va_P D classes (WX ca a t) H) (hS : va_S A s.heap H locs) (hl : lv_has ls 4 [(0, .ref (a 8)), (2, .int x2), (3, .int x3)]) : W p l e rm_X_X9_number__8 s m args below meth c H locs 0 0 Q (F0 m 23 ls []) := by
  obtain ⟨hx, hb, hml, hown, hts, hN, hK, hD, hA⟩ := id C
  have hf : (if x2 = 0 then b_X_X9_number__8_27 t x3 else b_X_X9_number__8_36 t x3) = some (r, u) := hf
  refine lv_iload_n hx hb dX9_number_23 rfl (lv_at hl 1 rfl) ?_
  refine lv_if_ne (tgt := 36) hx hb dX9_number_24 (by decide) (fun h_24 => ?_) (fun h_24 => ?_)
  · have hf := fb_f h_24 hf
    exact w_X_X9_number__8_36 C hr hf hP hS (lv_sub hl [0, 2] rfl)
  · have hf := fb_t h_24 hf
    exact w_X_X9_number__8_27 C hr hf hP hS (lv_sub hl [0, 2] rfl)
set_option maxRecDepth 20000 in
theorem w_X_X9_number__8_14 {p : Program} {l : Launch} {e : Env} {s : State} {m : MethodId} {args : Array Value} {below : List Frame} {meth : Method} {c : Code} {A : Nat → Prop} {Q : State → Prop} {D : va_G} {ca : Nat → ClassId} {a : Nat → Nat} {u : fw_S} {r : Int64}  (C : CX (WX ca a) D (tyv ca) p s m args c A prog_11_method_12_code 4 RX9) (hr : True → RX (WX ca a) D p l e rm_X_X9_number__8 s m args below meth c A prog_11_method_12_code Q .lreturn [.long r] u) {t : fw_S} {x2 : Int32} {x3 : Int32} {H : Heap} {locs : List Loc} {ls : Array Slot} (hf : b_X_X9_number__8_14  t x2 x3 = some (r, u)) (hP : va_P D classes (WX ca a t) H) (hS : va_S A s.heap H locs) (hl : lv_has ls 4 [(0, .ref (a 8)), (2, .int x2), (3, .int x3)]) : W p l e rm_X_X9_number__8 s m args below meth c H locs 0 0 Q (F0 m 14 ls []) := by
  obtain ⟨hx, hb, hml, hown, hts, hN, hK, hD, hA⟩ := id C
  have hf : (if x2 ≤ ((1 : Int32)) then b_X_X9_number__8_23 t x2 x3 else b_X_X9_number__8_19 t) = some (r, u) := hf
  refine lv_iload_n hx hb dX9_number_14 rfl (lv_at hl 1 rfl) ?_
  refine lv_iconst (v := 1) hx hb dX9_number_15 (by decide) ?_
  refine lv_icmp_le (tgt := 23) hx hb dX9_number_16 (by decide) (fun h_16 => ?_) (fun h_16 => ?_)
  · have hf := fb_t h_16 hf
    exact w_X_X9_number__8_23 C hr hf hP hS (lv_sub hl [0, 1, 2] rfl)
  · have hf := fb_f h_16 hf
    exact w_X_X9_number__8_19 C hr hf hP hS (lv_sub hl [] rfl)
set_option maxRecDepth 20000 in
theorem w_X_X9_number__8_10 {p : Program} {l : Launch} {e : Env} {s : State} {m : MethodId} {args : Array Value} {below : List Frame} {meth : Method} {c : Code} {A : Nat → Prop} {Q : State → Prop} {D : va_G} {ca : Nat → ClassId} {a : Nat → Nat} {u : fw_S} {r : Int64}  (C : CX (WX ca a) D (tyv ca) p s m args c A prog_11_method_12_code 4 RX9) (hr : True → RX (WX ca a) D p l e rm_X_X9_number__8 s m args below meth c A prog_11_method_12_code Q .lreturn [.long r] u) {t : fw_S} {x2 : Int32} {x3 : Int32} {H : Heap} {locs : List Loc} {ls : Array Slot} (hf : b_X_X9_number__8_10  t x2 x3 = some (r, u)) (hP : va_P D classes (WX ca a t) H) (hS : va_S A s.heap H locs) (hl : lv_has ls 4 [(0, .ref (a 8)), (2, .int x2), (3, .int x3)]) : W p l e rm_X_X9_number__8 s m args below meth c H locs 0 0 Q (F0 m 10 ls []) := by
  obtain ⟨hx, hb, hml, hown, hts, hN, hK, hD, hA⟩ := id C
  have hf : (if x2 < 0 then b_X_X9_number__8_19 t else b_X_X9_number__8_14 t x2 x3) = some (r, u) := hf
  refine lv_iload_n hx hb dX9_number_10 rfl (lv_at hl 1 rfl) ?_
  refine lv_if_lt (tgt := 19) hx hb dX9_number_11 (by decide) (fun h_11 => ?_) (fun h_11 => ?_)
  · have hf := fb_t h_11 hf
    exact w_X_X9_number__8_19 C hr hf hP hS (lv_sub hl [] rfl)
  · have hf := fb_f h_11 hf
    exact w_X_X9_number__8_14 C hr hf hP hS (lv_sub hl [0, 1, 2] rfl)
set_option maxRecDepth 20000 in
theorem w_X_X9_number__8_0 {p : Program} {l : Launch} {e : Env} {s : State} {m : MethodId} {args : Array Value} {below : List Frame} {meth : Method} {c : Code} {A : Nat → Prop} {Q : State → Prop} {D : va_G} {ca : Nat → ClassId} {a : Nat → Nat} {u : fw_S} {r : Int64}  (C : CX (WX ca a) D (tyv ca) p s m args c A prog_11_method_12_code 4 RX9) (hr : True → RX (WX ca a) D p l e rm_X_X9_number__8 s m args below meth c A prog_11_method_12_code Q .lreturn [.long r] u) {t : fw_S} {x1 : Int32} {x2 : Int32} {H : Heap} {locs : List Loc} {ls : Array Slot} (hf : b_X_X9_number__8_0  t x1 x2 = some (r, u)) (hP : va_P D classes (WX ca a t) H) (hS : va_S A s.heap H locs) (hl : lv_has ls 4 [(0, .ref (a 8)), (1, .int x1), (2, .int x2)]) : W p l e rm_X_X9_number__8 s m args below meth c H locs 0 0 Q (F0 m 0 ls []) := by
  obtain ⟨hx, hb, hml, hown, hts, hN, hK, hD, hA⟩ := id C
  have hf : (fb_b (f_X_X9_placeOf__8 t x1) fun v_2 t_1 => (if v_2 < 0 then b_X_X9_number__8_19 t_1 else b_X_X9_number__8_10 t_1 x2 v_2)) = some (r, u) := hf
  refine lv_aload_n hx hb dX9_number_0 rfl (lv_at hl 0 rfl) ?_
  refine lv_iload_n hx hb dX9_number_1 rfl (lv_at hl 1 rfl) ?_
  obtain ⟨v_2, t_1, g_2, hf⟩ := fb_bs hf
  refine fw_V1 (As := [.int x1]) (rest := []) (n := 1) (q0 := 8) C (c_X_X9_placeOf__8 (l := l) (D := D) (ca := ca) (a := a) g_2) kw_1051 kw_1053 kw_98 kw_1054 kw_43 hP hS hl (heX_8 ca a t) rfl rfl rfl (by decide) (by decide +kernel) ⟨Nat.le_of_ble_eq_true rfl, Nat.le_of_ble_eq_true rfl⟩ rfl rfl (Nat.le_of_ble_eq_true rfl) dX9_number_2 (fun H locs hP hS => ?_)
  refine W.eq (g2 := F0 m 5 ls [.int v_2]) rfl ?_
  refine lv_istore_n (lv' := [(3, .int v_2), (0, .ref (a 8)), (1, .int x1), (2, .int x2)]) hx hb dX9_number_5 rfl hl (by decide) rfl (fun ls hl => ?_)
  refine lv_iload_n hx hb dX9_number_6 rfl (lv_at hl 0 rfl) ?_
  refine lv_if_lt (tgt := 19) hx hb dX9_number_7 (by decide) (fun h_7 => ?_) (fun h_7 => ?_)
  · have hf := fb_t h_7 hf
    exact w_X_X9_number__8_19 C hr hf hP hS (lv_sub hl [] rfl)
  · have hf := fb_f h_7 hf
    exact w_X_X9_number__8_10 C hr hf hP hS (lv_sub hl [1, 3, 0] rfl)
set_option maxRecDepth 20000 in
theorem c_X_X9_number__8 {l : Launch} {D : va_G} {ca : Nat → ClassId} {a : Nat → Nat} {t : fw_S} {x1 : Int32} {x2 : Int32} {u : fw_S} {r : Int64} (hf : f_X_X9_number__8 t x1 x2 = some (r, u)) : MC (WX ca a) D (tyv ca) l yX9_number (.code yX9_number prog_11_method_12_code 4 (some .long) :: lw_gd) rm_X_X9_number__8 [.ref (a 8), .int x1, .int x2] (some (.long r)) t u := by
  refine fw_met (okX ca a) (by decide +kernel) rfl rfl (Nat.le_of_ble_eq_true rfl) ?_
  intro p e s m args below meth c A Q ls C hr hk hP hS hl hQ
  exact w_X_X9_number__8_0 C (fun _ => fw_rl C hr hk hQ) hf hP hS (lv_sub hl [0, 1, 2] rfl)
/-! ReactiveSheet.logged(II)J ['x'] -/
abbrev rm_X_X10_logged__0 : Room := { frames := 3, cells := 0, slots := 0, locals := 66 }
def b_X_X10_logged__0_0  (t : fw_S) (x1 : Int32) (x2 : Int32) : Option (Int64 × fw_S) := fb_b (f_X_X9_number__8 t x1 x2) fun v_2 t_1 => (some (v_2, t_1))
def f_X_X10_logged__0 (t : fw_S) (x1 : Int32) (x2 : Int32) : Option (Int64 × fw_S) := b_X_X10_logged__0_0 t x1 x2
set_option maxRecDepth 20000 in
theorem w_X_X10_logged__0_0 {p : Program} {l : Launch} {e : Env} {s : State} {m : MethodId} {args : Array Value} {below : List Frame} {meth : Method} {c : Code} {A : Nat → Prop} {Q : State → Prop} {D : va_G} {ca : Nat → ClassId} {a : Nat → Nat} {u : fw_S} {r : Int64}  (C : CX (WX ca a) D (tyv ca) p s m args c A prog_1_method_27_code 3 RX10) (hr : True → RX (WX ca a) D p l e rm_X_X10_logged__0 s m args below meth c A prog_1_method_27_code Q .lreturn [.long r] u) {t : fw_S} {x1 : Int32} {x2 : Int32} {H : Heap} {locs : List Loc} {ls : Array Slot} (hf : b_X_X10_logged__0_0  t x1 x2 = some (r, u)) (hP : va_P D classes (WX ca a t) H) (hS : va_S A s.heap H locs) (hl : lv_has ls 3 [(0, .ref (a 0)), (1, .int x1), (2, .int x2)]) : W p l e rm_X_X10_logged__0 s m args below meth c H locs 0 0 Q (F0 m 0 ls []) := by
  obtain ⟨hx, hb, hml, hown, hts, hN, hK, hD, hA⟩ := id C
  have hf : (fb_b (f_X_X9_number__8 t x1 x2) fun v_2 t_1 => (some (v_2, t_1))) = some (r, u) := hf
  refine lv_aload_n hx hb dX10_logged_0 rfl (lv_at hl 0 rfl) ?_
  refine va_get (D := D) (ci := 10) (v := .ref (a 8)) (C := RX10) (T := TX10) (N := 13) hx hb hts inX10 hown hK hP 0 (heX_0 ca a t) rfl 5 (by decide) (hts _ kw_359) (fun _ h9 => h9) rfl dX10_logged_1 ?_
  refine lv_iload_n hx hb dX10_logged_4 rfl (lv_at hl 1 rfl) ?_
  refine lv_iload_n hx hb dX10_logged_5 rfl (lv_at hl 2 rfl) ?_
  obtain ⟨v_2, t_1, g_6, hf⟩ := fb_bs hf
  refine fw_V1 (As := [.int x1, .int x2]) (rest := []) (n := 2) (q0 := 8) C (c_X_X9_number__8 (l := l) (D := D) (ca := ca) (a := a) g_6) kw_1060 kw_1061 kw_98 kw_1063 kw_1062 hP hS hl (heX_8 ca a t) rfl rfl rfl (by decide) (by decide +kernel) ⟨Nat.le_of_ble_eq_true rfl, Nat.le_of_ble_eq_true rfl⟩ rfl rfl (Nat.le_of_ble_eq_true rfl) dX10_logged_6 (fun H locs hP hS => ?_)
  refine W.eq (g2 := F0 m 9 ls [.long v_2]) rfl ?_
  obtain ⟨e_9, e2_9⟩ := fb_e hf
  subst e_9; subst e2_9
  exact hr trivial _ _ _ _ hP hS dX10_logged_9
set_option maxRecDepth 20000 in
theorem c_X_X10_logged__0 {l : Launch} {D : va_G} {ca : Nat → ClassId} {a : Nat → Nat} {t : fw_S} {x1 : Int32} {x2 : Int32} {u : fw_S} {r : Int64} (hf : f_X_X10_logged__0 t x1 x2 = some (r, u)) : MC (WX ca a) D (tyv ca) l yX10_logged (.code yX10_logged prog_1_method_27_code 3 (some .long) :: lw_gd) rm_X_X10_logged__0 [.ref (a 0), .int x1, .int x2] (some (.long r)) t u := by
  refine fw_met (okX ca a) (by decide +kernel) rfl rfl (Nat.le_of_ble_eq_true rfl) ?_
  intro p e s m args below meth c A Q ls C hr hk hP hS hl hQ
  exact w_X_X10_logged__0_0 C (fun _ => fw_rl C hr hk hQ) hf hP hS (lv_sub hl [0, 1, 2] rfl)
/-! ReactiveSheet.Cells.greatestHeight()I ['x.engine.now'] -/
abbrev rm_X_X0_greatestHeight__4 : Room := { frames := 1, cells := 0, slots := 0, locals := 21 }
def b_X_X0_greatestHeight__4_27  (t : fw_S) (x1 : Int32) : Option (Int32 × fw_S) := some (x1, t)
def b_X_X0_greatestHeight__4_10 (k4 : fw_S → Int32 → Int32 → Option (Int32 × fw_S)) (t : fw_S) (x1 : Int32) (x2 : Int32) : Option (Int32 × fw_S) := fb_g (¬ (x2 < 0 ∨ 32 ≤ x2.toNatClampNeg)) (fb_b (f_X_J9_max_7cf53 t x1 (st_F t 11 x2.toNatClampNeg)) fun v_2 t_1 => (k4 t_1 v_2 (x2 + 1)))
def b_X_X0_greatestHeight__4_4  : Nat → (fw_S → Int32 → Int32 → Option (Int32 × fw_S))
  | 0 => fun _ _ _ => none
  | n + 1 => fun t x1 x2 => if ((32 : Int32)) ≤ x2 then b_X_X0_greatestHeight__4_27 t x1 else b_X_X0_greatestHeight__4_10 (b_X_X0_greatestHeight__4_4 n) t x1 x2
def b_X_X0_greatestHeight__4_0  (t : fw_S)  : Option (Int32 × fw_S) := b_X_X0_greatestHeight__4_4 3000 t ((0 : Int32)) ((0 : Int32))
def f_X_X0_greatestHeight__4 (t : fw_S)  : Option (Int32 × fw_S) := b_X_X0_greatestHeight__4_0 t 
set_option maxRecDepth 20000 in
theorem w_X_X0_greatestHeight__4_27 {p : Program} {l : Launch} {e : Env} {s : State} {m : MethodId} {args : Array Value} {below : List Frame} {meth : Method} {c : Code} {A : Nat → Prop} {Q : State → Prop} {D : va_G} {ca : Nat → ClassId} {a : Nat → Nat} {u : fw_S} {r : Int32}  (C : CX (WX ca a) D (tyv ca) p s m args c A prog_2_method_34_code 3 RX0) (hr : True → RX (WX ca a) D p l e rm_X_X0_greatestHeight__4 s m args below meth c A prog_2_method_34_code Q .ireturn [.int r] u) {t : fw_S} {x1 : Int32} {H : Heap} {locs : List Loc} {ls : Array Slot} (hf : b_X_X0_greatestHeight__4_27  t x1 = some (r, u)) (hP : va_P D classes (WX ca a t) H) (hS : va_S A s.heap H locs) (hl : lv_has ls 3 [(1, .int x1)]) : W p l e rm_X_X0_greatestHeight__4 s m args below meth c H locs 0 0 Q (F0 m 27 ls []) := by
  obtain ⟨hx, hb, hml, hown, hts, hN, hK, hD, hA⟩ := id C
  have hf : (some (x1, t)) = some (r, u) := hf
  refine lv_iload_n hx hb dX0_greatestHeight_27 rfl (lv_at hl 0 rfl) ?_
  obtain ⟨e_28, e2_28⟩ := fb_e hf
  subst e_28; subst e2_28
  exact hr trivial _ _ _ _ hP hS dX0_greatestHeight_28
set_option maxRecDepth 20000 in
theorem w_X_X0_greatestHeight__4_10 {p : Program} {l : Launch} {e : Env} {s : State} {m : MethodId} {args : Array Value} {below : List Frame} {meth : Method} {c : Code} {A : Nat → Prop} {Q : State → Prop} {D : va_G} {ca : Nat → ClassId} {a : Nat → Nat} {u : fw_S} {r : Int32} {k4 : fw_S → Int32 → Int32 → Option (Int32 × fw_S)} (C : CX (WX ca a) D (tyv ca) p s m args c A prog_2_method_34_code 3 RX0) (hr : True → RX (WX ca a) D p l e rm_X_X0_greatestHeight__4 s m args below meth c A prog_2_method_34_code Q .ireturn [.int r] u) (hk4 : ∀ (t : fw_S) (x1 : Int32) (x2 : Int32) (H : Heap) (locs : List Loc) (ls : Array Slot), k4 t x1 x2 = some (r, u) → va_P D classes (WX ca a t) H → va_S A s.heap H locs → lv_has ls 3 [(0, .ref (a 4)), (1, .int x1), (2, .int x2)] → W p l e rm_X_X0_greatestHeight__4 s m args below meth c H locs 0 0 Q (F0 m 4 ls [])) {t : fw_S} {x1 : Int32} {x2 : Int32} {H : Heap} {locs : List Loc} {ls : Array Slot} (hf : b_X_X0_greatestHeight__4_10 k4 t x1 x2 = some (r, u)) (hP : va_P D classes (WX ca a t) H) (hS : va_S A s.heap H locs) (hl : lv_has ls 3 [(0, .ref (a 4)), (1, .int x1), (2, .int x2)]) : W p l e rm_X_X0_greatestHeight__4 s m args below meth c H locs 0 0 Q (F0 m 10 ls []) := by
  obtain ⟨hx, hb, hml, hown, hts, hN, hK, hD, hA⟩ := id C
  have hf : (fb_g (¬ (x2 < 0 ∨ 32 ≤ x2.toNatClampNeg)) (fb_b (f_X_J9_max_7cf53 t x1 (st_F t 11 x2.toNatClampNeg)) fun v_2 t_1 => (k4 t_1 v_2 (x2 + 1)))) = some (r, u) := hf
  refine lv_iload_n hx hb dX0_greatestHeight_10 rfl (lv_at hl 1 rfl) ?_
  refine lv_aload_n hx hb dX0_greatestHeight_11 rfl (lv_at hl 0 rfl) ?_
  refine va_get (D := D) (ci := 0) (v := .ref (a 27)) (C := RX0) (T := TX0) (N := 12) hx hb hts inX0 hown hK hP 4 (heX_4 ca a t) rfl 5 (by decide) (hts _ kw_192) (fun _ h9 => h9) rfl dX0_greatestHeight_12 ?_
  refine lv_iload_n hx hb dX0_greatestHeight_15 rfl (lv_at hl 2 rfl) ?_
  obtain ⟨h_16, hf⟩ := fb_if hf
  refine va_iald hx hb hK hP 27 0 (haX_27 ca a t) rfl h_16 dX0_greatestHeight_16 ?_
  obtain ⟨v_2, t_1, g_17, hf⟩ := fb_bs hf
  refine fw_S1 (As := [.int x1, .int (st_F t 11 x2.toNatClampNeg)]) (rest := []) (n := 2) C (c_X_J9_max_7cf53 (l := l) (D := D) (ca := ca) (a := a) g_17) kw_605 kw_606 kw_106 kw_607 hP hS hl rfl rfl (by decide) (by decide +kernel) ⟨Nat.le_of_ble_eq_true rfl, Nat.le_of_ble_eq_true rfl⟩ rfl rfl (Nat.le_of_ble_eq_true rfl) dX0_greatestHeight_17 (fun H locs hP hS => ?_)
  refine W.eq (g2 := F0 m 20 ls [.int v_2]) rfl ?_
  refine lv_istore_n (lv' := [(1, .int v_2), (0, .ref (a 4)), (2, .int x2)]) hx hb dX0_greatestHeight_20 rfl hl (by decide) rfl (fun ls hl => ?_)
  refine lv_iinc (v := x2 + 1) (lv' := [(2, .int (x2 + 1)), (1, .int v_2), (0, .ref (a 4))]) hx hb dX0_greatestHeight_21 hl (k := 2) rfl rfl (by decide) rfl (fun ls hl => ?_)
  refine lv_goto (tgt := 4) hx hb dX0_greatestHeight_24 (by decide) ?_
  exact hk4 t_1 v_2 (x2 + 1) _ _ _ hf hP hS (lv_sub hl [2, 1, 0] rfl)
set_option maxRecDepth 20000 in
theorem w_X_X0_greatestHeight__4_4 {p : Program} {l : Launch} {e : Env} {s : State} {m : MethodId} {args : Array Value} {below : List Frame} {meth : Method} {c : Code} {A : Nat → Prop} {Q : State → Prop} {D : va_G} {ca : Nat → ClassId} {a : Nat → Nat} {u : fw_S} {r : Int32}  (C : CX (WX ca a) D (tyv ca) p s m args c A prog_2_method_34_code 3 RX0) (hr : True → RX (WX ca a) D p l e rm_X_X0_greatestHeight__4 s m args below meth c A prog_2_method_34_code Q .ireturn [.int r] u) : ∀ (n : Nat) (t : fw_S) (x1 : Int32) (x2 : Int32) (H : Heap) (locs : List Loc) (ls : Array Slot), b_X_X0_greatestHeight__4_4  n t x1 x2 = some (r, u) → va_P D classes (WX ca a t) H → va_S A s.heap H locs → lv_has ls 3 [(0, .ref (a 4)), (1, .int x1), (2, .int x2)] → W p l e rm_X_X0_greatestHeight__4 s m args below meth c H locs 0 0 Q (F0 m 4 ls []) := by
  obtain ⟨hx, hb, hml, hown, hts, hN, hK, hD, hA⟩ := id C
  intro n
  induction n with
  | zero => intro t x1 x2 H locs ls hf; cases hf
  | succ n hk4 =>
    intro t x1 x2 H locs ls hf hP hS hl
    have hf : (if ((32 : Int32)) ≤ x2 then b_X_X0_greatestHeight__4_27 t x1 else b_X_X0_greatestHeight__4_10 (b_X_X0_greatestHeight__4_4 n) t x1 x2) = some (r, u) := hf
    refine lv_iload_n hx hb dX0_greatestHeight_4 rfl (lv_at hl 2 rfl) ?_
    refine lv_bipush (v := 32) hx hb dX0_greatestHeight_5 (by decide) ?_
    refine lv_icmp_ge (tgt := 27) hx hb dX0_greatestHeight_7 (by decide) (fun h_7 => ?_) (fun h_7 => ?_)
    · have hf := fb_t h_7 hf
      exact w_X_X0_greatestHeight__4_27 C hr hf hP hS (lv_sub hl [1] rfl)
    · have hf := fb_f h_7 hf
      exact w_X_X0_greatestHeight__4_10 C hr hk4 hf hP hS (lv_sub hl [0, 1, 2] rfl)
set_option maxRecDepth 20000 in
theorem w_X_X0_greatestHeight__4_0 {p : Program} {l : Launch} {e : Env} {s : State} {m : MethodId} {args : Array Value} {below : List Frame} {meth : Method} {c : Code} {A : Nat → Prop} {Q : State → Prop} {D : va_G} {ca : Nat → ClassId} {a : Nat → Nat} {u : fw_S} {r : Int32}  (C : CX (WX ca a) D (tyv ca) p s m args c A prog_2_method_34_code 3 RX0) (hr : True → RX (WX ca a) D p l e rm_X_X0_greatestHeight__4 s m args below meth c A prog_2_method_34_code Q .ireturn [.int r] u) {t : fw_S}  {H : Heap} {locs : List Loc} {ls : Array Slot} (hf : b_X_X0_greatestHeight__4_0  t  = some (r, u)) (hP : va_P D classes (WX ca a t) H) (hS : va_S A s.heap H locs) (hl : lv_has ls 3 [(0, .ref (a 4))]) : W p l e rm_X_X0_greatestHeight__4 s m args below meth c H locs 0 0 Q (F0 m 0 ls []) := by
  obtain ⟨hx, hb, hml, hown, hts, hN, hK, hD, hA⟩ := id C
  have hf : (b_X_X0_greatestHeight__4_4 3000 t ((0 : Int32)) ((0 : Int32))) = some (r, u) := hf
  refine lv_iconst (v := 0) hx hb dX0_greatestHeight_0 (by decide) ?_
  refine lv_istore_n (lv' := [(1, .int ((0 : Int32))), (0, .ref (a 4))]) hx hb dX0_greatestHeight_1 rfl hl (by decide) rfl (fun ls hl => ?_)
  refine lv_iconst (v := 0) hx hb dX0_greatestHeight_2 (by decide) ?_
  refine lv_istore_n (lv' := [(2, .int ((0 : Int32))), (1, .int ((0 : Int32))), (0, .ref (a 4))]) hx hb dX0_greatestHeight_3 rfl hl (by decide) rfl (fun ls hl => ?_)
  exact w_X_X0_greatestHeight__4_4 C hr 3000 t ((0 : Int32)) ((0 : Int32)) _ _ _ hf hP hS (lv_sub hl [2, 1, 0] rfl)
set_option maxRecDepth 20000 in
theorem c_X_X0_greatestHeight__4 {l : Launch} {D : va_G} {ca : Nat → ClassId} {a : Nat → Nat} {t : fw_S}  {u : fw_S} {r : Int32} (hf : f_X_X0_greatestHeight__4 t  = some (r, u)) : MC (WX ca a) D (tyv ca) l yX0_greatestHeight (.code yX0_greatestHeight prog_2_method_34_code 3 (some .int) :: lw_gd) rm_X_X0_greatestHeight__4 [.ref (a 4)] (some (.int r)) t u := by
  refine fw_met (okX ca a) (by decide +kernel) rfl rfl (Nat.le_of_ble_eq_true rfl) ?_
  intro p e s m args below meth c A Q ls C hr hk hP hS hl hQ
  exact w_X_X0_greatestHeight__4_0 C (fun _ => fw_ri C hr hk hQ) hf hP hS (lv_sub hl [0] rfl)
/-! ReactiveSheet.Speller.length()I ['x.speller'] -/
abbrev rm_X_X6_length__2 : Room := { frames := 0, cells := 0, slots := 0, locals := 0 }
def b_X_X6_length__2_0  (t : fw_S)  : Option (Int32 × fw_S) := some (st_I t 6, t)
def f_X_X6_length__2 (t : fw_S)  : Option (Int32 × fw_S) := b_X_X6_length__2_0 t 
set_option maxRecDepth 20000 in
theorem w_X_X6_length__2_0 {p : Program} {l : Launch} {e : Env} {s : State} {m : MethodId} {args : Array Value} {below : List Frame} {meth : Method} {c : Code} {A : Nat → Prop} {Q : State → Prop} {D : va_G} {ca : Nat → ClassId} {a : Nat → Nat} {u : fw_S} {r : Int32}  (C : CX (WX ca a) D (tyv ca) p s m args c A prog_8_method_2_code 1 RX6) (hr : True → RX (WX ca a) D p l e rm_X_X6_length__2 s m args below meth c A prog_8_method_2_code Q .ireturn [.int r] u) {t : fw_S}  {H : Heap} {locs : List Loc} {ls : Array Slot} (hf : b_X_X6_length__2_0  t  = some (r, u)) (hP : va_P D classes (WX ca a t) H) (hS : va_S A s.heap H locs) (hl : lv_has ls 1 [(0, .ref (a 2))]) : W p l e rm_X_X6_length__2 s m args below meth c H locs 0 0 Q (F0 m 0 ls []) := by
  obtain ⟨hx, hb, hml, hown, hts, hN, hK, hD, hA⟩ := id C
  have hf : (some (st_I t 6, t)) = some (r, u) := hf
  refine lv_aload_n hx hb dX6_length_0 rfl (lv_at hl 0 rfl) ?_
  refine va_get (D := D) (ci := 6) (v := .int (st_I t 6)) (C := RX6) (T := TX6) (N := 4) hx hb hts inX6 hown hK hP 2 (heX_2 ca a t) rfl 2 (by decide) (hts _ kw_162) (fun _ h9 => h9) rfl dX6_length_1 ?_
  obtain ⟨e_4, e2_4⟩ := fb_e hf
  subst e_4; subst e2_4
  exact hr trivial _ _ _ _ hP hS dX6_length_4
set_option maxRecDepth 20000 in
theorem c_X_X6_length__2 {l : Launch} {D : va_G} {ca : Nat → ClassId} {a : Nat → Nat} {t : fw_S}  {u : fw_S} {r : Int32} (hf : f_X_X6_length__2 t  = some (r, u)) : MC (WX ca a) D (tyv ca) l yX6_length (.code yX6_length prog_8_method_2_code 1 (some .int) :: lw_gd) rm_X_X6_length__2 [.ref (a 2)] (some (.int r)) t u := by
  refine fw_met (okX ca a) (by decide +kernel) rfl rfl (Nat.le_of_ble_eq_true rfl) ?_
  intro p e s m args below meth c A Q ls C hr hk hP hS hl hQ
  exact w_X_X6_length__2_0 C (fun _ => fw_ri C hr hk hQ) hf hP hS (lv_sub hl [0] rfl)
/-! ReactiveSheet.Watching.entries()I ['x.watching'] -/
abbrev rm_X_X9_entries__8 : Room := { frames := 0, cells := 0, slots := 0, locals := 0 }
def b_X_X9_entries__8_0  (t : fw_S)  : Option (Int32 × fw_S) := some (st_I t 11, t)
def f_X_X9_entries__8 (t : fw_S)  : Option (Int32 × fw_S) := b_X_X9_entries__8_0 t 
set_option maxRecDepth 20000 in
theorem w_X_X9_entries__8_0 {p : Program} {l : Launch} {e : Env} {s : State} {m : MethodId} {args : Array Value} {below : List Frame} {meth : Method} {c : Code} {A : Nat → Prop} {Q : State → Prop} {D : va_G} {ca : Nat → ClassId} {a : Nat → Nat} {u : fw_S} {r : Int32}  (C : CX (WX ca a) D (tyv ca) p s m args c A prog_11_method_6_code 1 RX9) (hr : True → RX (WX ca a) D p l e rm_X_X9_entries__8 s m args below meth c A prog_11_method_6_code Q .ireturn [.int r] u) {t : fw_S}  {H : Heap} {locs : List Loc} {ls : Array Slot} (hf : b_X_X9_entries__8_0  t  = some (r, u)) (hP : va_P D classes (WX ca a t) H) (hS : va_S A s.heap H locs) (hl : lv_has ls 1 [(0, .ref (a 8))]) : W p l e rm_X_X9_entries__8 s m args below meth c H locs 0 0 Q (F0 m 0 ls []) := by
  obtain ⟨hx, hb, hml, hown, hts, hN, hK, hD, hA⟩ := id C
  have hf : (some (st_I t 11, t)) = some (r, u) := hf
  refine lv_aload_n hx hb dX9_entries_0 rfl (lv_at hl 0 rfl) ?_
  refine va_get (D := D) (ci := 9) (v := .int (st_I t 11)) (C := RX9) (T := TX9) (N := 12) hx hb hts inX9 hown hK hP 8 (heX_8 ca a t) rfl 11 (by decide) (hts _ kw_287) (fun _ h9 => h9) rfl dX9_entries_1 ?_
  obtain ⟨e_4, e2_4⟩ := fb_e hf
  subst e_4; subst e2_4
  exact hr trivial _ _ _ _ hP hS dX9_entries_4
set_option maxRecDepth 20000 in
theorem c_X_X9_entries__8 {l : Launch} {D : va_G} {ca : Nat → ClassId} {a : Nat → Nat} {t : fw_S}  {u : fw_S} {r : Int32} (hf : f_X_X9_entries__8 t  = some (r, u)) : MC (WX ca a) D (tyv ca) l yX9_entries (.code yX9_entries prog_11_method_6_code 1 (some .int) :: lw_gd) rm_X_X9_entries__8 [.ref (a 8)] (some (.int r)) t u := by
  refine fw_met (okX ca a) (by decide +kernel) rfl rfl (Nat.le_of_ble_eq_true rfl) ?_
  intro p e s m args below meth c A Q ls C hr hk hP hS hl hQ
  exact w_X_X9_entries__8_0 C (fun _ => fw_ri C hr hk hQ) hf hP hS (lv_sub hl [0] rfl)
/-! ReactiveSheet.Watching.joined()I ['x.watching'] -/
abbrev rm_X_X9_joined__8 : Room := { frames := 0, cells := 0, slots := 0, locals := 0 }
def b_X_X9_joined__8_0  (t : fw_S)  : Option (Int32 × fw_S) := some (st_I t 9, t)
def f_X_X9_joined__8 (t : fw_S)  : Option (Int32 × fw_S) := b_X_X9_joined__8_0 t 
set_option maxRecDepth 20000 in
theorem w_X_X9_joined__8_0 {p : Program} {l : Launch} {e : Env} {s : State} {m : MethodId} {args : Array Value} {below : List Frame} {meth : Method} {c : Code} {A : Nat → Prop} {Q : State → Prop} {D : va_G} {ca : Nat → ClassId} {a : Nat → Nat} {u : fw_S} {r : Int32}  (C : CX (WX ca a) D (tyv ca) p s m args c A prog_11_method_5_code 1 RX9) (hr : True → RX (WX ca a) D p l e rm_X_X9_joined__8 s m args below meth c A prog_11_method_5_code Q .ireturn [.int r] u) {t : fw_S}  {H : Heap} {locs : List Loc} {ls : Array Slot} (hf : b_X_X9_joined__8_0  t  = some (r, u)) (hP : va_P D classes (WX ca a t) H) (hS : va_S A s.heap H locs) (hl : lv_has ls 1 [(0, .ref (a 8))]) : W p l e rm_X_X9_joined__8 s m args below meth c H locs 0 0 Q (F0 m 0 ls []) := by
  obtain ⟨hx, hb, hml, hown, hts, hN, hK, hD, hA⟩ := id C
  have hf : (some (st_I t 9, t)) = some (r, u) := hf
  refine lv_aload_n hx hb dX9_joined_0 rfl (lv_at hl 0 rfl) ?_
  refine va_get (D := D) (ci := 9) (v := .int (st_I t 9)) (C := RX9) (T := TX9) (N := 12) hx hb hts inX9 hown hK hP 8 (heX_8 ca a t) rfl 3 (by decide) (hts _ kw_279) (fun _ h9 => h9) rfl dX9_joined_1 ?_
  obtain ⟨e_4, e2_4⟩ := fb_e hf
  subst e_4; subst e2_4
  exact hr trivial _ _ _ _ hP hS dX9_joined_4
set_option maxRecDepth 20000 in
theorem c_X_X9_joined__8 {l : Launch} {D : va_G} {ca : Nat → ClassId} {a : Nat → Nat} {t : fw_S}  {u : fw_S} {r : Int32} (hf : f_X_X9_joined__8 t  = some (r, u)) : MC (WX ca a) D (tyv ca) l yX9_joined (.code yX9_joined prog_11_method_5_code 1 (some .int) :: lw_gd) rm_X_X9_joined__8 [.ref (a 8)] (some (.int r)) t u := by
  refine fw_met (okX ca a) (by decide +kernel) rfl rfl (Nat.le_of_ble_eq_true rfl) ?_
  intro p e s m args below meth c A Q ls C hr hk hP hS hl hQ
  exact w_X_X9_joined__8_0 C (fun _ => fw_ri C hr hk hQ) hf hP hS (lv_sub hl [0] rfl)
/-! ReactiveSheet.History.waves()I ['x.history'] -/
abbrev rm_X_X3_waves__9 : Room := { frames := 0, cells := 0, slots := 0, locals := 0 }
def b_X_X3_waves__9_0  (t : fw_S)  : Option (Int32 × fw_S) := some (st_I t 12, t)
def f_X_X3_waves__9 (t : fw_S)  : Option (Int32 × fw_S) := b_X_X3_waves__9_0 t 
set_option maxRecDepth 20000 in
theorem w_X_X3_waves__9_0 {p : Program} {l : Launch} {e : Env} {s : State} {m : MethodId} {args : Array Value} {below : List Frame} {meth : Method} {c : Code} {A : Nat → Prop} {Q : State → Prop} {D : va_G} {ca : Nat → ClassId} {a : Nat → Nat} {u : fw_S} {r : Int32}  (C : CX (WX ca a) D (tyv ca) p s m args c A prog_5_method_2_code 1 RX3) (hr : True → RX (WX ca a) D p l e rm_X_X3_waves__9 s m args below meth c A prog_5_method_2_code Q .ireturn [.int r] u) {t : fw_S}  {H : Heap} {locs : List Loc} {ls : Array Slot} (hf : b_X_X3_waves__9_0  t  = some (r, u)) (hP : va_P D classes (WX ca a t) H) (hS : va_S A s.heap H locs) (hl : lv_has ls 1 [(0, .ref (a 9))]) : W p l e rm_X_X3_waves__9 s m args below meth c H locs 0 0 Q (F0 m 0 ls []) := by
  obtain ⟨hx, hb, hml, hown, hts, hN, hK, hD, hA⟩ := id C
  have hf : (some (st_I t 12, t)) = some (r, u) := hf
  refine lv_aload_n hx hb dX3_waves_0 rfl (lv_at hl 0 rfl) ?_
  refine va_get (D := D) (ci := 3) (v := .int (st_I t 12)) (C := RX3) (T := TX3) (N := 2) hx hb hts inX3 hown hK hP 9 (heX_9 ca a t) rfl 1 (by decide) (hts _ kw_320) (fun _ h9 => h9) rfl dX3_waves_1 ?_
  obtain ⟨e_4, e2_4⟩ := fb_e hf
  subst e_4; subst e2_4
  exact hr trivial _ _ _ _ hP hS dX3_waves_4
set_option maxRecDepth 20000 in
theorem c_X_X3_waves__9 {l : Launch} {D : va_G} {ca : Nat → ClassId} {a : Nat → Nat} {t : fw_S}  {u : fw_S} {r : Int32} (hf : f_X_X3_waves__9 t  = some (r, u)) : MC (WX ca a) D (tyv ca) l yX3_waves (.code yX3_waves prog_5_method_2_code 1 (some .int) :: lw_gd) rm_X_X3_waves__9 [.ref (a 9)] (some (.int r)) t u := by
  refine fw_met (okX ca a) (by decide +kernel) rfl rfl (Nat.le_of_ble_eq_true rfl) ?_
  intro p e s m args below meth c A Q ls C hr hk hP hS hl hQ
  exact w_X_X3_waves__9_0 C (fun _ => fw_ri C hr hk hQ) hf hP hS (lv_sub hl [0] rfl)
/-! ReactiveSheet.Cells.allRuns()I ['x.engine.now'] -/
abbrev rm_X_X0_allRuns__4 : Room := { frames := 0, cells := 0, slots := 0, locals := 0 }
def b_X_X0_allRuns__4_25  (t : fw_S) (x1 : Int32) : Option (Int32 × fw_S) := some (x1, t)
def b_X_X0_allRuns__4_10 (k4 : fw_S → Int32 → Int32 → Option (Int32 × fw_S)) (t : fw_S) (x1 : Int32) (x2 : Int32) : Option (Int32 × fw_S) := fb_g (¬ (x2 < 0 ∨ 32 ≤ x2.toNatClampNeg)) (k4 t (x1 + (st_F t 10 x2.toNatClampNeg)) (x2 + 1))
def b_X_X0_allRuns__4_4  : Nat → (fw_S → Int32 → Int32 → Option (Int32 × fw_S))
  | 0 => fun _ _ _ => none
  | n + 1 => fun t x1 x2 => if ((32 : Int32)) ≤ x2 then b_X_X0_allRuns__4_25 t x1 else b_X_X0_allRuns__4_10 (b_X_X0_allRuns__4_4 n) t x1 x2
def b_X_X0_allRuns__4_0  (t : fw_S)  : Option (Int32 × fw_S) := b_X_X0_allRuns__4_4 3000 t ((0 : Int32)) ((0 : Int32))
def f_X_X0_allRuns__4 (t : fw_S)  : Option (Int32 × fw_S) := b_X_X0_allRuns__4_0 t 
set_option maxRecDepth 20000 in
theorem w_X_X0_allRuns__4_25 {p : Program} {l : Launch} {e : Env} {s : State} {m : MethodId} {args : Array Value} {below : List Frame} {meth : Method} {c : Code} {A : Nat → Prop} {Q : State → Prop} {D : va_G} {ca : Nat → ClassId} {a : Nat → Nat} {u : fw_S} {r : Int32}  (C : CX (WX ca a) D (tyv ca) p s m args c A prog_2_method_33_code 3 RX0) (hr : True → RX (WX ca a) D p l e rm_X_X0_allRuns__4 s m args below meth c A prog_2_method_33_code Q .ireturn [.int r] u) {t : fw_S} {x1 : Int32} {H : Heap} {locs : List Loc} {ls : Array Slot} (hf : b_X_X0_allRuns__4_25  t x1 = some (r, u)) (hP : va_P D classes (WX ca a t) H) (hS : va_S A s.heap H locs) (hl : lv_has ls 3 [(1, .int x1)]) : W p l e rm_X_X0_allRuns__4 s m args below meth c H locs 0 0 Q (F0 m 25 ls []) := by
  obtain ⟨hx, hb, hml, hown, hts, hN, hK, hD, hA⟩ := id C
  have hf : (some (x1, t)) = some (r, u) := hf
  refine lv_iload_n hx hb dX0_allRuns_25 rfl (lv_at hl 0 rfl) ?_
  obtain ⟨e_26, e2_26⟩ := fb_e hf
  subst e_26; subst e2_26
  exact hr trivial _ _ _ _ hP hS dX0_allRuns_26
set_option maxRecDepth 20000 in
theorem w_X_X0_allRuns__4_10 {p : Program} {l : Launch} {e : Env} {s : State} {m : MethodId} {args : Array Value} {below : List Frame} {meth : Method} {c : Code} {A : Nat → Prop} {Q : State → Prop} {D : va_G} {ca : Nat → ClassId} {a : Nat → Nat} {u : fw_S} {r : Int32} {k4 : fw_S → Int32 → Int32 → Option (Int32 × fw_S)} (C : CX (WX ca a) D (tyv ca) p s m args c A prog_2_method_33_code 3 RX0) (hr : True → RX (WX ca a) D p l e rm_X_X0_allRuns__4 s m args below meth c A prog_2_method_33_code Q .ireturn [.int r] u) (hk4 : ∀ (t : fw_S) (x1 : Int32) (x2 : Int32) (H : Heap) (locs : List Loc) (ls : Array Slot), k4 t x1 x2 = some (r, u) → va_P D classes (WX ca a t) H → va_S A s.heap H locs → lv_has ls 3 [(0, .ref (a 4)), (1, .int x1), (2, .int x2)] → W p l e rm_X_X0_allRuns__4 s m args below meth c H locs 0 0 Q (F0 m 4 ls [])) {t : fw_S} {x1 : Int32} {x2 : Int32} {H : Heap} {locs : List Loc} {ls : Array Slot} (hf : b_X_X0_allRuns__4_10 k4 t x1 x2 = some (r, u)) (hP : va_P D classes (WX ca a t) H) (hS : va_S A s.heap H locs) (hl : lv_has ls 3 [(0, .ref (a 4)), (1, .int x1), (2, .int x2)]) : W p l e rm_X_X0_allRuns__4 s m args below meth c H locs 0 0 Q (F0 m 10 ls []) := by
  obtain ⟨hx, hb, hml, hown, hts, hN, hK, hD, hA⟩ := id C
  have hf : (fb_g (¬ (x2 < 0 ∨ 32 ≤ x2.toNatClampNeg)) (k4 t (x1 + (st_F t 10 x2.toNatClampNeg)) (x2 + 1))) = some (r, u) := hf
  refine lv_iload_n hx hb dX0_allRuns_10 rfl (lv_at hl 1 rfl) ?_
  refine lv_aload_n hx hb dX0_allRuns_11 rfl (lv_at hl 0 rfl) ?_
  refine va_get (D := D) (ci := 0) (v := .ref (a 26)) (C := RX0) (T := TX0) (N := 12) hx hb hts inX0 hown hK hP 4 (heX_4 ca a t) rfl 4 (by decide) (hts _ kw_191) (fun _ h9 => h9) rfl dX0_allRuns_12 ?_
  refine lv_iload_n hx hb dX0_allRuns_15 rfl (lv_at hl 2 rfl) ?_
  obtain ⟨h_16, hf⟩ := fb_if hf
  refine va_iald hx hb hK hP 26 0 (haX_26 ca a t) rfl h_16 dX0_allRuns_16 ?_
  refine lv_iadd hx hb dX0_allRuns_17 ?_
  refine lv_istore_n (lv' := [(1, .int (x1 + (st_F t 10 x2.toNatClampNeg))), (0, .ref (a 4)), (2, .int x2)]) hx hb dX0_allRuns_18 rfl hl (by decide) rfl (fun ls hl => ?_)
  refine lv_iinc (v := x2 + 1) (lv' := [(2, .int (x2 + 1)), (1, .int (x1 + (st_F t 10 x2.toNatClampNeg))), (0, .ref (a 4))]) hx hb dX0_allRuns_19 hl (k := 2) rfl rfl (by decide) rfl (fun ls hl => ?_)
  refine lv_goto (tgt := 4) hx hb dX0_allRuns_22 (by decide) ?_
  exact hk4 t (x1 + (st_F t 10 x2.toNatClampNeg)) (x2 + 1) _ _ _ hf hP hS (lv_sub hl [2, 1, 0] rfl)
set_option maxRecDepth 20000 in
theorem w_X_X0_allRuns__4_4 {p : Program} {l : Launch} {e : Env} {s : State} {m : MethodId} {args : Array Value} {below : List Frame} {meth : Method} {c : Code} {A : Nat → Prop} {Q : State → Prop} {D : va_G} {ca : Nat → ClassId} {a : Nat → Nat} {u : fw_S} {r : Int32}  (C : CX (WX ca a) D (tyv ca) p s m args c A prog_2_method_33_code 3 RX0) (hr : True → RX (WX ca a) D p l e rm_X_X0_allRuns__4 s m args below meth c A prog_2_method_33_code Q .ireturn [.int r] u) : ∀ (n : Nat) (t : fw_S) (x1 : Int32) (x2 : Int32) (H : Heap) (locs : List Loc) (ls : Array Slot), b_X_X0_allRuns__4_4  n t x1 x2 = some (r, u) → va_P D classes (WX ca a t) H → va_S A s.heap H locs → lv_has ls 3 [(0, .ref (a 4)), (1, .int x1), (2, .int x2)] → W p l e rm_X_X0_allRuns__4 s m args below meth c H locs 0 0 Q (F0 m 4 ls []) := by
  obtain ⟨hx, hb, hml, hown, hts, hN, hK, hD, hA⟩ := id C
  intro n
  induction n with
  | zero => intro t x1 x2 H locs ls hf; cases hf
  | succ n hk4 =>
    intro t x1 x2 H locs ls hf hP hS hl
    have hf : (if ((32 : Int32)) ≤ x2 then b_X_X0_allRuns__4_25 t x1 else b_X_X0_allRuns__4_10 (b_X_X0_allRuns__4_4 n) t x1 x2) = some (r, u) := hf
    refine lv_iload_n hx hb dX0_allRuns_4 rfl (lv_at hl 2 rfl) ?_
    refine lv_bipush (v := 32) hx hb dX0_allRuns_5 (by decide) ?_
    refine lv_icmp_ge (tgt := 25) hx hb dX0_allRuns_7 (by decide) (fun h_7 => ?_) (fun h_7 => ?_)
    · have hf := fb_t h_7 hf
      exact w_X_X0_allRuns__4_25 C hr hf hP hS (lv_sub hl [1] rfl)
    · have hf := fb_f h_7 hf
      exact w_X_X0_allRuns__4_10 C hr hk4 hf hP hS (lv_sub hl [0, 1, 2] rfl)
set_option maxRecDepth 20000 in
theorem w_X_X0_allRuns__4_0 {p : Program} {l : Launch} {e : Env} {s : State} {m : MethodId} {args : Array Value} {below : List Frame} {meth : Method} {c : Code} {A : Nat → Prop} {Q : State → Prop} {D : va_G} {ca : Nat → ClassId} {a : Nat → Nat} {u : fw_S} {r : Int32}  (C : CX (WX ca a) D (tyv ca) p s m args c A prog_2_method_33_code 3 RX0) (hr : True → RX (WX ca a) D p l e rm_X_X0_allRuns__4 s m args below meth c A prog_2_method_33_code Q .ireturn [.int r] u) {t : fw_S}  {H : Heap} {locs : List Loc} {ls : Array Slot} (hf : b_X_X0_allRuns__4_0  t  = some (r, u)) (hP : va_P D classes (WX ca a t) H) (hS : va_S A s.heap H locs) (hl : lv_has ls 3 [(0, .ref (a 4))]) : W p l e rm_X_X0_allRuns__4 s m args below meth c H locs 0 0 Q (F0 m 0 ls []) := by
  obtain ⟨hx, hb, hml, hown, hts, hN, hK, hD, hA⟩ := id C
  have hf : (b_X_X0_allRuns__4_4 3000 t ((0 : Int32)) ((0 : Int32))) = some (r, u) := hf
  refine lv_iconst (v := 0) hx hb dX0_allRuns_0 (by decide) ?_
  refine lv_istore_n (lv' := [(1, .int ((0 : Int32))), (0, .ref (a 4))]) hx hb dX0_allRuns_1 rfl hl (by decide) rfl (fun ls hl => ?_)
  refine lv_iconst (v := 0) hx hb dX0_allRuns_2 (by decide) ?_
  refine lv_istore_n (lv' := [(2, .int ((0 : Int32))), (1, .int ((0 : Int32))), (0, .ref (a 4))]) hx hb dX0_allRuns_3 rfl hl (by decide) rfl (fun ls hl => ?_)
  exact w_X_X0_allRuns__4_4 C hr 3000 t ((0 : Int32)) ((0 : Int32)) _ _ _ hf hP hS (lv_sub hl [2, 1, 0] rfl)
set_option maxRecDepth 20000 in
theorem c_X_X0_allRuns__4 {l : Launch} {D : va_G} {ca : Nat → ClassId} {a : Nat → Nat} {t : fw_S}  {u : fw_S} {r : Int32} (hf : f_X_X0_allRuns__4 t  = some (r, u)) : MC (WX ca a) D (tyv ca) l yX0_allRuns (.code yX0_allRuns prog_2_method_33_code 3 (some .int) :: lw_gd) rm_X_X0_allRuns__4 [.ref (a 4)] (some (.int r)) t u := by
  refine fw_met (okX ca a) (by decide +kernel) rfl rfl (Nat.le_of_ble_eq_true rfl) ?_
  intro p e s m args below meth c A Q ls C hr hk hP hS hl hQ
  exact w_X_X0_allRuns__4_0 C (fun _ => fw_ri C hr hk hQ) hf hP hS (lv_sub hl [0] rfl)
/-! ReactiveSheet.told(I)I ['x'] -/
abbrev rm_X_X10_told__0 : Room := { frames := 2, cells := 0, slots := 0, locals := 43 }
def b_X_X10_told__0_76  (t : fw_S)  : Option (Int32 × fw_S) := fb_b (f_X_X0_countOf__4 t ((1 : Int32))) fun v_2 t_1 => (some (v_2, t_1))
def b_X_X10_told__0_82  (t : fw_S)  : Option (Int32 × fw_S) := fb_b (f_X_X0_countOf__4 t ((2 : Int32))) fun v_2 t_1 => (some (v_2, t_1))
def b_X_X10_told__0_88  (t : fw_S)  : Option (Int32 × fw_S) := fb_b (f_X_X0_ranCount__4 t) fun v_2 t_1 => (some (v_2, t_1))
def b_X_X10_told__0_93  (t : fw_S)  : Option (Int32 × fw_S) := fb_b (f_X_X0_changedCount__4 t) fun v_2 t_1 => (some (v_2, t_1))
def b_X_X10_told__0_98  (t : fw_S)  : Option (Int32 × fw_S) := fb_b (f_X_X0_allRuns__4 t) fun v_2 t_1 => (some (v_2, t_1))
def b_X_X10_told__0_103  (t : fw_S)  : Option (Int32 × fw_S) := fb_b (f_X_X3_waves__9 t) fun v_2 t_1 => (some (v_2, t_1))
def b_X_X10_told__0_111  (t : fw_S)  : Option (Int32 × fw_S) := fb_b (f_X_X9_joined__8 t) fun v_2 t_1 => (some (v_2, t_1))
def b_X_X10_told__0_119  (t : fw_S)  : Option (Int32 × fw_S) := fb_b (f_X_X9_entries__8 t) fun v_2 t_1 => (some (v_2, t_1))
def b_X_X10_told__0_139  (t : fw_S) (z0 : Int32) : Option (Int32 × fw_S) := some (z0, t)
def b_X_X10_told__0_138  (t : fw_S)  : Option (Int32 × fw_S) := b_X_X10_told__0_139 t ((0 : Int32))
def b_X_X10_told__0_134  (t : fw_S)  : Option (Int32 × fw_S) := b_X_X10_told__0_139 t ((1 : Int32))
def b_X_X10_told__0_127  (t : fw_S)  : Option (Int32 × fw_S) := if (st_I t 0) = 0 then b_X_X10_told__0_138 t else b_X_X10_told__0_134 t
def b_X_X10_told__0_140  (t : fw_S)  : Option (Int32 × fw_S) := fb_b (f_X_X7_count__6 t) fun v_2 t_1 => (some (v_2, t_1))
def b_X_X10_told__0_148  (t : fw_S)  : Option (Int32 × fw_S) := fb_b (f_X_X5_length__1 t) fun v_2 t_1 => (some (v_2, t_1))
def b_X_X10_told__0_156  (t : fw_S)  : Option (Int32 × fw_S) := fb_b (f_X_X6_length__2 t) fun v_2 t_1 => (some (v_2, t_1))
def b_X_X10_told__0_164  (t : fw_S)  : Option (Int32 × fw_S) := fb_b (f_X_X0_greatestHeight__4 t) fun v_2 t_1 => (some (v_2, t_1))
def b_X_X10_told__0_169  (t : fw_S)  : Option (Int32 × fw_S) := some ((-1 : Int32), t)
def b_X_X10_told__0_0  (t : fw_S) (x1 : Int32) : Option (Int32 × fw_S) := fb_v (f_X_X1_now__3 t) fun t_1 => (if x1 = 0 then b_X_X10_told__0_76 t_1 else if x1 = 1 then b_X_X10_told__0_82 t_1 else if x1 = 2 then b_X_X10_told__0_88 t_1 else if x1 = 3 then b_X_X10_told__0_93 t_1 else if x1 = 4 then b_X_X10_told__0_98 t_1 else if x1 = 5 then b_X_X10_told__0_103 t_1 else if x1 = 6 then b_X_X10_told__0_111 t_1 else if x1 = 7 then b_X_X10_told__0_119 t_1 else if x1 = 8 then b_X_X10_told__0_127 t_1 else if x1 = 9 then b_X_X10_told__0_140 t_1 else if x1 = 10 then b_X_X10_told__0_148 t_1 else if x1 = 11 then b_X_X10_told__0_156 t_1 else if x1 = 12 then b_X_X10_told__0_164 t_1 else b_X_X10_told__0_169 t_1)
def f_X_X10_told__0 (t : fw_S) (x1 : Int32) : Option (Int32 × fw_S) := b_X_X10_told__0_0 t x1
set_option maxRecDepth 20000 in
theorem w_X_X10_told__0_76 {p : Program} {l : Launch} {e : Env} {s : State} {m : MethodId} {args : Array Value} {below : List Frame} {meth : Method} {c : Code} {A : Nat → Prop} {Q : State → Prop} {D : va_G} {ca : Nat → ClassId} {a : Nat → Nat} {u : fw_S} {r : Int32}  (C : CX (WX ca a) D (tyv ca) p s m args c A prog_1_method_28_code 3 RX10) (hr : True → RX (WX ca a) D p l e rm_X_X10_told__0 s m args below meth c A prog_1_method_28_code Q .ireturn [.int r] u) {t : fw_S}  {H : Heap} {locs : List Loc} {ls : Array Slot} (hf : b_X_X10_told__0_76  t  = some (r, u)) (hP : va_P D classes (WX ca a t) H) (hS : va_S A s.heap H locs) (hl : lv_has ls 3 [(2, .ref (a 4))]) : W p l e rm_X_X10_told__0 s m args below meth c H locs 0 0 Q (F0 m 76 ls []) := by
  obtain ⟨hx, hb, hml, hown, hts, hN, hK, hD, hA⟩ := id C
  have hf : (fb_b (f_X_X0_countOf__4 t ((1 : Int32))) fun v_2 t_1 => (some (v_2, t_1))) = some (r, u) := hf
  refine lv_aload_n hx hb dX10_told_76 rfl (lv_at hl 0 rfl) ?_
  refine lv_iconst (v := 1) hx hb dX10_told_77 (by decide) ?_
  obtain ⟨v_2, t_1, g_78, hf⟩ := fb_bs hf
  refine fw_V1 (As := [.int ((1 : Int32))]) (rest := []) (n := 1) (q0 := 4) C (c_X_X0_countOf__4 (l := l) (D := D) (ca := ca) (a := a) g_78) kw_1069 kw_909 kw_96 kw_911 kw_910 hP hS hl (heX_4 ca a t) rfl rfl rfl (by decide) (by decide +kernel) ⟨Nat.le_of_ble_eq_true rfl, Nat.le_of_ble_eq_true rfl⟩ rfl rfl (Nat.le_of_ble_eq_true rfl) dX10_told_78 (fun H locs hP hS => ?_)
  refine W.eq (g2 := F0 m 81 ls [.int v_2]) rfl ?_
  obtain ⟨e_81, e2_81⟩ := fb_e hf
  subst e_81; subst e2_81
  exact hr trivial _ _ _ _ hP hS dX10_told_81
set_option maxRecDepth 20000 in
theorem w_X_X10_told__0_82 {p : Program} {l : Launch} {e : Env} {s : State} {m : MethodId} {args : Array Value} {below : List Frame} {meth : Method} {c : Code} {A : Nat → Prop} {Q : State → Prop} {D : va_G} {ca : Nat → ClassId} {a : Nat → Nat} {u : fw_S} {r : Int32}  (C : CX (WX ca a) D (tyv ca) p s m args c A prog_1_method_28_code 3 RX10) (hr : True → RX (WX ca a) D p l e rm_X_X10_told__0 s m args below meth c A prog_1_method_28_code Q .ireturn [.int r] u) {t : fw_S}  {H : Heap} {locs : List Loc} {ls : Array Slot} (hf : b_X_X10_told__0_82  t  = some (r, u)) (hP : va_P D classes (WX ca a t) H) (hS : va_S A s.heap H locs) (hl : lv_has ls 3 [(2, .ref (a 4))]) : W p l e rm_X_X10_told__0 s m args below meth c H locs 0 0 Q (F0 m 82 ls []) := by
  obtain ⟨hx, hb, hml, hown, hts, hN, hK, hD, hA⟩ := id C
  have hf : (fb_b (f_X_X0_countOf__4 t ((2 : Int32))) fun v_2 t_1 => (some (v_2, t_1))) = some (r, u) := hf
  refine lv_aload_n hx hb dX10_told_82 rfl (lv_at hl 0 rfl) ?_
  refine lv_iconst (v := 2) hx hb dX10_told_83 (by decide) ?_
  obtain ⟨v_2, t_1, g_84, hf⟩ := fb_bs hf
  refine fw_V1 (As := [.int ((2 : Int32))]) (rest := []) (n := 1) (q0 := 4) C (c_X_X0_countOf__4 (l := l) (D := D) (ca := ca) (a := a) g_84) kw_1069 kw_909 kw_96 kw_911 kw_910 hP hS hl (heX_4 ca a t) rfl rfl rfl (by decide) (by decide +kernel) ⟨Nat.le_of_ble_eq_true rfl, Nat.le_of_ble_eq_true rfl⟩ rfl rfl (Nat.le_of_ble_eq_true rfl) dX10_told_84 (fun H locs hP hS => ?_)
  refine W.eq (g2 := F0 m 87 ls [.int v_2]) rfl ?_
  obtain ⟨e_87, e2_87⟩ := fb_e hf
  subst e_87; subst e2_87
  exact hr trivial _ _ _ _ hP hS dX10_told_87
set_option maxRecDepth 20000 in
theorem w_X_X10_told__0_88 {p : Program} {l : Launch} {e : Env} {s : State} {m : MethodId} {args : Array Value} {below : List Frame} {meth : Method} {c : Code} {A : Nat → Prop} {Q : State → Prop} {D : va_G} {ca : Nat → ClassId} {a : Nat → Nat} {u : fw_S} {r : Int32}  (C : CX (WX ca a) D (tyv ca) p s m args c A prog_1_method_28_code 3 RX10) (hr : True → RX (WX ca a) D p l e rm_X_X10_told__0 s m args below meth c A prog_1_method_28_code Q .ireturn [.int r] u) {t : fw_S}  {H : Heap} {locs : List Loc} {ls : Array Slot} (hf : b_X_X10_told__0_88  t  = some (r, u)) (hP : va_P D classes (WX ca a t) H) (hS : va_S A s.heap H locs) (hl : lv_has ls 3 [(2, .ref (a 4))]) : W p l e rm_X_X10_told__0 s m args below meth c H locs 0 0 Q (F0 m 88 ls []) := by
  obtain ⟨hx, hb, hml, hown, hts, hN, hK, hD, hA⟩ := id C
  have hf : (fb_b (f_X_X0_ranCount__4 t) fun v_2 t_1 => (some (v_2, t_1))) = some (r, u) := hf
  refine lv_aload_n hx hb dX10_told_88 rfl (lv_at hl 0 rfl) ?_
  obtain ⟨v_2, t_1, g_89, hf⟩ := fb_bs hf
  refine fw_V1 (As := []) (rest := []) (n := 0) (q0 := 4) C (c_X_X0_ranCount__4 (l := l) (D := D) (ca := ca) (a := a) g_89) kw_1070 kw_613 kw_96 kw_615 kw_614 hP hS hl (heX_4 ca a t) rfl rfl rfl (by decide) (by decide +kernel) ⟨Nat.le_of_ble_eq_true rfl, Nat.le_of_ble_eq_true rfl⟩ rfl rfl (Nat.le_of_ble_eq_true rfl) dX10_told_89 (fun H locs hP hS => ?_)
  refine W.eq (g2 := F0 m 92 ls [.int v_2]) rfl ?_
  obtain ⟨e_92, e2_92⟩ := fb_e hf
  subst e_92; subst e2_92
  exact hr trivial _ _ _ _ hP hS dX10_told_92
set_option maxRecDepth 20000 in
theorem w_X_X10_told__0_93 {p : Program} {l : Launch} {e : Env} {s : State} {m : MethodId} {args : Array Value} {below : List Frame} {meth : Method} {c : Code} {A : Nat → Prop} {Q : State → Prop} {D : va_G} {ca : Nat → ClassId} {a : Nat → Nat} {u : fw_S} {r : Int32}  (C : CX (WX ca a) D (tyv ca) p s m args c A prog_1_method_28_code 3 RX10) (hr : True → RX (WX ca a) D p l e rm_X_X10_told__0 s m args below meth c A prog_1_method_28_code Q .ireturn [.int r] u) {t : fw_S}  {H : Heap} {locs : List Loc} {ls : Array Slot} (hf : b_X_X10_told__0_93  t  = some (r, u)) (hP : va_P D classes (WX ca a t) H) (hS : va_S A s.heap H locs) (hl : lv_has ls 3 [(2, .ref (a 4))]) : W p l e rm_X_X10_told__0 s m args below meth c H locs 0 0 Q (F0 m 93 ls []) := by
  obtain ⟨hx, hb, hml, hown, hts, hN, hK, hD, hA⟩ := id C
  have hf : (fb_b (f_X_X0_changedCount__4 t) fun v_2 t_1 => (some (v_2, t_1))) = some (r, u) := hf
  refine lv_aload_n hx hb dX10_told_93 rfl (lv_at hl 0 rfl) ?_
  obtain ⟨v_2, t_1, g_94, hf⟩ := fb_bs hf
  refine fw_V1 (As := []) (rest := []) (n := 0) (q0 := 4) C (c_X_X0_changedCount__4 (l := l) (D := D) (ca := ca) (a := a) g_94) kw_658 kw_659 kw_96 kw_661 kw_660 hP hS hl (heX_4 ca a t) rfl rfl rfl (by decide) (by decide +kernel) ⟨Nat.le_of_ble_eq_true rfl, Nat.le_of_ble_eq_true rfl⟩ rfl rfl (Nat.le_of_ble_eq_true rfl) dX10_told_94 (fun H locs hP hS => ?_)
  refine W.eq (g2 := F0 m 97 ls [.int v_2]) rfl ?_
  obtain ⟨e_97, e2_97⟩ := fb_e hf
  subst e_97; subst e2_97
  exact hr trivial _ _ _ _ hP hS dX10_told_97
set_option maxRecDepth 20000 in
theorem w_X_X10_told__0_98 {p : Program} {l : Launch} {e : Env} {s : State} {m : MethodId} {args : Array Value} {below : List Frame} {meth : Method} {c : Code} {A : Nat → Prop} {Q : State → Prop} {D : va_G} {ca : Nat → ClassId} {a : Nat → Nat} {u : fw_S} {r : Int32}  (C : CX (WX ca a) D (tyv ca) p s m args c A prog_1_method_28_code 3 RX10) (hr : True → RX (WX ca a) D p l e rm_X_X10_told__0 s m args below meth c A prog_1_method_28_code Q .ireturn [.int r] u) {t : fw_S}  {H : Heap} {locs : List Loc} {ls : Array Slot} (hf : b_X_X10_told__0_98  t  = some (r, u)) (hP : va_P D classes (WX ca a t) H) (hS : va_S A s.heap H locs) (hl : lv_has ls 3 [(2, .ref (a 4))]) : W p l e rm_X_X10_told__0 s m args below meth c H locs 0 0 Q (F0 m 98 ls []) := by
  obtain ⟨hx, hb, hml, hown, hts, hN, hK, hD, hA⟩ := id C
  have hf : (fb_b (f_X_X0_allRuns__4 t) fun v_2 t_1 => (some (v_2, t_1))) = some (r, u) := hf
  refine lv_aload_n hx hb dX10_told_98 rfl (lv_at hl 0 rfl) ?_
  obtain ⟨v_2, t_1, g_99, hf⟩ := fb_bs hf
  refine fw_V1 (As := []) (rest := []) (n := 0) (q0 := 4) C (c_X_X0_allRuns__4 (l := l) (D := D) (ca := ca) (a := a) g_99) kw_1071 kw_1072 kw_96 kw_1074 kw_1073 hP hS hl (heX_4 ca a t) rfl rfl rfl (by decide) (by decide +kernel) ⟨Nat.le_of_ble_eq_true rfl, Nat.le_of_ble_eq_true rfl⟩ rfl rfl (Nat.le_of_ble_eq_true rfl) dX10_told_99 (fun H locs hP hS => ?_)
  refine W.eq (g2 := F0 m 102 ls [.int v_2]) rfl ?_
  obtain ⟨e_102, e2_102⟩ := fb_e hf
  subst e_102; subst e2_102
  exact hr trivial _ _ _ _ hP hS dX10_told_102
set_option maxRecDepth 20000 in
theorem w_X_X10_told__0_103 {p : Program} {l : Launch} {e : Env} {s : State} {m : MethodId} {args : Array Value} {below : List Frame} {meth : Method} {c : Code} {A : Nat → Prop} {Q : State → Prop} {D : va_G} {ca : Nat → ClassId} {a : Nat → Nat} {u : fw_S} {r : Int32}  (C : CX (WX ca a) D (tyv ca) p s m args c A prog_1_method_28_code 3 RX10) (hr : True → RX (WX ca a) D p l e rm_X_X10_told__0 s m args below meth c A prog_1_method_28_code Q .ireturn [.int r] u) {t : fw_S}  {H : Heap} {locs : List Loc} {ls : Array Slot} (hf : b_X_X10_told__0_103  t  = some (r, u)) (hP : va_P D classes (WX ca a t) H) (hS : va_S A s.heap H locs) (hl : lv_has ls 3 [(0, .ref (a 0))]) : W p l e rm_X_X10_told__0 s m args below meth c H locs 0 0 Q (F0 m 103 ls []) := by
  obtain ⟨hx, hb, hml, hown, hts, hN, hK, hD, hA⟩ := id C
  have hf : (fb_b (f_X_X3_waves__9 t) fun v_2 t_1 => (some (v_2, t_1))) = some (r, u) := hf
  refine lv_aload_n hx hb dX10_told_103 rfl (lv_at hl 0 rfl) ?_
  refine va_get (D := D) (ci := 10) (v := .ref (a 9)) (C := RX10) (T := TX10) (N := 13) hx hb hts inX10 hown hK hP 0 (heX_0 ca a t) rfl 6 (by decide) (hts _ kw_360) (fun _ h9 => h9) rfl dX10_told_104 ?_
  obtain ⟨v_2, t_1, g_107, hf⟩ := fb_bs hf
  refine fw_V1 (As := []) (rest := []) (n := 0) (q0 := 9) C (c_X_X3_waves__9 (l := l) (D := D) (ca := ca) (a := a) g_107) kw_1075 kw_1076 kw_99 kw_1078 kw_1077 hP hS hl (heX_9 ca a t) rfl rfl rfl (by decide) (by decide +kernel) ⟨Nat.le_of_ble_eq_true rfl, Nat.le_of_ble_eq_true rfl⟩ rfl rfl (Nat.le_of_ble_eq_true rfl) dX10_told_107 (fun H locs hP hS => ?_)
  refine W.eq (g2 := F0 m 110 ls [.int v_2]) rfl ?_
  obtain ⟨e_110, e2_110⟩ := fb_e hf
  subst e_110; subst e2_110
  exact hr trivial _ _ _ _ hP hS dX10_told_110
set_option maxRecDepth 20000 in
theorem w_X_X10_told__0_111 {p : Program} {l : Launch} {e : Env} {s : State} {m : MethodId} {args : Array Value} {below : List Frame} {meth : Method} {c : Code} {A : Nat → Prop} {Q : State → Prop} {D : va_G} {ca : Nat → ClassId} {a : Nat → Nat} {u : fw_S} {r : Int32}  (C : CX (WX ca a) D (tyv ca) p s m args c A prog_1_method_28_code 3 RX10) (hr : True → RX (WX ca a) D p l e rm_X_X10_told__0 s m args below meth c A prog_1_method_28_code Q .ireturn [.int r] u) {t : fw_S}  {H : Heap} {locs : List Loc} {ls : Array Slot} (hf : b_X_X10_told__0_111  t  = some (r, u)) (hP : va_P D classes (WX ca a t) H) (hS : va_S A s.heap H locs) (hl : lv_has ls 3 [(0, .ref (a 0))]) : W p l e rm_X_X10_told__0 s m args below meth c H locs 0 0 Q (F0 m 111 ls []) := by
  obtain ⟨hx, hb, hml, hown, hts, hN, hK, hD, hA⟩ := id C
  have hf : (fb_b (f_X_X9_joined__8 t) fun v_2 t_1 => (some (v_2, t_1))) = some (r, u) := hf
  refine lv_aload_n hx hb dX10_told_111 rfl (lv_at hl 0 rfl) ?_
  refine va_get (D := D) (ci := 10) (v := .ref (a 8)) (C := RX10) (T := TX10) (N := 13) hx hb hts inX10 hown hK hP 0 (heX_0 ca a t) rfl 5 (by decide) (hts _ kw_359) (fun _ h9 => h9) rfl dX10_told_112 ?_
  obtain ⟨v_2, t_1, g_115, hf⟩ := fb_bs hf
  refine fw_V1 (As := []) (rest := []) (n := 0) (q0 := 8) C (c_X_X9_joined__8 (l := l) (D := D) (ca := ca) (a := a) g_115) kw_1079 kw_1080 kw_98 kw_1082 kw_1081 hP hS hl (heX_8 ca a t) rfl rfl rfl (by decide) (by decide +kernel) ⟨Nat.le_of_ble_eq_true rfl, Nat.le_of_ble_eq_true rfl⟩ rfl rfl (Nat.le_of_ble_eq_true rfl) dX10_told_115 (fun H locs hP hS => ?_)
  refine W.eq (g2 := F0 m 118 ls [.int v_2]) rfl ?_
  obtain ⟨e_118, e2_118⟩ := fb_e hf
  subst e_118; subst e2_118
  exact hr trivial _ _ _ _ hP hS dX10_told_118
set_option maxRecDepth 20000 in
theorem w_X_X10_told__0_119 {p : Program} {l : Launch} {e : Env} {s : State} {m : MethodId} {args : Array Value} {below : List Frame} {meth : Method} {c : Code} {A : Nat → Prop} {Q : State → Prop} {D : va_G} {ca : Nat → ClassId} {a : Nat → Nat} {u : fw_S} {r : Int32}  (C : CX (WX ca a) D (tyv ca) p s m args c A prog_1_method_28_code 3 RX10) (hr : True → RX (WX ca a) D p l e rm_X_X10_told__0 s m args below meth c A prog_1_method_28_code Q .ireturn [.int r] u) {t : fw_S}  {H : Heap} {locs : List Loc} {ls : Array Slot} (hf : b_X_X10_told__0_119  t  = some (r, u)) (hP : va_P D classes (WX ca a t) H) (hS : va_S A s.heap H locs) (hl : lv_has ls 3 [(0, .ref (a 0))]) : W p l e rm_X_X10_told__0 s m args below meth c H locs 0 0 Q (F0 m 119 ls []) := by
  obtain ⟨hx, hb, hml, hown, hts, hN, hK, hD, hA⟩ := id C
  have hf : (fb_b (f_X_X9_entries__8 t) fun v_2 t_1 => (some (v_2, t_1))) = some (r, u) := hf
  refine lv_aload_n hx hb dX10_told_119 rfl (lv_at hl 0 rfl) ?_
  refine va_get (D := D) (ci := 10) (v := .ref (a 8)) (C := RX10) (T := TX10) (N := 13) hx hb hts inX10 hown hK hP 0 (heX_0 ca a t) rfl 5 (by decide) (hts _ kw_359) (fun _ h9 => h9) rfl dX10_told_120 ?_
  obtain ⟨v_2, t_1, g_123, hf⟩ := fb_bs hf
  refine fw_V1 (As := []) (rest := []) (n := 0) (q0 := 8) C (c_X_X9_entries__8 (l := l) (D := D) (ca := ca) (a := a) g_123) kw_1083 kw_1084 kw_98 kw_1086 kw_1085 hP hS hl (heX_8 ca a t) rfl rfl rfl (by decide) (by decide +kernel) ⟨Nat.le_of_ble_eq_true rfl, Nat.le_of_ble_eq_true rfl⟩ rfl rfl (Nat.le_of_ble_eq_true rfl) dX10_told_123 (fun H locs hP hS => ?_)
  refine W.eq (g2 := F0 m 126 ls [.int v_2]) rfl ?_
  obtain ⟨e_126, e2_126⟩ := fb_e hf
  subst e_126; subst e2_126
  exact hr trivial _ _ _ _ hP hS dX10_told_126
set_option maxRecDepth 20000 in
theorem w_X_X10_told__0_139 {p : Program} {l : Launch} {e : Env} {s : State} {m : MethodId} {args : Array Value} {below : List Frame} {meth : Method} {c : Code} {A : Nat → Prop} {Q : State → Prop} {D : va_G} {ca : Nat → ClassId} {a : Nat → Nat} {u : fw_S} {r : Int32}  (C : CX (WX ca a) D (tyv ca) p s m args c A prog_1_method_28_code 3 RX10) (hr : True → RX (WX ca a) D p l e rm_X_X10_told__0 s m args below meth c A prog_1_method_28_code Q .ireturn [.int r] u) {t : fw_S} {z0 : Int32} {H : Heap} {locs : List Loc} {ls : Array Slot} (hf : b_X_X10_told__0_139  t z0 = some (r, u)) (hP : va_P D classes (WX ca a t) H) (hS : va_S A s.heap H locs) (hl : lv_has ls 3 []) : W p l e rm_X_X10_told__0 s m args below meth c H locs 0 0 Q (F0 m 139 ls [.int z0]) := by
  obtain ⟨hx, hb, hml, hown, hts, hN, hK, hD, hA⟩ := id C
  have hf : (some (z0, t)) = some (r, u) := hf
  obtain ⟨e_139, e2_139⟩ := fb_e hf
  subst e_139; subst e2_139
  exact hr trivial _ _ _ _ hP hS dX10_told_139
set_option maxRecDepth 20000 in
theorem w_X_X10_told__0_138 {p : Program} {l : Launch} {e : Env} {s : State} {m : MethodId} {args : Array Value} {below : List Frame} {meth : Method} {c : Code} {A : Nat → Prop} {Q : State → Prop} {D : va_G} {ca : Nat → ClassId} {a : Nat → Nat} {u : fw_S} {r : Int32}  (C : CX (WX ca a) D (tyv ca) p s m args c A prog_1_method_28_code 3 RX10) (hr : True → RX (WX ca a) D p l e rm_X_X10_told__0 s m args below meth c A prog_1_method_28_code Q .ireturn [.int r] u) {t : fw_S}  {H : Heap} {locs : List Loc} {ls : Array Slot} (hf : b_X_X10_told__0_138  t  = some (r, u)) (hP : va_P D classes (WX ca a t) H) (hS : va_S A s.heap H locs) (hl : lv_has ls 3 []) : W p l e rm_X_X10_told__0 s m args below meth c H locs 0 0 Q (F0 m 138 ls []) := by
  obtain ⟨hx, hb, hml, hown, hts, hN, hK, hD, hA⟩ := id C
  have hf : (b_X_X10_told__0_139 t ((0 : Int32))) = some (r, u) := hf
  refine lv_iconst (v := 0) hx hb dX10_told_138 (by decide) ?_
  exact w_X_X10_told__0_139 C hr hf hP hS (lv_sub hl [] rfl)
set_option maxRecDepth 20000 in
theorem w_X_X10_told__0_134 {p : Program} {l : Launch} {e : Env} {s : State} {m : MethodId} {args : Array Value} {below : List Frame} {meth : Method} {c : Code} {A : Nat → Prop} {Q : State → Prop} {D : va_G} {ca : Nat → ClassId} {a : Nat → Nat} {u : fw_S} {r : Int32}  (C : CX (WX ca a) D (tyv ca) p s m args c A prog_1_method_28_code 3 RX10) (hr : True → RX (WX ca a) D p l e rm_X_X10_told__0 s m args below meth c A prog_1_method_28_code Q .ireturn [.int r] u) {t : fw_S}  {H : Heap} {locs : List Loc} {ls : Array Slot} (hf : b_X_X10_told__0_134  t  = some (r, u)) (hP : va_P D classes (WX ca a t) H) (hS : va_S A s.heap H locs) (hl : lv_has ls 3 []) : W p l e rm_X_X10_told__0 s m args below meth c H locs 0 0 Q (F0 m 134 ls []) := by
  obtain ⟨hx, hb, hml, hown, hts, hN, hK, hD, hA⟩ := id C
  have hf : (b_X_X10_told__0_139 t ((1 : Int32))) = some (r, u) := hf
  refine lv_iconst (v := 1) hx hb dX10_told_134 (by decide) ?_
  refine lv_goto (tgt := 139) hx hb dX10_told_135 (by decide) ?_
  exact w_X_X10_told__0_139 C hr hf hP hS (lv_sub hl [] rfl)
set_option maxRecDepth 20000 in
theorem w_X_X10_told__0_127 {p : Program} {l : Launch} {e : Env} {s : State} {m : MethodId} {args : Array Value} {below : List Frame} {meth : Method} {c : Code} {A : Nat → Prop} {Q : State → Prop} {D : va_G} {ca : Nat → ClassId} {a : Nat → Nat} {u : fw_S} {r : Int32}  (C : CX (WX ca a) D (tyv ca) p s m args c A prog_1_method_28_code 3 RX10) (hr : True → RX (WX ca a) D p l e rm_X_X10_told__0 s m args below meth c A prog_1_method_28_code Q .ireturn [.int r] u) {t : fw_S}  {H : Heap} {locs : List Loc} {ls : Array Slot} (hf : b_X_X10_told__0_127  t  = some (r, u)) (hP : va_P D classes (WX ca a t) H) (hS : va_S A s.heap H locs) (hl : lv_has ls 3 [(0, .ref (a 0))]) : W p l e rm_X_X10_told__0 s m args below meth c H locs 0 0 Q (F0 m 127 ls []) := by
  obtain ⟨hx, hb, hml, hown, hts, hN, hK, hD, hA⟩ := id C
  have hf : (if (st_I t 0) = 0 then b_X_X10_told__0_138 t else b_X_X10_told__0_134 t) = some (r, u) := hf
  refine lv_aload_n hx hb dX10_told_127 rfl (lv_at hl 0 rfl) ?_
  refine va_get (D := D) (ci := 10) (v := .int (st_I t 0)) (C := RX10) (T := TX10) (N := 13) hx hb hts inX10 hown hK hP 0 (heX_0 ca a t) rfl 11 (by decide) (hts _ kw_365) (fun _ h9 => h9) rfl dX10_told_128 ?_
  refine lv_if_eq (tgt := 138) hx hb dX10_told_131 (by decide) (fun h_131 => ?_) (fun h_131 => ?_)
  · have hf := fb_t h_131 hf
    exact w_X_X10_told__0_138 C hr hf hP hS (lv_sub hl [] rfl)
  · have hf := fb_f h_131 hf
    exact w_X_X10_told__0_134 C hr hf hP hS (lv_sub hl [] rfl)
set_option maxRecDepth 20000 in
theorem w_X_X10_told__0_140 {p : Program} {l : Launch} {e : Env} {s : State} {m : MethodId} {args : Array Value} {below : List Frame} {meth : Method} {c : Code} {A : Nat → Prop} {Q : State → Prop} {D : va_G} {ca : Nat → ClassId} {a : Nat → Nat} {u : fw_S} {r : Int32}  (C : CX (WX ca a) D (tyv ca) p s m args c A prog_1_method_28_code 3 RX10) (hr : True → RX (WX ca a) D p l e rm_X_X10_told__0 s m args below meth c A prog_1_method_28_code Q .ireturn [.int r] u) {t : fw_S}  {H : Heap} {locs : List Loc} {ls : Array Slot} (hf : b_X_X10_told__0_140  t  = some (r, u)) (hP : va_P D classes (WX ca a t) H) (hS : va_S A s.heap H locs) (hl : lv_has ls 3 [(0, .ref (a 0))]) : W p l e rm_X_X10_told__0 s m args below meth c H locs 0 0 Q (F0 m 140 ls []) := by
  obtain ⟨hx, hb, hml, hown, hts, hN, hK, hD, hA⟩ := id C
  have hf : (fb_b (f_X_X7_count__6 t) fun v_2 t_1 => (some (v_2, t_1))) = some (r, u) := hf
  refine lv_aload_n hx hb dX10_told_140 rfl (lv_at hl 0 rfl) ?_
  refine va_get (D := D) (ci := 10) (v := .ref (a 6)) (C := RX10) (T := TX10) (N := 13) hx hb hts inX10 hown hK hP 0 (heX_0 ca a t) rfl 3 (by decide) (hts _ kw_357) (fun _ h9 => h9) rfl dX10_told_141 ?_
  obtain ⟨v_2, t_1, g_144, hf⟩ := fb_bs hf
  refine fw_V1 (As := []) (rest := []) (n := 0) (q0 := 6) C (c_X_X7_count__6 (l := l) (D := D) (ca := ca) (a := a) g_144) kw_653 kw_654 kw_97 kw_656 kw_655 hP hS hl (heX_6 ca a t) rfl rfl rfl (by decide) (by decide +kernel) ⟨Nat.le_of_ble_eq_true rfl, Nat.le_of_ble_eq_true rfl⟩ rfl rfl (Nat.le_of_ble_eq_true rfl) dX10_told_144 (fun H locs hP hS => ?_)
  refine W.eq (g2 := F0 m 147 ls [.int v_2]) rfl ?_
  obtain ⟨e_147, e2_147⟩ := fb_e hf
  subst e_147; subst e2_147
  exact hr trivial _ _ _ _ hP hS dX10_told_147
set_option maxRecDepth 20000 in
theorem w_X_X10_told__0_148 {p : Program} {l : Launch} {e : Env} {s : State} {m : MethodId} {args : Array Value} {below : List Frame} {meth : Method} {c : Code} {A : Nat → Prop} {Q : State → Prop} {D : va_G} {ca : Nat → ClassId} {a : Nat → Nat} {u : fw_S} {r : Int32}  (C : CX (WX ca a) D (tyv ca) p s m args c A prog_1_method_28_code 3 RX10) (hr : True → RX (WX ca a) D p l e rm_X_X10_told__0 s m args below meth c A prog_1_method_28_code Q .ireturn [.int r] u) {t : fw_S}  {H : Heap} {locs : List Loc} {ls : Array Slot} (hf : b_X_X10_told__0_148  t  = some (r, u)) (hP : va_P D classes (WX ca a t) H) (hS : va_S A s.heap H locs) (hl : lv_has ls 3 [(0, .ref (a 0))]) : W p l e rm_X_X10_told__0 s m args below meth c H locs 0 0 Q (F0 m 148 ls []) := by
  obtain ⟨hx, hb, hml, hown, hts, hN, hK, hD, hA⟩ := id C
  have hf : (fb_b (f_X_X5_length__1 t) fun v_2 t_1 => (some (v_2, t_1))) = some (r, u) := hf
  refine lv_aload_n hx hb dX10_told_148 rfl (lv_at hl 0 rfl) ?_
  refine va_get (D := D) (ci := 10) (v := .ref (a 1)) (C := RX10) (T := TX10) (N := 13) hx hb hts inX10 hown hK hP 0 (heX_0 ca a t) rfl 0 (by decide) (hts _ kw_354) (fun _ h9 => h9) rfl dX10_told_149 ?_
  obtain ⟨v_2, t_1, g_152, hf⟩ := fb_bs hf
  refine fw_V1 (As := []) (rest := []) (n := 0) (q0 := 1) C (c_X_X5_length__1 (l := l) (D := D) (ca := ca) (a := a) g_152) kw_840 kw_841 kw_93 kw_843 kw_842 hP hS hl (heX_1 ca a t) rfl rfl rfl (by decide) (by decide +kernel) ⟨Nat.le_of_ble_eq_true rfl, Nat.le_of_ble_eq_true rfl⟩ rfl rfl (Nat.le_of_ble_eq_true rfl) dX10_told_152 (fun H locs hP hS => ?_)
  refine W.eq (g2 := F0 m 155 ls [.int v_2]) rfl ?_
  obtain ⟨e_155, e2_155⟩ := fb_e hf
  subst e_155; subst e2_155
  exact hr trivial _ _ _ _ hP hS dX10_told_155
set_option maxRecDepth 20000 in
theorem w_X_X10_told__0_156 {p : Program} {l : Launch} {e : Env} {s : State} {m : MethodId} {args : Array Value} {below : List Frame} {meth : Method} {c : Code} {A : Nat → Prop} {Q : State → Prop} {D : va_G} {ca : Nat → ClassId} {a : Nat → Nat} {u : fw_S} {r : Int32}  (C : CX (WX ca a) D (tyv ca) p s m args c A prog_1_method_28_code 3 RX10) (hr : True → RX (WX ca a) D p l e rm_X_X10_told__0 s m args below meth c A prog_1_method_28_code Q .ireturn [.int r] u) {t : fw_S}  {H : Heap} {locs : List Loc} {ls : Array Slot} (hf : b_X_X10_told__0_156  t  = some (r, u)) (hP : va_P D classes (WX ca a t) H) (hS : va_S A s.heap H locs) (hl : lv_has ls 3 [(0, .ref (a 0))]) : W p l e rm_X_X10_told__0 s m args below meth c H locs 0 0 Q (F0 m 156 ls []) := by
  obtain ⟨hx, hb, hml, hown, hts, hN, hK, hD, hA⟩ := id C
  have hf : (fb_b (f_X_X6_length__2 t) fun v_2 t_1 => (some (v_2, t_1))) = some (r, u) := hf
  refine lv_aload_n hx hb dX10_told_156 rfl (lv_at hl 0 rfl) ?_
  refine va_get (D := D) (ci := 10) (v := .ref (a 2)) (C := RX10) (T := TX10) (N := 13) hx hb hts inX10 hown hK hP 0 (heX_0 ca a t) rfl 1 (by decide) (hts _ kw_355) (fun _ h9 => h9) rfl dX10_told_157 ?_
  obtain ⟨v_2, t_1, g_160, hf⟩ := fb_bs hf
  refine fw_V1 (As := []) (rest := []) (n := 0) (q0 := 2) C (c_X_X6_length__2 (l := l) (D := D) (ca := ca) (a := a) g_160) kw_1013 kw_1014 kw_94 kw_1016 kw_1015 hP hS hl (heX_2 ca a t) rfl rfl rfl (by decide) (by decide +kernel) ⟨Nat.le_of_ble_eq_true rfl, Nat.le_of_ble_eq_true rfl⟩ rfl rfl (Nat.le_of_ble_eq_true rfl) dX10_told_160 (fun H locs hP hS => ?_)
  refine W.eq (g2 := F0 m 163 ls [.int v_2]) rfl ?_
  obtain ⟨e_163, e2_163⟩ := fb_e hf
  subst e_163; subst e2_163
  exact hr trivial _ _ _ _ hP hS dX10_told_163
set_option maxRecDepth 20000 in
theorem w_X_X10_told__0_164 {p : Program} {l : Launch} {e : Env} {s : State} {m : MethodId} {args : Array Value} {below : List Frame} {meth : Method} {c : Code} {A : Nat → Prop} {Q : State → Prop} {D : va_G} {ca : Nat → ClassId} {a : Nat → Nat} {u : fw_S} {r : Int32}  (C : CX (WX ca a) D (tyv ca) p s m args c A prog_1_method_28_code 3 RX10) (hr : True → RX (WX ca a) D p l e rm_X_X10_told__0 s m args below meth c A prog_1_method_28_code Q .ireturn [.int r] u) {t : fw_S}  {H : Heap} {locs : List Loc} {ls : Array Slot} (hf : b_X_X10_told__0_164  t  = some (r, u)) (hP : va_P D classes (WX ca a t) H) (hS : va_S A s.heap H locs) (hl : lv_has ls 3 [(2, .ref (a 4))]) : W p l e rm_X_X10_told__0 s m args below meth c H locs 0 0 Q (F0 m 164 ls []) := by
  obtain ⟨hx, hb, hml, hown, hts, hN, hK, hD, hA⟩ := id C
  have hf : (fb_b (f_X_X0_greatestHeight__4 t) fun v_2 t_1 => (some (v_2, t_1))) = some (r, u) := hf
  refine lv_aload_n hx hb dX10_told_164 rfl (lv_at hl 0 rfl) ?_
  obtain ⟨v_2, t_1, g_165, hf⟩ := fb_bs hf
  refine fw_V1 (As := []) (rest := []) (n := 0) (q0 := 4) C (c_X_X0_greatestHeight__4 (l := l) (D := D) (ca := ca) (a := a) g_165) kw_1087 kw_1088 kw_96 kw_1090 kw_1089 hP hS hl (heX_4 ca a t) rfl rfl rfl (by decide) (by decide +kernel) ⟨Nat.le_of_ble_eq_true rfl, Nat.le_of_ble_eq_true rfl⟩ rfl rfl (Nat.le_of_ble_eq_true rfl) dX10_told_165 (fun H locs hP hS => ?_)
  refine W.eq (g2 := F0 m 168 ls [.int v_2]) rfl ?_
  obtain ⟨e_168, e2_168⟩ := fb_e hf
  subst e_168; subst e2_168
  exact hr trivial _ _ _ _ hP hS dX10_told_168
set_option maxRecDepth 20000 in
theorem w_X_X10_told__0_169 {p : Program} {l : Launch} {e : Env} {s : State} {m : MethodId} {args : Array Value} {below : List Frame} {meth : Method} {c : Code} {A : Nat → Prop} {Q : State → Prop} {D : va_G} {ca : Nat → ClassId} {a : Nat → Nat} {u : fw_S} {r : Int32}  (C : CX (WX ca a) D (tyv ca) p s m args c A prog_1_method_28_code 3 RX10) (hr : True → RX (WX ca a) D p l e rm_X_X10_told__0 s m args below meth c A prog_1_method_28_code Q .ireturn [.int r] u) {t : fw_S}  {H : Heap} {locs : List Loc} {ls : Array Slot} (hf : b_X_X10_told__0_169  t  = some (r, u)) (hP : va_P D classes (WX ca a t) H) (hS : va_S A s.heap H locs) (hl : lv_has ls 3 []) : W p l e rm_X_X10_told__0 s m args below meth c H locs 0 0 Q (F0 m 169 ls []) := by
  obtain ⟨hx, hb, hml, hown, hts, hN, hK, hD, hA⟩ := id C
  have hf : (some ((-1 : Int32), t)) = some (r, u) := hf
  refine lv_iconst (v := (-1)) hx hb dX10_told_169 (by decide) ?_
  obtain ⟨e_170, e2_170⟩ := fb_e hf
  subst e_170; subst e2_170
  exact hr trivial _ _ _ _ hP hS dX10_told_170
set_option maxRecDepth 20000 in
theorem w_X_X10_told__0_0 {p : Program} {l : Launch} {e : Env} {s : State} {m : MethodId} {args : Array Value} {below : List Frame} {meth : Method} {c : Code} {A : Nat → Prop} {Q : State → Prop} {D : va_G} {ca : Nat → ClassId} {a : Nat → Nat} {u : fw_S} {r : Int32}  (C : CX (WX ca a) D (tyv ca) p s m args c A prog_1_method_28_code 3 RX10) (hr : True → RX (WX ca a) D p l e rm_X_X10_told__0 s m args below meth c A prog_1_method_28_code Q .ireturn [.int r] u) {t : fw_S} {x1 : Int32} {H : Heap} {locs : List Loc} {ls : Array Slot} (hf : b_X_X10_told__0_0  t x1 = some (r, u)) (hP : va_P D classes (WX ca a t) H) (hS : va_S A s.heap H locs) (hl : lv_has ls 3 [(0, .ref (a 0)), (1, .int x1)]) : W p l e rm_X_X10_told__0 s m args below meth c H locs 0 0 Q (F0 m 0 ls []) := by
  obtain ⟨hx, hb, hml, hown, hts, hN, hK, hD, hA⟩ := id C
  have hf : (fb_v (f_X_X1_now__3 t) fun t_1 => (if x1 = 0 then b_X_X10_told__0_76 t_1 else if x1 = 1 then b_X_X10_told__0_82 t_1 else if x1 = 2 then b_X_X10_told__0_88 t_1 else if x1 = 3 then b_X_X10_told__0_93 t_1 else if x1 = 4 then b_X_X10_told__0_98 t_1 else if x1 = 5 then b_X_X10_told__0_103 t_1 else if x1 = 6 then b_X_X10_told__0_111 t_1 else if x1 = 7 then b_X_X10_told__0_119 t_1 else if x1 = 8 then b_X_X10_told__0_127 t_1 else if x1 = 9 then b_X_X10_told__0_140 t_1 else if x1 = 10 then b_X_X10_told__0_148 t_1 else if x1 = 11 then b_X_X10_told__0_156 t_1 else if x1 = 12 then b_X_X10_told__0_164 t_1 else b_X_X10_told__0_169 t_1)) = some (r, u) := hf
  refine lv_aload_n hx hb dX10_told_0 rfl (lv_at hl 0 rfl) ?_
  refine va_get (D := D) (ci := 10) (v := .ref (a 3)) (C := RX10) (T := TX10) (N := 13) hx hb hts inX10 hown hK hP 0 (heX_0 ca a t) rfl 2 (by decide) (hts _ kw_356) (fun _ h9 => h9) rfl dX10_told_1 ?_
  obtain ⟨t_1, g_4, hf⟩ := fb_vs hf
  refine fw_V1 (As := []) (rest := []) (n := 0) (q0 := 3) C (c_X_X1_now__3 (l := l) (D := D) (ca := ca) (a := a) g_4) kw_626 kw_627 kw_95 kw_629 kw_628 hP hS hl (heX_3 ca a t) rfl rfl rfl (by decide) (by decide +kernel) ⟨Nat.le_of_ble_eq_true rfl, Nat.le_of_ble_eq_true rfl⟩ rfl rfl (Nat.le_of_ble_eq_true rfl) dX10_told_4 (fun H locs hP hS => ?_)
  refine W.eq (g2 := F0 m 7 ls [.ref (a 4)]) rfl ?_
  refine lv_astore_n (lv' := [(2, .ref (a 4)), (0, .ref (a 0)), (1, .int x1)]) hx hb dX10_told_7 rfl hl (by decide) rfl (fun ls hl => ?_)
  refine lv_iload_n hx hb dX10_told_8 rfl (lv_at hl 2 rfl) ?_
  by_cases h_9_0 : x1 = 0
  · have hf := fb_t h_9_0 hf
    refine lv_tableIn (tgt := 76) hx hb dX10_told_9 (by rw [h_9_0]; decide) (by rw [h_9_0]; decide) (by rw [h_9_0]; rfl) (by decide) ?_
    exact w_X_X10_told__0_76 C hr hf hP hS (lv_sub hl [0] rfl)
  have hf := fb_f h_9_0 hf
  by_cases h_9_1 : x1 = 1
  · have hf := fb_t h_9_1 hf
    refine lv_tableIn (tgt := 82) hx hb dX10_told_9 (by rw [h_9_1]; decide) (by rw [h_9_1]; decide) (by rw [h_9_1]; rfl) (by decide) ?_
    exact w_X_X10_told__0_82 C hr hf hP hS (lv_sub hl [0] rfl)
  have hf := fb_f h_9_1 hf
  by_cases h_9_2 : x1 = 2
  · have hf := fb_t h_9_2 hf
    refine lv_tableIn (tgt := 88) hx hb dX10_told_9 (by rw [h_9_2]; decide) (by rw [h_9_2]; decide) (by rw [h_9_2]; rfl) (by decide) ?_
    exact w_X_X10_told__0_88 C hr hf hP hS (lv_sub hl [0] rfl)
  have hf := fb_f h_9_2 hf
  by_cases h_9_3 : x1 = 3
  · have hf := fb_t h_9_3 hf
    refine lv_tableIn (tgt := 93) hx hb dX10_told_9 (by rw [h_9_3]; decide) (by rw [h_9_3]; decide) (by rw [h_9_3]; rfl) (by decide) ?_
    exact w_X_X10_told__0_93 C hr hf hP hS (lv_sub hl [0] rfl)
  have hf := fb_f h_9_3 hf
  by_cases h_9_4 : x1 = 4
  · have hf := fb_t h_9_4 hf
    refine lv_tableIn (tgt := 98) hx hb dX10_told_9 (by rw [h_9_4]; decide) (by rw [h_9_4]; decide) (by rw [h_9_4]; rfl) (by decide) ?_
    exact w_X_X10_told__0_98 C hr hf hP hS (lv_sub hl [0] rfl)
  have hf := fb_f h_9_4 hf
  by_cases h_9_5 : x1 = 5
  · have hf := fb_t h_9_5 hf
    refine lv_tableIn (tgt := 103) hx hb dX10_told_9 (by rw [h_9_5]; decide) (by rw [h_9_5]; decide) (by rw [h_9_5]; rfl) (by decide) ?_
    exact w_X_X10_told__0_103 C hr hf hP hS (lv_sub hl [1] rfl)
  have hf := fb_f h_9_5 hf
  by_cases h_9_6 : x1 = 6
  · have hf := fb_t h_9_6 hf
    refine lv_tableIn (tgt := 111) hx hb dX10_told_9 (by rw [h_9_6]; decide) (by rw [h_9_6]; decide) (by rw [h_9_6]; rfl) (by decide) ?_
    exact w_X_X10_told__0_111 C hr hf hP hS (lv_sub hl [1] rfl)
  have hf := fb_f h_9_6 hf
  by_cases h_9_7 : x1 = 7
  · have hf := fb_t h_9_7 hf
    refine lv_tableIn (tgt := 119) hx hb dX10_told_9 (by rw [h_9_7]; decide) (by rw [h_9_7]; decide) (by rw [h_9_7]; rfl) (by decide) ?_
    exact w_X_X10_told__0_119 C hr hf hP hS (lv_sub hl [1] rfl)
  have hf := fb_f h_9_7 hf
  by_cases h_9_8 : x1 = 8
  · have hf := fb_t h_9_8 hf
    refine lv_tableIn (tgt := 127) hx hb dX10_told_9 (by rw [h_9_8]; decide) (by rw [h_9_8]; decide) (by rw [h_9_8]; rfl) (by decide) ?_
    exact w_X_X10_told__0_127 C hr hf hP hS (lv_sub hl [1] rfl)
  have hf := fb_f h_9_8 hf
  by_cases h_9_9 : x1 = 9
  · have hf := fb_t h_9_9 hf
    refine lv_tableIn (tgt := 140) hx hb dX10_told_9 (by rw [h_9_9]; decide) (by rw [h_9_9]; decide) (by rw [h_9_9]; rfl) (by decide) ?_
    exact w_X_X10_told__0_140 C hr hf hP hS (lv_sub hl [1] rfl)
  have hf := fb_f h_9_9 hf
  by_cases h_9_10 : x1 = 10
  · have hf := fb_t h_9_10 hf
    refine lv_tableIn (tgt := 148) hx hb dX10_told_9 (by rw [h_9_10]; decide) (by rw [h_9_10]; decide) (by rw [h_9_10]; rfl) (by decide) ?_
    exact w_X_X10_told__0_148 C hr hf hP hS (lv_sub hl [1] rfl)
  have hf := fb_f h_9_10 hf
  by_cases h_9_11 : x1 = 11
  · have hf := fb_t h_9_11 hf
    refine lv_tableIn (tgt := 156) hx hb dX10_told_9 (by rw [h_9_11]; decide) (by rw [h_9_11]; decide) (by rw [h_9_11]; rfl) (by decide) ?_
    exact w_X_X10_told__0_156 C hr hf hP hS (lv_sub hl [1] rfl)
  have hf := fb_f h_9_11 hf
  by_cases h_9_12 : x1 = 12
  · have hf := fb_t h_9_12 hf
    refine lv_tableIn (tgt := 164) hx hb dX10_told_9 (by rw [h_9_12]; decide) (by rw [h_9_12]; decide) (by rw [h_9_12]; rfl) (by decide) ?_
    exact w_X_X10_told__0_164 C hr hf hP hS (lv_sub hl [0] rfl)
  have hf := fb_f h_9_12 hf
  refine lv_tableOut (tgt := 169) hx hb dX10_told_9 (by have q0 := lv_neT h_9_0 (a := 0) (by decide); have q1 := lv_neT h_9_1 (a := 1) (by decide); have q2 := lv_neT h_9_2 (a := 2) (by decide); have q3 := lv_neT h_9_3 (a := 3) (by decide); have q4 := lv_neT h_9_4 (a := 4) (by decide); have q5 := lv_neT h_9_5 (a := 5) (by decide); have q6 := lv_neT h_9_6 (a := 6) (by decide); have q7 := lv_neT h_9_7 (a := 7) (by decide); have q8 := lv_neT h_9_8 (a := 8) (by decide); have q9 := lv_neT h_9_9 (a := 9) (by decide); have q10 := lv_neT h_9_10 (a := 10) (by decide); have q11 := lv_neT h_9_11 (a := 11) (by decide); have q12 := lv_neT h_9_12 (a := 12) (by decide); omega) (by decide) ?_
  exact w_X_X10_told__0_169 C hr hf hP hS (lv_sub hl [] rfl)
set_option maxRecDepth 20000 in
theorem c_X_X10_told__0 {l : Launch} {D : va_G} {ca : Nat → ClassId} {a : Nat → Nat} {t : fw_S} {x1 : Int32} {u : fw_S} {r : Int32} (hf : f_X_X10_told__0 t x1 = some (r, u)) : MC (WX ca a) D (tyv ca) l yX10_told (.code yX10_told prog_1_method_28_code 3 (some .int) :: lw_gd) rm_X_X10_told__0 [.ref (a 0), .int x1] (some (.int r)) t u := by
  refine fw_met (okX ca a) (by decide +kernel) rfl rfl (Nat.le_of_ble_eq_true rfl) ?_
  intro p e s m args below meth c A Q ls C hr hk hP hS hl hQ
  exact w_X_X10_told__0_0 C (fun _ => fw_ri C hr hk hQ) hf hP hS (lv_sub hl [0, 1] rfl)
/-! ReactiveSheet.History.entry(II)I ['x.history'] -/
abbrev rm_X_X3_entry__9 : Room := { frames := 1, cells := 0, slots := 0, locals := 22 }
def b_X_X3_entry__9_27  (t : fw_S)  : Option (Int32 × fw_S) := some ((-1 : Int32), t)
def b_X_X3_entry__9_29  (t : fw_S) (x1 : Int32) (x2 : Int32) : Option (Int32 × fw_S) := fb_b (f_X_J9_floorMod_7cf53 t (((st_I t 12) - ((1 : Int32))) - x1) ((20 : Int32))) fun v_2 t_1 => (fb_g (¬ (((v_2 * ((4 : Int32))) + x2) < 0 ∨ 80 ≤ ((v_2 * ((4 : Int32))) + x2).toNatClampNeg)) (some (st_F t_1 29 ((v_2 * ((4 : Int32))) + x2).toNatClampNeg, t_1)))
def b_X_X3_entry__9_22  (t : fw_S) (x1 : Int32) (x2 : Int32) : Option (Int32 × fw_S) := if x2 < ((4 : Int32)) then b_X_X3_entry__9_29 t x1 x2 else b_X_X3_entry__9_27 t
def b_X_X3_entry__9_18  (t : fw_S) (x1 : Int32) (x2 : Int32) : Option (Int32 × fw_S) := if x2 < 0 then b_X_X3_entry__9_27 t else b_X_X3_entry__9_22 t x1 x2
def b_X_X3_entry__9_10  (t : fw_S) (x1 : Int32) (x2 : Int32) : Option (Int32 × fw_S) := if (st_I t 12) ≤ x1 then b_X_X3_entry__9_27 t else b_X_X3_entry__9_18 t x1 x2
def b_X_X3_entry__9_4  (t : fw_S) (x1 : Int32) (x2 : Int32) : Option (Int32 × fw_S) := if ((20 : Int32)) ≤ x1 then b_X_X3_entry__9_27 t else b_X_X3_entry__9_10 t x1 x2
def b_X_X3_entry__9_0  (t : fw_S) (x1 : Int32) (x2 : Int32) : Option (Int32 × fw_S) := if x1 < 0 then b_X_X3_entry__9_27 t else b_X_X3_entry__9_4 t x1 x2
def f_X_X3_entry__9 (t : fw_S) (x1 : Int32) (x2 : Int32) : Option (Int32 × fw_S) := b_X_X3_entry__9_0 t x1 x2
set_option maxRecDepth 20000 in
theorem w_X_X3_entry__9_27 {p : Program} {l : Launch} {e : Env} {s : State} {m : MethodId} {args : Array Value} {below : List Frame} {meth : Method} {c : Code} {A : Nat → Prop} {Q : State → Prop} {D : va_G} {ca : Nat → ClassId} {a : Nat → Nat} {u : fw_S} {r : Int32}  (C : CX (WX ca a) D (tyv ca) p s m args c A prog_5_method_4_code 3 RX3) (hr : True → RX (WX ca a) D p l e rm_X_X3_entry__9 s m args below meth c A prog_5_method_4_code Q .ireturn [.int r] u) {t : fw_S}  {H : Heap} {locs : List Loc} {ls : Array Slot} (hf : b_X_X3_entry__9_27  t  = some (r, u)) (hP : va_P D classes (WX ca a t) H) (hS : va_S A s.heap H locs) (hl : lv_has ls 3 []) : W p l e rm_X_X3_entry__9 s m args below meth c H locs 0 0 Q (F0 m 27 ls []) := by
  obtain ⟨hx, hb, hml, hown, hts, hN, hK, hD, hA⟩ := id C
  have hf : (some ((-1 : Int32), t)) = some (r, u) := hf
  refine lv_iconst (v := (-1)) hx hb dX3_entry_27 (by decide) ?_
  obtain ⟨e_28, e2_28⟩ := fb_e hf
  subst e_28; subst e2_28
  exact hr trivial _ _ _ _ hP hS dX3_entry_28
set_option maxRecDepth 20000 in
theorem w_X_X3_entry__9_29 {p : Program} {l : Launch} {e : Env} {s : State} {m : MethodId} {args : Array Value} {below : List Frame} {meth : Method} {c : Code} {A : Nat → Prop} {Q : State → Prop} {D : va_G} {ca : Nat → ClassId} {a : Nat → Nat} {u : fw_S} {r : Int32}  (C : CX (WX ca a) D (tyv ca) p s m args c A prog_5_method_4_code 3 RX3) (hr : True → RX (WX ca a) D p l e rm_X_X3_entry__9 s m args below meth c A prog_5_method_4_code Q .ireturn [.int r] u) {t : fw_S} {x1 : Int32} {x2 : Int32} {H : Heap} {locs : List Loc} {ls : Array Slot} (hf : b_X_X3_entry__9_29  t x1 x2 = some (r, u)) (hP : va_P D classes (WX ca a t) H) (hS : va_S A s.heap H locs) (hl : lv_has ls 3 [(0, .ref (a 9)), (1, .int x1), (2, .int x2)]) : W p l e rm_X_X3_entry__9 s m args below meth c H locs 0 0 Q (F0 m 29 ls []) := by
  obtain ⟨hx, hb, hml, hown, hts, hN, hK, hD, hA⟩ := id C
  have hf : (fb_b (f_X_J9_floorMod_7cf53 t (((st_I t 12) - ((1 : Int32))) - x1) ((20 : Int32))) fun v_2 t_1 => (fb_g (¬ (((v_2 * ((4 : Int32))) + x2) < 0 ∨ 80 ≤ ((v_2 * ((4 : Int32))) + x2).toNatClampNeg)) (some (st_F t_1 29 ((v_2 * ((4 : Int32))) + x2).toNatClampNeg, t_1)))) = some (r, u) := hf
  refine lv_aload_n hx hb dX3_entry_29 rfl (lv_at hl 0 rfl) ?_
  refine va_get (D := D) (ci := 3) (v := .ref (a 57)) (C := RX3) (T := TX3) (N := 2) hx hb hts inX3 hown hK hP 9 (heX_9 ca a t) rfl 0 (by decide) (hts _ kw_319) (fun _ h9 => h9) rfl dX3_entry_30 ?_
  refine lv_aload_n hx hb dX3_entry_33 rfl (lv_at hl 0 rfl) ?_
  refine va_get (D := D) (ci := 3) (v := .int (st_I t 12)) (C := RX3) (T := TX3) (N := 2) hx hb hts inX3 hown hK hP 9 (heX_9 ca a t) rfl 1 (by decide) (hts _ kw_320) (fun _ h9 => h9) rfl dX3_entry_34 ?_
  refine lv_iconst (v := 1) hx hb dX3_entry_37 (by decide) ?_
  refine lv_isub hx hb dX3_entry_38 ?_
  refine lv_iload_n hx hb dX3_entry_39 rfl (lv_at hl 1 rfl) ?_
  refine lv_isub hx hb dX3_entry_40 ?_
  refine lv_bipush (v := 20) hx hb dX3_entry_41 (by decide) ?_
  obtain ⟨v_2, t_1, g_43, hf⟩ := fb_bs hf
  refine fw_S1 (As := [.int (((st_I t 12) - ((1 : Int32))) - x1), .int ((20 : Int32))]) (rest := [.ref (a 57)]) (n := 2) C (c_X_J9_floorMod_7cf53 (l := l) (D := D) (ca := ca) (a := a) g_43) kw_666 kw_667 kw_106 kw_668 hP hS hl rfl rfl (by decide) (by decide +kernel) ⟨Nat.le_of_ble_eq_true rfl, Nat.le_of_ble_eq_true rfl⟩ rfl rfl (Nat.le_of_ble_eq_true rfl) dX3_entry_43 (fun H locs hP hS => ?_)
  refine W.eq (g2 := F0 m 46 ls [.int v_2, .ref (a 57)]) rfl ?_
  refine lv_iconst (v := 4) hx hb dX3_entry_46 (by decide) ?_
  refine lv_imul hx hb dX3_entry_47 ?_
  refine lv_iload_n hx hb dX3_entry_48 rfl (lv_at hl 2 rfl) ?_
  refine lv_iadd hx hb dX3_entry_49 ?_
  obtain ⟨h_50, hf⟩ := fb_if hf
  refine va_iald hx hb hK hP 57 0 (haX_57 ca a t_1) rfl h_50 dX3_entry_50 ?_
  obtain ⟨e_51, e2_51⟩ := fb_e hf
  subst e_51; subst e2_51
  exact hr trivial _ _ _ _ hP hS dX3_entry_51
set_option maxRecDepth 20000 in
theorem w_X_X3_entry__9_22 {p : Program} {l : Launch} {e : Env} {s : State} {m : MethodId} {args : Array Value} {below : List Frame} {meth : Method} {c : Code} {A : Nat → Prop} {Q : State → Prop} {D : va_G} {ca : Nat → ClassId} {a : Nat → Nat} {u : fw_S} {r : Int32}  (C : CX (WX ca a) D (tyv ca) p s m args c A prog_5_method_4_code 3 RX3) (hr : True → RX (WX ca a) D p l e rm_X_X3_entry__9 s m args below meth c A prog_5_method_4_code Q .ireturn [.int r] u) {t : fw_S} {x1 : Int32} {x2 : Int32} {H : Heap} {locs : List Loc} {ls : Array Slot} (hf : b_X_X3_entry__9_22  t x1 x2 = some (r, u)) (hP : va_P D classes (WX ca a t) H) (hS : va_S A s.heap H locs) (hl : lv_has ls 3 [(0, .ref (a 9)), (1, .int x1), (2, .int x2)]) : W p l e rm_X_X3_entry__9 s m args below meth c H locs 0 0 Q (F0 m 22 ls []) := by
  obtain ⟨hx, hb, hml, hown, hts, hN, hK, hD, hA⟩ := id C
  have hf : (if x2 < ((4 : Int32)) then b_X_X3_entry__9_29 t x1 x2 else b_X_X3_entry__9_27 t) = some (r, u) := hf
  refine lv_iload_n hx hb dX3_entry_22 rfl (lv_at hl 2 rfl) ?_
  refine lv_iconst (v := 4) hx hb dX3_entry_23 (by decide) ?_
  refine lv_icmp_lt (tgt := 29) hx hb dX3_entry_24 (by decide) (fun h_24 => ?_) (fun h_24 => ?_)
  · have hf := fb_t h_24 hf
    exact w_X_X3_entry__9_29 C hr hf hP hS (lv_sub hl [0, 1, 2] rfl)
  · have hf := fb_f h_24 hf
    exact w_X_X3_entry__9_27 C hr hf hP hS (lv_sub hl [] rfl)
set_option maxRecDepth 20000 in
theorem w_X_X3_entry__9_18 {p : Program} {l : Launch} {e : Env} {s : State} {m : MethodId} {args : Array Value} {below : List Frame} {meth : Method} {c : Code} {A : Nat → Prop} {Q : State → Prop} {D : va_G} {ca : Nat → ClassId} {a : Nat → Nat} {u : fw_S} {r : Int32}  (C : CX (WX ca a) D (tyv ca) p s m args c A prog_5_method_4_code 3 RX3) (hr : True → RX (WX ca a) D p l e rm_X_X3_entry__9 s m args below meth c A prog_5_method_4_code Q .ireturn [.int r] u) {t : fw_S} {x1 : Int32} {x2 : Int32} {H : Heap} {locs : List Loc} {ls : Array Slot} (hf : b_X_X3_entry__9_18  t x1 x2 = some (r, u)) (hP : va_P D classes (WX ca a t) H) (hS : va_S A s.heap H locs) (hl : lv_has ls 3 [(0, .ref (a 9)), (1, .int x1), (2, .int x2)]) : W p l e rm_X_X3_entry__9 s m args below meth c H locs 0 0 Q (F0 m 18 ls []) := by
  obtain ⟨hx, hb, hml, hown, hts, hN, hK, hD, hA⟩ := id C
  have hf : (if x2 < 0 then b_X_X3_entry__9_27 t else b_X_X3_entry__9_22 t x1 x2) = some (r, u) := hf
  refine lv_iload_n hx hb dX3_entry_18 rfl (lv_at hl 2 rfl) ?_
  refine lv_if_lt (tgt := 27) hx hb dX3_entry_19 (by decide) (fun h_19 => ?_) (fun h_19 => ?_)
  · have hf := fb_t h_19 hf
    exact w_X_X3_entry__9_27 C hr hf hP hS (lv_sub hl [] rfl)
  · have hf := fb_f h_19 hf
    exact w_X_X3_entry__9_22 C hr hf hP hS (lv_sub hl [0, 1, 2] rfl)
set_option maxRecDepth 20000 in
theorem w_X_X3_entry__9_10 {p : Program} {l : Launch} {e : Env} {s : State} {m : MethodId} {args : Array Value} {below : List Frame} {meth : Method} {c : Code} {A : Nat → Prop} {Q : State → Prop} {D : va_G} {ca : Nat → ClassId} {a : Nat → Nat} {u : fw_S} {r : Int32}  (C : CX (WX ca a) D (tyv ca) p s m args c A prog_5_method_4_code 3 RX3) (hr : True → RX (WX ca a) D p l e rm_X_X3_entry__9 s m args below meth c A prog_5_method_4_code Q .ireturn [.int r] u) {t : fw_S} {x1 : Int32} {x2 : Int32} {H : Heap} {locs : List Loc} {ls : Array Slot} (hf : b_X_X3_entry__9_10  t x1 x2 = some (r, u)) (hP : va_P D classes (WX ca a t) H) (hS : va_S A s.heap H locs) (hl : lv_has ls 3 [(0, .ref (a 9)), (1, .int x1), (2, .int x2)]) : W p l e rm_X_X3_entry__9 s m args below meth c H locs 0 0 Q (F0 m 10 ls []) := by
  obtain ⟨hx, hb, hml, hown, hts, hN, hK, hD, hA⟩ := id C
  have hf : (if (st_I t 12) ≤ x1 then b_X_X3_entry__9_27 t else b_X_X3_entry__9_18 t x1 x2) = some (r, u) := hf
  refine lv_iload_n hx hb dX3_entry_10 rfl (lv_at hl 1 rfl) ?_
  refine lv_aload_n hx hb dX3_entry_11 rfl (lv_at hl 0 rfl) ?_
  refine va_get (D := D) (ci := 3) (v := .int (st_I t 12)) (C := RX3) (T := TX3) (N := 2) hx hb hts inX3 hown hK hP 9 (heX_9 ca a t) rfl 1 (by decide) (hts _ kw_320) (fun _ h9 => h9) rfl dX3_entry_12 ?_
  refine lv_icmp_ge (tgt := 27) hx hb dX3_entry_15 (by decide) (fun h_15 => ?_) (fun h_15 => ?_)
  · have hf := fb_t h_15 hf
    exact w_X_X3_entry__9_27 C hr hf hP hS (lv_sub hl [] rfl)
  · have hf := fb_f h_15 hf
    exact w_X_X3_entry__9_18 C hr hf hP hS (lv_sub hl [0, 1, 2] rfl)
set_option maxRecDepth 20000 in
theorem w_X_X3_entry__9_4 {p : Program} {l : Launch} {e : Env} {s : State} {m : MethodId} {args : Array Value} {below : List Frame} {meth : Method} {c : Code} {A : Nat → Prop} {Q : State → Prop} {D : va_G} {ca : Nat → ClassId} {a : Nat → Nat} {u : fw_S} {r : Int32}  (C : CX (WX ca a) D (tyv ca) p s m args c A prog_5_method_4_code 3 RX3) (hr : True → RX (WX ca a) D p l e rm_X_X3_entry__9 s m args below meth c A prog_5_method_4_code Q .ireturn [.int r] u) {t : fw_S} {x1 : Int32} {x2 : Int32} {H : Heap} {locs : List Loc} {ls : Array Slot} (hf : b_X_X3_entry__9_4  t x1 x2 = some (r, u)) (hP : va_P D classes (WX ca a t) H) (hS : va_S A s.heap H locs) (hl : lv_has ls 3 [(0, .ref (a 9)), (1, .int x1), (2, .int x2)]) : W p l e rm_X_X3_entry__9 s m args below meth c H locs 0 0 Q (F0 m 4 ls []) := by
  obtain ⟨hx, hb, hml, hown, hts, hN, hK, hD, hA⟩ := id C
  have hf : (if ((20 : Int32)) ≤ x1 then b_X_X3_entry__9_27 t else b_X_X3_entry__9_10 t x1 x2) = some (r, u) := hf
  refine lv_iload_n hx hb dX3_entry_4 rfl (lv_at hl 1 rfl) ?_
  refine lv_bipush (v := 20) hx hb dX3_entry_5 (by decide) ?_
  refine lv_icmp_ge (tgt := 27) hx hb dX3_entry_7 (by decide) (fun h_7 => ?_) (fun h_7 => ?_)
  · have hf := fb_t h_7 hf
    exact w_X_X3_entry__9_27 C hr hf hP hS (lv_sub hl [] rfl)
  · have hf := fb_f h_7 hf
    exact w_X_X3_entry__9_10 C hr hf hP hS (lv_sub hl [0, 1, 2] rfl)
set_option maxRecDepth 20000 in
theorem w_X_X3_entry__9_0 {p : Program} {l : Launch} {e : Env} {s : State} {m : MethodId} {args : Array Value} {below : List Frame} {meth : Method} {c : Code} {A : Nat → Prop} {Q : State → Prop} {D : va_G} {ca : Nat → ClassId} {a : Nat → Nat} {u : fw_S} {r : Int32}  (C : CX (WX ca a) D (tyv ca) p s m args c A prog_5_method_4_code 3 RX3) (hr : True → RX (WX ca a) D p l e rm_X_X3_entry__9 s m args below meth c A prog_5_method_4_code Q .ireturn [.int r] u) {t : fw_S} {x1 : Int32} {x2 : Int32} {H : Heap} {locs : List Loc} {ls : Array Slot} (hf : b_X_X3_entry__9_0  t x1 x2 = some (r, u)) (hP : va_P D classes (WX ca a t) H) (hS : va_S A s.heap H locs) (hl : lv_has ls 3 [(0, .ref (a 9)), (1, .int x1), (2, .int x2)]) : W p l e rm_X_X3_entry__9 s m args below meth c H locs 0 0 Q (F0 m 0 ls []) := by
  obtain ⟨hx, hb, hml, hown, hts, hN, hK, hD, hA⟩ := id C
  have hf : (if x1 < 0 then b_X_X3_entry__9_27 t else b_X_X3_entry__9_4 t x1 x2) = some (r, u) := hf
  refine lv_iload_n hx hb dX3_entry_0 rfl (lv_at hl 1 rfl) ?_
  refine lv_if_lt (tgt := 27) hx hb dX3_entry_1 (by decide) (fun h_1 => ?_) (fun h_1 => ?_)
  · have hf := fb_t h_1 hf
    exact w_X_X3_entry__9_27 C hr hf hP hS (lv_sub hl [] rfl)
  · have hf := fb_f h_1 hf
    exact w_X_X3_entry__9_4 C hr hf hP hS (lv_sub hl [0, 1, 2] rfl)
set_option maxRecDepth 20000 in
theorem c_X_X3_entry__9 {l : Launch} {D : va_G} {ca : Nat → ClassId} {a : Nat → Nat} {t : fw_S} {x1 : Int32} {x2 : Int32} {u : fw_S} {r : Int32} (hf : f_X_X3_entry__9 t x1 x2 = some (r, u)) : MC (WX ca a) D (tyv ca) l yX3_entry (.code yX3_entry prog_5_method_4_code 3 (some .int) :: lw_gd) rm_X_X3_entry__9 [.ref (a 9), .int x1, .int x2] (some (.int r)) t u := by
  refine fw_met (okX ca a) (by decide +kernel) rfl rfl (Nat.le_of_ble_eq_true rfl) ?_
  intro p e s m args below meth c A Q ls C hr hk hP hS hl hQ
  exact w_X_X3_entry__9_0 C (fun _ => fw_ri C hr hk hQ) hf hP hS (lv_sub hl [0, 1, 2] rfl)
/-! ReactiveSheet.past(II)I ['x'] -/
abbrev rm_X_X10_past__0 : Room := { frames := 2, cells := 0, slots := 0, locals := 44 }
def b_X_X10_past__0_0  (t : fw_S) (x1 : Int32) (x2 : Int32) : Option (Int32 × fw_S) := fb_b (f_X_X3_entry__9 t x1 x2) fun v_2 t_1 => (some (v_2, t_1))
def f_X_X10_past__0 (t : fw_S) (x1 : Int32) (x2 : Int32) : Option (Int32 × fw_S) := b_X_X10_past__0_0 t x1 x2
set_option maxRecDepth 20000 in
theorem w_X_X10_past__0_0 {p : Program} {l : Launch} {e : Env} {s : State} {m : MethodId} {args : Array Value} {below : List Frame} {meth : Method} {c : Code} {A : Nat → Prop} {Q : State → Prop} {D : va_G} {ca : Nat → ClassId} {a : Nat → Nat} {u : fw_S} {r : Int32}  (C : CX (WX ca a) D (tyv ca) p s m args c A prog_1_method_29_code 3 RX10) (hr : True → RX (WX ca a) D p l e rm_X_X10_past__0 s m args below meth c A prog_1_method_29_code Q .ireturn [.int r] u) {t : fw_S} {x1 : Int32} {x2 : Int32} {H : Heap} {locs : List Loc} {ls : Array Slot} (hf : b_X_X10_past__0_0  t x1 x2 = some (r, u)) (hP : va_P D classes (WX ca a t) H) (hS : va_S A s.heap H locs) (hl : lv_has ls 3 [(0, .ref (a 0)), (1, .int x1), (2, .int x2)]) : W p l e rm_X_X10_past__0 s m args below meth c H locs 0 0 Q (F0 m 0 ls []) := by
  obtain ⟨hx, hb, hml, hown, hts, hN, hK, hD, hA⟩ := id C
  have hf : (fb_b (f_X_X3_entry__9 t x1 x2) fun v_2 t_1 => (some (v_2, t_1))) = some (r, u) := hf
  refine lv_aload_n hx hb dX10_past_0 rfl (lv_at hl 0 rfl) ?_
  refine va_get (D := D) (ci := 10) (v := .ref (a 9)) (C := RX10) (T := TX10) (N := 13) hx hb hts inX10 hown hK hP 0 (heX_0 ca a t) rfl 6 (by decide) (hts _ kw_360) (fun _ h9 => h9) rfl dX10_past_1 ?_
  refine lv_iload_n hx hb dX10_past_4 rfl (lv_at hl 1 rfl) ?_
  refine lv_iload_n hx hb dX10_past_5 rfl (lv_at hl 2 rfl) ?_
  obtain ⟨v_2, t_1, g_6, hf⟩ := fb_bs hf
  refine fw_V1 (As := [.int x1, .int x2]) (rest := []) (n := 2) (q0 := 9) C (c_X_X3_entry__9 (l := l) (D := D) (ca := ca) (a := a) g_6) kw_1095 kw_1096 kw_99 kw_1098 kw_1097 hP hS hl (heX_9 ca a t) rfl rfl rfl (by decide) (by decide +kernel) ⟨Nat.le_of_ble_eq_true rfl, Nat.le_of_ble_eq_true rfl⟩ rfl rfl (Nat.le_of_ble_eq_true rfl) dX10_past_6 (fun H locs hP hS => ?_)
  refine W.eq (g2 := F0 m 9 ls [.int v_2]) rfl ?_
  obtain ⟨e_9, e2_9⟩ := fb_e hf
  subst e_9; subst e2_9
  exact hr trivial _ _ _ _ hP hS dX10_past_9
set_option maxRecDepth 20000 in
theorem c_X_X10_past__0 {l : Launch} {D : va_G} {ca : Nat → ClassId} {a : Nat → Nat} {t : fw_S} {x1 : Int32} {x2 : Int32} {u : fw_S} {r : Int32} (hf : f_X_X10_past__0 t x1 x2 = some (r, u)) : MC (WX ca a) D (tyv ca) l yX10_past (.code yX10_past prog_1_method_29_code 3 (some .int) :: lw_gd) rm_X_X10_past__0 [.ref (a 0), .int x1, .int x2] (some (.int r)) t u := by
  refine fw_met (okX ca a) (by decide +kernel) rfl rfl (Nat.le_of_ble_eq_true rfl) ?_
  intro p e s m args below meth c A Q ls C hr hk hP hS hl hQ
  exact w_X_X10_past__0_0 C (fun _ => fw_ri C hr hk hQ) hf hP hS (lv_sub hl [0, 1, 2] rfl)
/-! ReactiveSheet.Lists.isList(I)Z ['x.lists'] -/
abbrev rm_X_X4_isList__10 : Room := { frames := 0, cells := 0, slots := 0, locals := 0 }
def b_X_X4_isList__10_14  (t : fw_S) (z0 : Int32) : Option (Int32 × fw_S) := fb_g (z0 = 0 ∨ z0 = 1) (some (z0, t))
def b_X_X4_isList__10_13  (t : fw_S)  : Option (Int32 × fw_S) := b_X_X4_isList__10_14 t ((0 : Int32))
def b_X_X4_isList__10_9  (t : fw_S)  : Option (Int32 × fw_S) := b_X_X4_isList__10_14 t ((1 : Int32))
def b_X_X4_isList__10_4  (t : fw_S) (x1 : Int32) : Option (Int32 × fw_S) := if ((4 : Int32)) ≤ x1 then b_X_X4_isList__10_13 t else b_X_X4_isList__10_9 t
def b_X_X4_isList__10_0  (t : fw_S) (x1 : Int32) : Option (Int32 × fw_S) := if x1 < 0 then b_X_X4_isList__10_13 t else b_X_X4_isList__10_4 t x1
def f_X_X4_isList__10 (t : fw_S) (x1 : Int32) : Option (Int32 × fw_S) := b_X_X4_isList__10_0 t x1
set_option maxRecDepth 20000 in
theorem w_X_X4_isList__10_14 {p : Program} {l : Launch} {e : Env} {s : State} {m : MethodId} {args : Array Value} {below : List Frame} {meth : Method} {c : Code} {A : Nat → Prop} {Q : State → Prop} {D : va_G} {ca : Nat → ClassId} {a : Nat → Nat} {u : fw_S} {r : Int32}  (C : CX (WX ca a) D (tyv ca) p s m args c A prog_6_method_2_code 2 RX4) (hr : (r = 0 ∨ r = 1) → RX (WX ca a) D p l e rm_X_X4_isList__10 s m args below meth c A prog_6_method_2_code Q .ireturn [.int r] u) {t : fw_S} {z0 : Int32} {H : Heap} {locs : List Loc} {ls : Array Slot} (hf : b_X_X4_isList__10_14  t z0 = some (r, u)) (hP : va_P D classes (WX ca a t) H) (hS : va_S A s.heap H locs) (hl : lv_has ls 2 []) : W p l e rm_X_X4_isList__10 s m args below meth c H locs 0 0 Q (F0 m 14 ls [.int z0]) := by
  obtain ⟨hx, hb, hml, hown, hts, hN, hK, hD, hA⟩ := id C
  have hf : (fb_g (z0 = 0 ∨ z0 = 1) (some (z0, t))) = some (r, u) := hf
  obtain ⟨h_14, hf⟩ := fb_if hf
  obtain ⟨e_14, e2_14⟩ := fb_e hf
  subst e_14; subst e2_14
  exact hr h_14 _ _ _ _ hP hS dX4_isList_14
set_option maxRecDepth 20000 in
theorem w_X_X4_isList__10_13 {p : Program} {l : Launch} {e : Env} {s : State} {m : MethodId} {args : Array Value} {below : List Frame} {meth : Method} {c : Code} {A : Nat → Prop} {Q : State → Prop} {D : va_G} {ca : Nat → ClassId} {a : Nat → Nat} {u : fw_S} {r : Int32}  (C : CX (WX ca a) D (tyv ca) p s m args c A prog_6_method_2_code 2 RX4) (hr : (r = 0 ∨ r = 1) → RX (WX ca a) D p l e rm_X_X4_isList__10 s m args below meth c A prog_6_method_2_code Q .ireturn [.int r] u) {t : fw_S}  {H : Heap} {locs : List Loc} {ls : Array Slot} (hf : b_X_X4_isList__10_13  t  = some (r, u)) (hP : va_P D classes (WX ca a t) H) (hS : va_S A s.heap H locs) (hl : lv_has ls 2 []) : W p l e rm_X_X4_isList__10 s m args below meth c H locs 0 0 Q (F0 m 13 ls []) := by
  obtain ⟨hx, hb, hml, hown, hts, hN, hK, hD, hA⟩ := id C
  have hf : (b_X_X4_isList__10_14 t ((0 : Int32))) = some (r, u) := hf
  refine lv_iconst (v := 0) hx hb dX4_isList_13 (by decide) ?_
  exact w_X_X4_isList__10_14 C hr hf hP hS (lv_sub hl [] rfl)
set_option maxRecDepth 20000 in
theorem w_X_X4_isList__10_9 {p : Program} {l : Launch} {e : Env} {s : State} {m : MethodId} {args : Array Value} {below : List Frame} {meth : Method} {c : Code} {A : Nat → Prop} {Q : State → Prop} {D : va_G} {ca : Nat → ClassId} {a : Nat → Nat} {u : fw_S} {r : Int32}  (C : CX (WX ca a) D (tyv ca) p s m args c A prog_6_method_2_code 2 RX4) (hr : (r = 0 ∨ r = 1) → RX (WX ca a) D p l e rm_X_X4_isList__10 s m args below meth c A prog_6_method_2_code Q .ireturn [.int r] u) {t : fw_S}  {H : Heap} {locs : List Loc} {ls : Array Slot} (hf : b_X_X4_isList__10_9  t  = some (r, u)) (hP : va_P D classes (WX ca a t) H) (hS : va_S A s.heap H locs) (hl : lv_has ls 2 []) : W p l e rm_X_X4_isList__10 s m args below meth c H locs 0 0 Q (F0 m 9 ls []) := by
  obtain ⟨hx, hb, hml, hown, hts, hN, hK, hD, hA⟩ := id C
  have hf : (b_X_X4_isList__10_14 t ((1 : Int32))) = some (r, u) := hf
  refine lv_iconst (v := 1) hx hb dX4_isList_9 (by decide) ?_
  refine lv_goto (tgt := 14) hx hb dX4_isList_10 (by decide) ?_
  exact w_X_X4_isList__10_14 C hr hf hP hS (lv_sub hl [] rfl)
set_option maxRecDepth 20000 in
theorem w_X_X4_isList__10_4 {p : Program} {l : Launch} {e : Env} {s : State} {m : MethodId} {args : Array Value} {below : List Frame} {meth : Method} {c : Code} {A : Nat → Prop} {Q : State → Prop} {D : va_G} {ca : Nat → ClassId} {a : Nat → Nat} {u : fw_S} {r : Int32}  (C : CX (WX ca a) D (tyv ca) p s m args c A prog_6_method_2_code 2 RX4) (hr : (r = 0 ∨ r = 1) → RX (WX ca a) D p l e rm_X_X4_isList__10 s m args below meth c A prog_6_method_2_code Q .ireturn [.int r] u) {t : fw_S} {x1 : Int32} {H : Heap} {locs : List Loc} {ls : Array Slot} (hf : b_X_X4_isList__10_4  t x1 = some (r, u)) (hP : va_P D classes (WX ca a t) H) (hS : va_S A s.heap H locs) (hl : lv_has ls 2 [(1, .int x1)]) : W p l e rm_X_X4_isList__10 s m args below meth c H locs 0 0 Q (F0 m 4 ls []) := by
  obtain ⟨hx, hb, hml, hown, hts, hN, hK, hD, hA⟩ := id C
  have hf : (if ((4 : Int32)) ≤ x1 then b_X_X4_isList__10_13 t else b_X_X4_isList__10_9 t) = some (r, u) := hf
  refine lv_iload_n hx hb dX4_isList_4 rfl (lv_at hl 0 rfl) ?_
  refine lv_iconst (v := 4) hx hb dX4_isList_5 (by decide) ?_
  refine lv_icmp_ge (tgt := 13) hx hb dX4_isList_6 (by decide) (fun h_6 => ?_) (fun h_6 => ?_)
  · have hf := fb_t h_6 hf
    exact w_X_X4_isList__10_13 C hr hf hP hS (lv_sub hl [] rfl)
  · have hf := fb_f h_6 hf
    exact w_X_X4_isList__10_9 C hr hf hP hS (lv_sub hl [] rfl)
set_option maxRecDepth 20000 in
theorem w_X_X4_isList__10_0 {p : Program} {l : Launch} {e : Env} {s : State} {m : MethodId} {args : Array Value} {below : List Frame} {meth : Method} {c : Code} {A : Nat → Prop} {Q : State → Prop} {D : va_G} {ca : Nat → ClassId} {a : Nat → Nat} {u : fw_S} {r : Int32}  (C : CX (WX ca a) D (tyv ca) p s m args c A prog_6_method_2_code 2 RX4) (hr : (r = 0 ∨ r = 1) → RX (WX ca a) D p l e rm_X_X4_isList__10 s m args below meth c A prog_6_method_2_code Q .ireturn [.int r] u) {t : fw_S} {x1 : Int32} {H : Heap} {locs : List Loc} {ls : Array Slot} (hf : b_X_X4_isList__10_0  t x1 = some (r, u)) (hP : va_P D classes (WX ca a t) H) (hS : va_S A s.heap H locs) (hl : lv_has ls 2 [(1, .int x1)]) : W p l e rm_X_X4_isList__10 s m args below meth c H locs 0 0 Q (F0 m 0 ls []) := by
  obtain ⟨hx, hb, hml, hown, hts, hN, hK, hD, hA⟩ := id C
  have hf : (if x1 < 0 then b_X_X4_isList__10_13 t else b_X_X4_isList__10_4 t x1) = some (r, u) := hf
  refine lv_iload_n hx hb dX4_isList_0 rfl (lv_at hl 0 rfl) ?_
  refine lv_if_lt (tgt := 13) hx hb dX4_isList_1 (by decide) (fun h_1 => ?_) (fun h_1 => ?_)
  · have hf := fb_t h_1 hf
    exact w_X_X4_isList__10_13 C hr hf hP hS (lv_sub hl [] rfl)
  · have hf := fb_f h_1 hf
    exact w_X_X4_isList__10_4 C hr hf hP hS (lv_sub hl [0] rfl)
set_option maxRecDepth 20000 in
theorem c_X_X4_isList__10 {l : Launch} {D : va_G} {ca : Nat → ClassId} {a : Nat → Nat} {t : fw_S} {x1 : Int32} {u : fw_S} {r : Int32} (hf : f_X_X4_isList__10 t x1 = some (r, u)) : MC (WX ca a) D (tyv ca) l yX4_isList (.code yX4_isList prog_6_method_2_code 2 (some .boolean) :: lw_gd) rm_X_X4_isList__10 [.ref (a 10), .int x1] (some (.int r)) t u := by
  refine fw_met (okX ca a) (by decide +kernel) rfl rfl (Nat.le_of_ble_eq_true rfl) ?_
  intro p e s m args below meth c A Q ls C hr hk hP hS hl hQ
  exact w_X_X4_isList__10_0 C (fun hz => fw_rz C hr hk hz hQ) hf hP hS (lv_sub hl [1] rfl)
/-! java/util/Arrays.rangeCheck(III)V [] -/
abbrev rm_X_J7_rangeCheck_23922 : Room := { frames := 0, cells := 0, slots := 0, locals := 0 }
def b_X_J7_rangeCheck_23922_73  (t : fw_S)  : Option fw_S := some t
def b_X_J7_rangeCheck_23922_64  (t : fw_S) (x2 : Int32) : Option fw_S := none
def b_X_J7_rangeCheck_23922_59  (t : fw_S) (x0 : Int32) (x2 : Int32) : Option fw_S := if x2 ≤ x0 then b_X_J7_rangeCheck_23922_73 t else b_X_J7_rangeCheck_23922_64 t x2
def b_X_J7_rangeCheck_23922_50  (t : fw_S) (x0 : Int32) (x1 : Int32) (x2 : Int32) : Option fw_S := none
def b_X_J7_rangeCheck_23922_46  (t : fw_S) (x0 : Int32) (x1 : Int32) (x2 : Int32) : Option fw_S := if 0 ≤ x1 then b_X_J7_rangeCheck_23922_59 t x0 x2 else b_X_J7_rangeCheck_23922_50 t x0 x1 x2
def b_X_J7_rangeCheck_23922_5  (t : fw_S) (x0 : Int32) (x1 : Int32) (x2 : Int32) : Option fw_S := none
def b_X_J7_rangeCheck_23922_0  (t : fw_S) (x0 : Int32) (x1 : Int32) (x2 : Int32) : Option fw_S := if x1 ≤ x2 then b_X_J7_rangeCheck_23922_46 t x0 x1 x2 else b_X_J7_rangeCheck_23922_5 t x0 x1 x2
def f_X_J7_rangeCheck_23922 (t : fw_S) (x0 : Int32) (x1 : Int32) (x2 : Int32) : Option fw_S := b_X_J7_rangeCheck_23922_0 t x0 x1 x2
set_option maxRecDepth 20000 in
theorem w_X_J7_rangeCheck_23922_73 {p : Program} {l : Launch} {e : Env} {s : State} {m : MethodId} {args : Array Value} {below : List Frame} {meth : Method} {c : Code} {A : Nat → Prop} {Q : State → Prop} {D : va_G} {ca : Nat → ClassId} {a : Nat → Nat} {u : fw_S}  (C : CX (WX ca a) D (tyv ca) p s m args c A prog_18_method_30_code 3 RJ7) (hr : True → RX (WX ca a) D p l e rm_X_J7_rangeCheck_23922 s m args below meth c A prog_18_method_30_code Q .return_ [] u) {t : fw_S}  {H : Heap} {locs : List Loc} {ls : Array Slot} (hf : b_X_J7_rangeCheck_23922_73  t  = some u) (hP : va_P D classes (WX ca a t) H) (hS : va_S A s.heap H locs) (hl : lv_has ls 3 []) : W p l e rm_X_J7_rangeCheck_23922 s m args below meth c H locs 0 0 Q (F0 m 73 ls []) := by
  obtain ⟨hx, hb, hml, hown, hts, hN, hK, hD, hA⟩ := id C
  have hf : (some t) = some u := hf
  have e_73 := fb_ev hf
  subst e_73
  exact hr trivial _ _ _ _ hP hS dJ7_rangeCheck_23922_73
set_option maxRecDepth 20000 in
theorem w_X_J7_rangeCheck_23922_64 {p : Program} {l : Launch} {e : Env} {s : State} {m : MethodId} {args : Array Value} {below : List Frame} {meth : Method} {c : Code} {A : Nat → Prop} {Q : State → Prop} {D : va_G} {ca : Nat → ClassId} {a : Nat → Nat} {u : fw_S}  (C : CX (WX ca a) D (tyv ca) p s m args c A prog_18_method_30_code 3 RJ7) (hr : True → RX (WX ca a) D p l e rm_X_J7_rangeCheck_23922 s m args below meth c A prog_18_method_30_code Q .return_ [] u) {t : fw_S} {x2 : Int32} {H : Heap} {locs : List Loc} {ls : Array Slot} (hf : b_X_J7_rangeCheck_23922_64  t x2 = some u) (hP : va_P D classes (WX ca a t) H) (hS : va_S A s.heap H locs) (hl : lv_has ls 3 [(2, .int x2)]) : W p l e rm_X_J7_rangeCheck_23922 s m args below meth c H locs 0 0 Q (F0 m 64 ls []) := by
  obtain ⟨hx, hb, hml, hown, hts, hN, hK, hD, hA⟩ := id C
  have hf : (none) = some u := hf
  cases hf
set_option maxRecDepth 20000 in
theorem w_X_J7_rangeCheck_23922_59 {p : Program} {l : Launch} {e : Env} {s : State} {m : MethodId} {args : Array Value} {below : List Frame} {meth : Method} {c : Code} {A : Nat → Prop} {Q : State → Prop} {D : va_G} {ca : Nat → ClassId} {a : Nat → Nat} {u : fw_S}  (C : CX (WX ca a) D (tyv ca) p s m args c A prog_18_method_30_code 3 RJ7) (hr : True → RX (WX ca a) D p l e rm_X_J7_rangeCheck_23922 s m args below meth c A prog_18_method_30_code Q .return_ [] u) {t : fw_S} {x0 : Int32} {x2 : Int32} {H : Heap} {locs : List Loc} {ls : Array Slot} (hf : b_X_J7_rangeCheck_23922_59  t x0 x2 = some u) (hP : va_P D classes (WX ca a t) H) (hS : va_S A s.heap H locs) (hl : lv_has ls 3 [(0, .int x0), (2, .int x2)]) : W p l e rm_X_J7_rangeCheck_23922 s m args below meth c H locs 0 0 Q (F0 m 59 ls []) := by
  obtain ⟨hx, hb, hml, hown, hts, hN, hK, hD, hA⟩ := id C
  have hf : (if x2 ≤ x0 then b_X_J7_rangeCheck_23922_73 t else b_X_J7_rangeCheck_23922_64 t x2) = some u := hf
  refine lv_iload_n hx hb dJ7_rangeCheck_23922_59 rfl (lv_at hl 1 rfl) ?_
  refine lv_iload_n hx hb dJ7_rangeCheck_23922_60 rfl (lv_at hl 0 rfl) ?_
  refine lv_icmp_le (tgt := 73) hx hb dJ7_rangeCheck_23922_61 (by decide) (fun h_61 => ?_) (fun h_61 => ?_)
  · have hf := fb_t h_61 hf
    exact w_X_J7_rangeCheck_23922_73 C hr hf hP hS (lv_sub hl [] rfl)
  · have hf := fb_f h_61 hf
    exact w_X_J7_rangeCheck_23922_64 C hr hf hP hS (lv_sub hl [1] rfl)
set_option maxRecDepth 20000 in
theorem w_X_J7_rangeCheck_23922_50 {p : Program} {l : Launch} {e : Env} {s : State} {m : MethodId} {args : Array Value} {below : List Frame} {meth : Method} {c : Code} {A : Nat → Prop} {Q : State → Prop} {D : va_G} {ca : Nat → ClassId} {a : Nat → Nat} {u : fw_S}  (C : CX (WX ca a) D (tyv ca) p s m args c A prog_18_method_30_code 3 RJ7) (hr : True → RX (WX ca a) D p l e rm_X_J7_rangeCheck_23922 s m args below meth c A prog_18_method_30_code Q .return_ [] u) {t : fw_S} {x0 : Int32} {x1 : Int32} {x2 : Int32} {H : Heap} {locs : List Loc} {ls : Array Slot} (hf : b_X_J7_rangeCheck_23922_50  t x0 x1 x2 = some u) (hP : va_P D classes (WX ca a t) H) (hS : va_S A s.heap H locs) (hl : lv_has ls 3 [(0, .int x0), (1, .int x1), (2, .int x2)]) : W p l e rm_X_J7_rangeCheck_23922 s m args below meth c H locs 0 0 Q (F0 m 50 ls []) := by
  obtain ⟨hx, hb, hml, hown, hts, hN, hK, hD, hA⟩ := id C
  have hf : (none) = some u := hf
  cases hf
set_option maxRecDepth 20000 in
theorem w_X_J7_rangeCheck_23922_46 {p : Program} {l : Launch} {e : Env} {s : State} {m : MethodId} {args : Array Value} {below : List Frame} {meth : Method} {c : Code} {A : Nat → Prop} {Q : State → Prop} {D : va_G} {ca : Nat → ClassId} {a : Nat → Nat} {u : fw_S}  (C : CX (WX ca a) D (tyv ca) p s m args c A prog_18_method_30_code 3 RJ7) (hr : True → RX (WX ca a) D p l e rm_X_J7_rangeCheck_23922 s m args below meth c A prog_18_method_30_code Q .return_ [] u) {t : fw_S} {x0 : Int32} {x1 : Int32} {x2 : Int32} {H : Heap} {locs : List Loc} {ls : Array Slot} (hf : b_X_J7_rangeCheck_23922_46  t x0 x1 x2 = some u) (hP : va_P D classes (WX ca a t) H) (hS : va_S A s.heap H locs) (hl : lv_has ls 3 [(0, .int x0), (1, .int x1), (2, .int x2)]) : W p l e rm_X_J7_rangeCheck_23922 s m args below meth c H locs 0 0 Q (F0 m 46 ls []) := by
  obtain ⟨hx, hb, hml, hown, hts, hN, hK, hD, hA⟩ := id C
  have hf : (if 0 ≤ x1 then b_X_J7_rangeCheck_23922_59 t x0 x2 else b_X_J7_rangeCheck_23922_50 t x0 x1 x2) = some u := hf
  refine lv_iload_n hx hb dJ7_rangeCheck_23922_46 rfl (lv_at hl 1 rfl) ?_
  refine lv_if_ge (tgt := 59) hx hb dJ7_rangeCheck_23922_47 (by decide) (fun h_47 => ?_) (fun h_47 => ?_)
  · have hf := fb_t h_47 hf
    exact w_X_J7_rangeCheck_23922_59 C hr hf hP hS (lv_sub hl [0, 2] rfl)
  · have hf := fb_f h_47 hf
    exact w_X_J7_rangeCheck_23922_50 C hr hf hP hS (lv_sub hl [0, 1, 2] rfl)
set_option maxRecDepth 20000 in
theorem w_X_J7_rangeCheck_23922_5 {p : Program} {l : Launch} {e : Env} {s : State} {m : MethodId} {args : Array Value} {below : List Frame} {meth : Method} {c : Code} {A : Nat → Prop} {Q : State → Prop} {D : va_G} {ca : Nat → ClassId} {a : Nat → Nat} {u : fw_S}  (C : CX (WX ca a) D (tyv ca) p s m args c A prog_18_method_30_code 3 RJ7) (hr : True → RX (WX ca a) D p l e rm_X_J7_rangeCheck_23922 s m args below meth c A prog_18_method_30_code Q .return_ [] u) {t : fw_S} {x0 : Int32} {x1 : Int32} {x2 : Int32} {H : Heap} {locs : List Loc} {ls : Array Slot} (hf : b_X_J7_rangeCheck_23922_5  t x0 x1 x2 = some u) (hP : va_P D classes (WX ca a t) H) (hS : va_S A s.heap H locs) (hl : lv_has ls 3 [(0, .int x0), (1, .int x1), (2, .int x2)]) : W p l e rm_X_J7_rangeCheck_23922 s m args below meth c H locs 0 0 Q (F0 m 5 ls []) := by
  obtain ⟨hx, hb, hml, hown, hts, hN, hK, hD, hA⟩ := id C
  have hf : (none) = some u := hf
  cases hf
set_option maxRecDepth 20000 in
theorem w_X_J7_rangeCheck_23922_0 {p : Program} {l : Launch} {e : Env} {s : State} {m : MethodId} {args : Array Value} {below : List Frame} {meth : Method} {c : Code} {A : Nat → Prop} {Q : State → Prop} {D : va_G} {ca : Nat → ClassId} {a : Nat → Nat} {u : fw_S}  (C : CX (WX ca a) D (tyv ca) p s m args c A prog_18_method_30_code 3 RJ7) (hr : True → RX (WX ca a) D p l e rm_X_J7_rangeCheck_23922 s m args below meth c A prog_18_method_30_code Q .return_ [] u) {t : fw_S} {x0 : Int32} {x1 : Int32} {x2 : Int32} {H : Heap} {locs : List Loc} {ls : Array Slot} (hf : b_X_J7_rangeCheck_23922_0  t x0 x1 x2 = some u) (hP : va_P D classes (WX ca a t) H) (hS : va_S A s.heap H locs) (hl : lv_has ls 3 [(0, .int x0), (1, .int x1), (2, .int x2)]) : W p l e rm_X_J7_rangeCheck_23922 s m args below meth c H locs 0 0 Q (F0 m 0 ls []) := by
  obtain ⟨hx, hb, hml, hown, hts, hN, hK, hD, hA⟩ := id C
  have hf : (if x1 ≤ x2 then b_X_J7_rangeCheck_23922_46 t x0 x1 x2 else b_X_J7_rangeCheck_23922_5 t x0 x1 x2) = some u := hf
  refine lv_iload_n hx hb dJ7_rangeCheck_23922_0 rfl (lv_at hl 1 rfl) ?_
  refine lv_iload_n hx hb dJ7_rangeCheck_23922_1 rfl (lv_at hl 2 rfl) ?_
  refine lv_icmp_le (tgt := 46) hx hb dJ7_rangeCheck_23922_2 (by decide) (fun h_2 => ?_) (fun h_2 => ?_)
  · have hf := fb_t h_2 hf
    exact w_X_J7_rangeCheck_23922_46 C hr hf hP hS (lv_sub hl [0, 1, 2] rfl)
  · have hf := fb_f h_2 hf
    exact w_X_J7_rangeCheck_23922_5 C hr hf hP hS (lv_sub hl [0, 1, 2] rfl)
set_option maxRecDepth 20000 in
theorem c_X_J7_rangeCheck_23922 {l : Launch} {D : va_G} {ca : Nat → ClassId} {a : Nat → Nat} {t : fw_S} {x0 : Int32} {x1 : Int32} {x2 : Int32} {u : fw_S} (hf : f_X_J7_rangeCheck_23922 t x0 x1 x2 = some u) : MC (WX ca a) D (tyv ca) l yJ7_rangeCheck_23922 (.code yJ7_rangeCheck_23922 prog_18_method_30_code 3 none :: lw_gd) rm_X_J7_rangeCheck_23922 [.int x0, .int x1, .int x2] none t u := by
  refine fw_met (okX ca a) (by decide +kernel) rfl rfl (Nat.le_of_ble_eq_true rfl) ?_
  intro p e s m args below meth c A Q ls C hr hk hP hS hl hQ
  exact w_X_J7_rangeCheck_23922_0 C (fun _ => fw_rv C hr hk hQ) hf hP hS (lv_sub hl [0, 1, 2] rfl)
/-! java/util/Arrays.fill([JIIJ)V ['x.lists.places'] -/
abbrev rm_X_J7_fill_bad5a__58 : Room := { frames := 1, cells := 0, slots := 0, locals := 22 }
def b_X_J7_fill_bad5a__58_27  (t : fw_S)  : Option fw_S := some t
def b_X_J7_fill_bad5a__58_16 (k10 : fw_S → Int32 → Int64 → Int32 → Option fw_S) (t : fw_S) (x2 : Int32) (y3 : Int64) (x5 : Int32) : Option fw_S := fb_g (¬ (x5 < 0 ∨ 160 ≤ x5.toNatClampNeg)) (fb_l (up_G t 10 (vp_updL (st_G t 10) x5.toNatClampNeg y3)) fun t_1 => (k10 t_1 x2 y3 (x5 + 1)))
def b_X_J7_fill_bad5a__58_10  : Nat → (fw_S → Int32 → Int64 → Int32 → Option fw_S)
  | 0 => fun _ _ _ _ => none
  | n + 1 => fun t x2 y3 x5 => if x2 ≤ x5 then b_X_J7_fill_bad5a__58_27 t else b_X_J7_fill_bad5a__58_16 (b_X_J7_fill_bad5a__58_10 n) t x2 y3 x5
def b_X_J7_fill_bad5a__58_0  (t : fw_S) (x1 : Int32) (x2 : Int32) (y3 : Int64) : Option fw_S := fb_v (f_X_J7_rangeCheck_23922 t ((160 : Int32)) x1 x2) fun t_1 => (b_X_J7_fill_bad5a__58_10 3000 t_1 x2 y3 x1)
def f_X_J7_fill_bad5a__58 (t : fw_S) (x1 : Int32) (x2 : Int32) (y3 : Int64) : Option fw_S := b_X_J7_fill_bad5a__58_0 t x1 x2 y3
set_option maxRecDepth 20000 in
theorem w_X_J7_fill_bad5a__58_27 {p : Program} {l : Launch} {e : Env} {s : State} {m : MethodId} {args : Array Value} {below : List Frame} {meth : Method} {c : Code} {A : Nat → Prop} {Q : State → Prop} {D : va_G} {ca : Nat → ClassId} {a : Nat → Nat} {u : fw_S}  (C : CX (WX ca a) D (tyv ca) p s m args c A prog_18_method_102_code 6 RJ7) (hr : True → RX (WX ca a) D p l e rm_X_J7_fill_bad5a__58 s m args below meth c A prog_18_method_102_code Q .return_ [] u) {t : fw_S}  {H : Heap} {locs : List Loc} {ls : Array Slot} (hf : b_X_J7_fill_bad5a__58_27  t  = some u) (hP : va_P D classes (WX ca a t) H) (hS : va_S A s.heap H locs) (hl : lv_has ls 6 []) : W p l e rm_X_J7_fill_bad5a__58 s m args below meth c H locs 0 0 Q (F0 m 27 ls []) := by
  obtain ⟨hx, hb, hml, hown, hts, hN, hK, hD, hA⟩ := id C
  have hf : (some t) = some u := hf
  have e_27 := fb_ev hf
  subst e_27
  exact hr trivial _ _ _ _ hP hS dJ7_fill_bad5a_27
set_option maxRecDepth 20000 in
theorem w_X_J7_fill_bad5a__58_16 {p : Program} {l : Launch} {e : Env} {s : State} {m : MethodId} {args : Array Value} {below : List Frame} {meth : Method} {c : Code} {A : Nat → Prop} {Q : State → Prop} {D : va_G} {ca : Nat → ClassId} {a : Nat → Nat} {u : fw_S} {k10 : fw_S → Int32 → Int64 → Int32 → Option fw_S} (C : CX (WX ca a) D (tyv ca) p s m args c A prog_18_method_102_code 6 RJ7) (hr : True → RX (WX ca a) D p l e rm_X_J7_fill_bad5a__58 s m args below meth c A prog_18_method_102_code Q .return_ [] u) (hk10 : ∀ (t : fw_S) (x2 : Int32) (y3 : Int64) (x5 : Int32) (H : Heap) (locs : List Loc) (ls : Array Slot), k10 t x2 y3 x5 = some u → va_P D classes (WX ca a t) H → va_S A s.heap H locs → lv_has ls 6 [(0, .ref (a 58)), (2, .int x2), (3, .long y3), (5, .int x5)] → W p l e rm_X_J7_fill_bad5a__58 s m args below meth c H locs 0 0 Q (F0 m 10 ls [])) {t : fw_S} {x2 : Int32} {y3 : Int64} {x5 : Int32} {H : Heap} {locs : List Loc} {ls : Array Slot} (hf : b_X_J7_fill_bad5a__58_16 k10 t x2 y3 x5 = some u) (hP : va_P D classes (WX ca a t) H) (hS : va_S A s.heap H locs) (hl : lv_has ls 6 [(0, .ref (a 58)), (2, .int x2), (3, .long y3), (5, .int x5)]) : W p l e rm_X_J7_fill_bad5a__58 s m args below meth c H locs 0 0 Q (F0 m 16 ls []) := by
  obtain ⟨hx, hb, hml, hown, hts, hN, hK, hD, hA⟩ := id C
  have hf : (fb_g (¬ (x5 < 0 ∨ 160 ≤ x5.toNatClampNeg)) (fb_l (up_G t 10 (vp_updL (st_G t 10) x5.toNatClampNeg y3)) fun t_1 => (k10 t_1 x2 y3 (x5 + 1)))) = some u := hf
  refine lv_aload_n hx hb dJ7_fill_bad5a_16 rfl (lv_at hl 0 rfl) ?_
  refine lv_iload hx hb dJ7_fill_bad5a_17 (lv_at hl 3 rfl) ?_
  refine lv_lload_n hx hb dJ7_fill_bad5a_19 rfl (lv_at hl 2 rfl) ?_
  obtain ⟨h_20, hf⟩ := fb_if hf
  refine va_last hx hb hK hP (hD t) hS 58 1 (haX_58 ca a t) rfl h_20 dJ7_fill_bad5a_20 (fun H locs hP _ hS => ?_)
  rw [saX_58] at hP
  obtain ⟨t_1, e_20, hf⟩ := fb_ls hf
  rw [← e_20] at hP
  refine lv_iinc (v := x5 + 1) (lv' := [(5, .int (x5 + 1)), (0, .ref (a 58)), (2, .int x2), (3, .long y3)]) hx hb dJ7_fill_bad5a_21 hl (k := 3) rfl rfl (by decide) rfl (fun ls hl => ?_)
  refine lv_goto (tgt := 10) hx hb dJ7_fill_bad5a_24 (by decide) ?_
  exact hk10 t_1 x2 y3 (x5 + 1) _ _ _ hf hP hS (lv_sub hl [1, 2, 3, 0] rfl)
set_option maxRecDepth 20000 in
theorem w_X_J7_fill_bad5a__58_10 {p : Program} {l : Launch} {e : Env} {s : State} {m : MethodId} {args : Array Value} {below : List Frame} {meth : Method} {c : Code} {A : Nat → Prop} {Q : State → Prop} {D : va_G} {ca : Nat → ClassId} {a : Nat → Nat} {u : fw_S}  (C : CX (WX ca a) D (tyv ca) p s m args c A prog_18_method_102_code 6 RJ7) (hr : True → RX (WX ca a) D p l e rm_X_J7_fill_bad5a__58 s m args below meth c A prog_18_method_102_code Q .return_ [] u) : ∀ (n : Nat) (t : fw_S) (x2 : Int32) (y3 : Int64) (x5 : Int32) (H : Heap) (locs : List Loc) (ls : Array Slot), b_X_J7_fill_bad5a__58_10  n t x2 y3 x5 = some u → va_P D classes (WX ca a t) H → va_S A s.heap H locs → lv_has ls 6 [(0, .ref (a 58)), (2, .int x2), (3, .long y3), (5, .int x5)] → W p l e rm_X_J7_fill_bad5a__58 s m args below meth c H locs 0 0 Q (F0 m 10 ls []) := by
  obtain ⟨hx, hb, hml, hown, hts, hN, hK, hD, hA⟩ := id C
  intro n
  induction n with
  | zero => intro t x2 y3 x5 H locs ls hf; cases hf
  | succ n hk10 =>
    intro t x2 y3 x5 H locs ls hf hP hS hl
    have hf : (if x2 ≤ x5 then b_X_J7_fill_bad5a__58_27 t else b_X_J7_fill_bad5a__58_16 (b_X_J7_fill_bad5a__58_10 n) t x2 y3 x5) = some u := hf
    refine lv_iload hx hb dJ7_fill_bad5a_10 (lv_at hl 3 rfl) ?_
    refine lv_iload_n hx hb dJ7_fill_bad5a_12 rfl (lv_at hl 1 rfl) ?_
    refine lv_icmp_ge (tgt := 27) hx hb dJ7_fill_bad5a_13 (by decide) (fun h_13 => ?_) (fun h_13 => ?_)
    · have hf := fb_t h_13 hf
      exact w_X_J7_fill_bad5a__58_27 C hr hf hP hS (lv_sub hl [] rfl)
    · have hf := fb_f h_13 hf
      exact w_X_J7_fill_bad5a__58_16 C hr hk10 hf hP hS (lv_sub hl [0, 1, 2, 3] rfl)
set_option maxRecDepth 20000 in
theorem w_X_J7_fill_bad5a__58_0 {p : Program} {l : Launch} {e : Env} {s : State} {m : MethodId} {args : Array Value} {below : List Frame} {meth : Method} {c : Code} {A : Nat → Prop} {Q : State → Prop} {D : va_G} {ca : Nat → ClassId} {a : Nat → Nat} {u : fw_S}  (C : CX (WX ca a) D (tyv ca) p s m args c A prog_18_method_102_code 6 RJ7) (hr : True → RX (WX ca a) D p l e rm_X_J7_fill_bad5a__58 s m args below meth c A prog_18_method_102_code Q .return_ [] u) {t : fw_S} {x1 : Int32} {x2 : Int32} {y3 : Int64} {H : Heap} {locs : List Loc} {ls : Array Slot} (hf : b_X_J7_fill_bad5a__58_0  t x1 x2 y3 = some u) (hP : va_P D classes (WX ca a t) H) (hS : va_S A s.heap H locs) (hl : lv_has ls 6 [(0, .ref (a 58)), (1, .int x1), (2, .int x2), (3, .long y3)]) : W p l e rm_X_J7_fill_bad5a__58 s m args below meth c H locs 0 0 Q (F0 m 0 ls []) := by
  obtain ⟨hx, hb, hml, hown, hts, hN, hK, hD, hA⟩ := id C
  have hf : (fb_v (f_X_J7_rangeCheck_23922 t ((160 : Int32)) x1 x2) fun t_1 => (b_X_J7_fill_bad5a__58_10 3000 t_1 x2 y3 x1)) = some u := hf
  refine lv_aload_n hx hb dJ7_fill_bad5a_0 rfl (lv_at hl 0 rfl) ?_
  refine va_alen (v := 160) hx hb hK hP 58 1 (haX_58 ca a t) rfl rfl dJ7_fill_bad5a_1 ?_
  refine lv_iload_n hx hb dJ7_fill_bad5a_2 rfl (lv_at hl 1 rfl) ?_
  refine lv_iload_n hx hb dJ7_fill_bad5a_3 rfl (lv_at hl 2 rfl) ?_
  obtain ⟨t_1, g_4, hf⟩ := fb_vs hf
  refine fw_S1 (As := [.int ((160 : Int32)), .int x1, .int x2]) (rest := []) (n := 3) C (c_X_J7_rangeCheck_23922 (l := l) (D := D) (ca := ca) (a := a) g_4) kw_1115 kw_1116 kw_104 kw_1117 hP hS hl rfl rfl (by decide) (by decide +kernel) ⟨Nat.le_of_ble_eq_true rfl, Nat.le_of_ble_eq_true rfl⟩ rfl rfl (Nat.le_of_ble_eq_true rfl) dJ7_fill_bad5a_4 (fun H locs hP hS => ?_)
  refine W.eq (g2 := F0 m 7 ls []) rfl ?_
  refine lv_iload_n hx hb dJ7_fill_bad5a_7 rfl (lv_at hl 1 rfl) ?_
  refine lv_istore (lv' := [(5, .int x1), (0, .ref (a 58)), (1, .int x1), (2, .int x2), (3, .long y3)]) hx hb dJ7_fill_bad5a_8 hl (by decide) rfl (fun ls hl => ?_)
  exact w_X_J7_fill_bad5a__58_10 C hr 3000 t_1 x2 y3 x1 _ _ _ hf hP hS (lv_sub hl [1, 3, 4, 0] rfl)
set_option maxRecDepth 20000 in
theorem c_X_J7_fill_bad5a__58 {l : Launch} {D : va_G} {ca : Nat → ClassId} {a : Nat → Nat} {t : fw_S} {x1 : Int32} {x2 : Int32} {y3 : Int64} {u : fw_S} (hf : f_X_J7_fill_bad5a__58 t x1 x2 y3 = some u) : MC (WX ca a) D (tyv ca) l yJ7_fill_bad5a (.code yJ7_fill_bad5a prog_18_method_102_code 6 none :: lw_gd) rm_X_J7_fill_bad5a__58 [.ref (a 58), .int x1, .int x2, .long y3] none t u := by
  refine fw_met (okX ca a) (by decide +kernel) rfl rfl (Nat.le_of_ble_eq_true rfl) ?_
  intro p e s m args below meth c A Q ls C hr hk hP hS hl hQ
  exact w_X_J7_fill_bad5a__58_0 C (fun _ => fw_rv C hr hk hQ) hf hP hS (lv_sub hl [0, 1, 2, 3] rfl)
/-! ReactiveSheet.Lists.make(II)V ['x.lists'] -/
abbrev rm_X_X4_make__10 : Room := { frames := 2, cells := 0, slots := 0, locals := 47 }
def b_X_X4_make__10_43  (t : fw_S)  : Option fw_S := some t
def b_X_X4_make__10_18  (t : fw_S) (x1 : Int32) (x2 : Int32) : Option fw_S := fb_g (¬ (x1 < 0 ∨ 4 ≤ x1.toNatClampNeg)) (fb_l (up_F t 30 (upd (st_F t 30) x1.toNatClampNeg x2)) fun t_1 => (fb_v (f_X_J7_fill_bad5a__58 t_1 (x1 * ((40 : Int32))) ((x1 * ((40 : Int32))) + x2) ((0 : Int64))) fun t_2 => (b_X_X4_make__10_43 t_2)))
def b_X_X4_make__10_12  (t : fw_S) (x1 : Int32) (x2 : Int32) : Option fw_S := if ((40 : Int32)) < x2 then b_X_X4_make__10_43 t else b_X_X4_make__10_18 t x1 x2
def b_X_X4_make__10_8  (t : fw_S) (x1 : Int32) (x2 : Int32) : Option fw_S := if x2 < 0 then b_X_X4_make__10_43 t else b_X_X4_make__10_12 t x1 x2
def b_X_X4_make__10_0  (t : fw_S) (x1 : Int32) (x2 : Int32) : Option fw_S := fb_b (f_X_X4_isList__10 t x1) fun v_2 t_1 => (if v_2 = 0 then b_X_X4_make__10_43 t_1 else b_X_X4_make__10_8 t_1 x1 x2)
def f_X_X4_make__10 (t : fw_S) (x1 : Int32) (x2 : Int32) : Option fw_S := b_X_X4_make__10_0 t x1 x2
set_option maxRecDepth 20000 in
theorem w_X_X4_make__10_43 {p : Program} {l : Launch} {e : Env} {s : State} {m : MethodId} {args : Array Value} {below : List Frame} {meth : Method} {c : Code} {A : Nat → Prop} {Q : State → Prop} {D : va_G} {ca : Nat → ClassId} {a : Nat → Nat} {u : fw_S}  (C : CX (WX ca a) D (tyv ca) p s m args c A prog_6_method_6_code 3 RX4) (hr : True → RX (WX ca a) D p l e rm_X_X4_make__10 s m args below meth c A prog_6_method_6_code Q .return_ [] u) {t : fw_S}  {H : Heap} {locs : List Loc} {ls : Array Slot} (hf : b_X_X4_make__10_43  t  = some u) (hP : va_P D classes (WX ca a t) H) (hS : va_S A s.heap H locs) (hl : lv_has ls 3 []) : W p l e rm_X_X4_make__10 s m args below meth c H locs 0 0 Q (F0 m 43 ls []) := by
  obtain ⟨hx, hb, hml, hown, hts, hN, hK, hD, hA⟩ := id C
  have hf : (some t) = some u := hf
  have e_43 := fb_ev hf
  subst e_43
  exact hr trivial _ _ _ _ hP hS dX4_make_43
set_option maxRecDepth 20000 in
theorem w_X_X4_make__10_18 {p : Program} {l : Launch} {e : Env} {s : State} {m : MethodId} {args : Array Value} {below : List Frame} {meth : Method} {c : Code} {A : Nat → Prop} {Q : State → Prop} {D : va_G} {ca : Nat → ClassId} {a : Nat → Nat} {u : fw_S}  (C : CX (WX ca a) D (tyv ca) p s m args c A prog_6_method_6_code 3 RX4) (hr : True → RX (WX ca a) D p l e rm_X_X4_make__10 s m args below meth c A prog_6_method_6_code Q .return_ [] u) {t : fw_S} {x1 : Int32} {x2 : Int32} {H : Heap} {locs : List Loc} {ls : Array Slot} (hf : b_X_X4_make__10_18  t x1 x2 = some u) (hP : va_P D classes (WX ca a t) H) (hS : va_S A s.heap H locs) (hl : lv_has ls 3 [(0, .ref (a 10)), (1, .int x1), (2, .int x2)]) : W p l e rm_X_X4_make__10 s m args below meth c H locs 0 0 Q (F0 m 18 ls []) := by
  obtain ⟨hx, hb, hml, hown, hts, hN, hK, hD, hA⟩ := id C
  have hf : (fb_g (¬ (x1 < 0 ∨ 4 ≤ x1.toNatClampNeg)) (fb_l (up_F t 30 (upd (st_F t 30) x1.toNatClampNeg x2)) fun t_1 => (fb_v (f_X_J7_fill_bad5a__58 t_1 (x1 * ((40 : Int32))) ((x1 * ((40 : Int32))) + x2) ((0 : Int64))) fun t_2 => (b_X_X4_make__10_43 t_2)))) = some u := hf
  refine lv_aload_n hx hb dX4_make_18 rfl (lv_at hl 0 rfl) ?_
  refine va_get (D := D) (ci := 4) (v := .ref (a 59)) (C := RX4) (T := TX4) (N := 2) hx hb hts inX4 hown hK hP 10 (heX_10 ca a t) rfl 1 (by decide) (hts _ kw_333) (fun _ h9 => h9) rfl dX4_make_19 ?_
  refine lv_iload_n hx hb dX4_make_22 rfl (lv_at hl 1 rfl) ?_
  refine lv_iload_n hx hb dX4_make_23 rfl (lv_at hl 2 rfl) ?_
  obtain ⟨h_24, hf⟩ := fb_if hf
  refine va_iast hx hb hK hP (hD t) hS 59 0 (haX_59 ca a t) rfl h_24 dX4_make_24 (fun H locs hP _ hS => ?_)
  rw [saX_59] at hP
  obtain ⟨t_1, e_24, hf⟩ := fb_ls hf
  rw [← e_24] at hP
  refine lv_aload_n hx hb dX4_make_25 rfl (lv_at hl 0 rfl) ?_
  refine va_get (D := D) (ci := 4) (v := .ref (a 58)) (C := RX4) (T := TX4) (N := 2) hx hb hts inX4 hown hK hP 10 (heX_10 ca a t_1) rfl 0 (by decide) (hts _ kw_332) (fun _ h9 => h9) rfl dX4_make_26 ?_
  refine lv_iload_n hx hb dX4_make_29 rfl (lv_at hl 1 rfl) ?_
  refine lv_bipush (v := 40) hx hb dX4_make_30 (by decide) ?_
  refine lv_imul hx hb dX4_make_32 ?_
  refine lv_iload_n hx hb dX4_make_33 rfl (lv_at hl 1 rfl) ?_
  refine lv_bipush (v := 40) hx hb dX4_make_34 (by decide) ?_
  refine lv_imul hx hb dX4_make_36 ?_
  refine lv_iload_n hx hb dX4_make_37 rfl (lv_at hl 2 rfl) ?_
  refine lv_iadd hx hb dX4_make_38 ?_
  refine lv_lconst (v := 0) hx hb dX4_make_39 (by decide) ?_
  obtain ⟨t_2, g_40, hf⟩ := fb_vs hf
  refine fw_S1 (As := [.ref (a 58), .int (x1 * ((40 : Int32))), .int ((x1 * ((40 : Int32))) + x2), .long ((0 : Int64))]) (rest := []) (n := 4) C (c_X_J7_fill_bad5a__58 (l := l) (D := D) (ca := ca) (a := a) g_40) kw_1112 kw_1113 kw_104 kw_1114 hP hS hl rfl rfl (by decide) (by decide +kernel) ⟨Nat.le_of_ble_eq_true rfl, Nat.le_of_ble_eq_true rfl⟩ rfl rfl (Nat.le_of_ble_eq_true rfl) dX4_make_40 (fun H locs hP hS => ?_)
  refine W.eq (g2 := F0 m 43 ls []) rfl ?_
  exact w_X_X4_make__10_43 C hr hf hP hS (lv_sub hl [] rfl)
set_option maxRecDepth 20000 in
theorem w_X_X4_make__10_12 {p : Program} {l : Launch} {e : Env} {s : State} {m : MethodId} {args : Array Value} {below : List Frame} {meth : Method} {c : Code} {A : Nat → Prop} {Q : State → Prop} {D : va_G} {ca : Nat → ClassId} {a : Nat → Nat} {u : fw_S}  (C : CX (WX ca a) D (tyv ca) p s m args c A prog_6_method_6_code 3 RX4) (hr : True → RX (WX ca a) D p l e rm_X_X4_make__10 s m args below meth c A prog_6_method_6_code Q .return_ [] u) {t : fw_S} {x1 : Int32} {x2 : Int32} {H : Heap} {locs : List Loc} {ls : Array Slot} (hf : b_X_X4_make__10_12  t x1 x2 = some u) (hP : va_P D classes (WX ca a t) H) (hS : va_S A s.heap H locs) (hl : lv_has ls 3 [(0, .ref (a 10)), (1, .int x1), (2, .int x2)]) : W p l e rm_X_X4_make__10 s m args below meth c H locs 0 0 Q (F0 m 12 ls []) := by
  obtain ⟨hx, hb, hml, hown, hts, hN, hK, hD, hA⟩ := id C
  have hf : (if ((40 : Int32)) < x2 then b_X_X4_make__10_43 t else b_X_X4_make__10_18 t x1 x2) = some u := hf
  refine lv_iload_n hx hb dX4_make_12 rfl (lv_at hl 2 rfl) ?_
  refine lv_bipush (v := 40) hx hb dX4_make_13 (by decide) ?_
  refine lv_icmp_gt (tgt := 43) hx hb dX4_make_15 (by decide) (fun h_15 => ?_) (fun h_15 => ?_)
  · have hf := fb_t h_15 hf
    exact w_X_X4_make__10_43 C hr hf hP hS (lv_sub hl [] rfl)
  · have hf := fb_f h_15 hf
    exact w_X_X4_make__10_18 C hr hf hP hS (lv_sub hl [0, 1, 2] rfl)
set_option maxRecDepth 20000 in
theorem w_X_X4_make__10_8 {p : Program} {l : Launch} {e : Env} {s : State} {m : MethodId} {args : Array Value} {below : List Frame} {meth : Method} {c : Code} {A : Nat → Prop} {Q : State → Prop} {D : va_G} {ca : Nat → ClassId} {a : Nat → Nat} {u : fw_S}  (C : CX (WX ca a) D (tyv ca) p s m args c A prog_6_method_6_code 3 RX4) (hr : True → RX (WX ca a) D p l e rm_X_X4_make__10 s m args below meth c A prog_6_method_6_code Q .return_ [] u) {t : fw_S} {x1 : Int32} {x2 : Int32} {H : Heap} {locs : List Loc} {ls : Array Slot} (hf : b_X_X4_make__10_8  t x1 x2 = some u) (hP : va_P D classes (WX ca a t) H) (hS : va_S A s.heap H locs) (hl : lv_has ls 3 [(0, .ref (a 10)), (1, .int x1), (2, .int x2)]) : W p l e rm_X_X4_make__10 s m args below meth c H locs 0 0 Q (F0 m 8 ls []) := by
  obtain ⟨hx, hb, hml, hown, hts, hN, hK, hD, hA⟩ := id C
  have hf : (if x2 < 0 then b_X_X4_make__10_43 t else b_X_X4_make__10_12 t x1 x2) = some u := hf
  refine lv_iload_n hx hb dX4_make_8 rfl (lv_at hl 2 rfl) ?_
  refine lv_if_lt (tgt := 43) hx hb dX4_make_9 (by decide) (fun h_9 => ?_) (fun h_9 => ?_)
  · have hf := fb_t h_9 hf
    exact w_X_X4_make__10_43 C hr hf hP hS (lv_sub hl [] rfl)
  · have hf := fb_f h_9 hf
    exact w_X_X4_make__10_12 C hr hf hP hS (lv_sub hl [0, 1, 2] rfl)
set_option maxRecDepth 20000 in
theorem w_X_X4_make__10_0 {p : Program} {l : Launch} {e : Env} {s : State} {m : MethodId} {args : Array Value} {below : List Frame} {meth : Method} {c : Code} {A : Nat → Prop} {Q : State → Prop} {D : va_G} {ca : Nat → ClassId} {a : Nat → Nat} {u : fw_S}  (C : CX (WX ca a) D (tyv ca) p s m args c A prog_6_method_6_code 3 RX4) (hr : True → RX (WX ca a) D p l e rm_X_X4_make__10 s m args below meth c A prog_6_method_6_code Q .return_ [] u) {t : fw_S} {x1 : Int32} {x2 : Int32} {H : Heap} {locs : List Loc} {ls : Array Slot} (hf : b_X_X4_make__10_0  t x1 x2 = some u) (hP : va_P D classes (WX ca a t) H) (hS : va_S A s.heap H locs) (hl : lv_has ls 3 [(0, .ref (a 10)), (1, .int x1), (2, .int x2)]) : W p l e rm_X_X4_make__10 s m args below meth c H locs 0 0 Q (F0 m 0 ls []) := by
  obtain ⟨hx, hb, hml, hown, hts, hN, hK, hD, hA⟩ := id C
  have hf : (fb_b (f_X_X4_isList__10 t x1) fun v_2 t_1 => (if v_2 = 0 then b_X_X4_make__10_43 t_1 else b_X_X4_make__10_8 t_1 x1 x2)) = some u := hf
  refine lv_aload_n hx hb dX4_make_0 rfl (lv_at hl 0 rfl) ?_
  refine lv_iload_n hx hb dX4_make_1 rfl (lv_at hl 1 rfl) ?_
  obtain ⟨v_2, t_1, g_2, hf⟩ := fb_bs hf
  refine fw_V1 (As := [.int x1]) (rest := []) (n := 1) (q0 := 10) C (c_X_X4_isList__10 (l := l) (D := D) (ca := ca) (a := a) g_2) kw_1111 kw_1104 kw_100 kw_1106 kw_1105 hP hS hl (heX_10 ca a t) rfl rfl rfl (by decide) (by decide +kernel) ⟨Nat.le_of_ble_eq_true rfl, Nat.le_of_ble_eq_true rfl⟩ rfl rfl (Nat.le_of_ble_eq_true rfl) dX4_make_2 (fun H locs hP hS => ?_)
  refine W.eq (g2 := F0 m 5 ls [.int v_2]) rfl ?_
  refine lv_if_eq (tgt := 43) hx hb dX4_make_5 (by decide) (fun h_5 => ?_) (fun h_5 => ?_)
  · have hf := fb_t h_5 hf
    exact w_X_X4_make__10_43 C hr hf hP hS (lv_sub hl [] rfl)
  · have hf := fb_f h_5 hf
    exact w_X_X4_make__10_8 C hr hf hP hS (lv_sub hl [0, 1, 2] rfl)
set_option maxRecDepth 20000 in
theorem c_X_X4_make__10 {l : Launch} {D : va_G} {ca : Nat → ClassId} {a : Nat → Nat} {t : fw_S} {x1 : Int32} {x2 : Int32} {u : fw_S} (hf : f_X_X4_make__10 t x1 x2 = some u) : MC (WX ca a) D (tyv ca) l yX4_make (.code yX4_make prog_6_method_6_code 3 none :: lw_gd) rm_X_X4_make__10 [.ref (a 10), .int x1, .int x2] none t u := by
  refine fw_met (okX ca a) (by decide +kernel) rfl rfl (Nat.le_of_ble_eq_true rfl) ?_
  intro p e s m args below meth c A Q ls C hr hk hP hS hl hQ
  exact w_X_X4_make__10_0 C (fun _ => fw_rv C hr hk hQ) hf hP hS (lv_sub hl [0, 1, 2] rfl)
/-! ReactiveSheet.list(II)I ['x'] -/
abbrev rm_X_X10_list__0 : Room := { frames := 3, cells := 0, slots := 0, locals := 69 }
def b_X_X10_list__0_29  (t : fw_S) (x1 : Int32) (x2 : Int32) : Option (Int32 × fw_S) := fb_v (f_X_X4_make__10 t x1 x2) fun t_1 => (some ((1 : Int32), t_1))
def b_X_X10_list__0_26  (t : fw_S)  : Option (Int32 × fw_S) := some ((-14 : Int32), t)
def b_X_X10_list__0_22  (t : fw_S) (x1 : Int32) (x2 : Int32) : Option (Int32 × fw_S) := if 0 ≤ x2 then b_X_X10_list__0_29 t x1 x2 else b_X_X10_list__0_26 t
def b_X_X10_list__0_19  (t : fw_S)  : Option (Int32 × fw_S) := some ((-2 : Int32), t)
def b_X_X10_list__0_13  (t : fw_S) (x1 : Int32) (x2 : Int32) : Option (Int32 × fw_S) := if x2 ≤ ((40 : Int32)) then b_X_X10_list__0_22 t x1 x2 else b_X_X10_list__0_19 t
def b_X_X10_list__0_11  (t : fw_S)  : Option (Int32 × fw_S) := some ((-1 : Int32), t)
def b_X_X10_list__0_0  (t : fw_S) (x1 : Int32) (x2 : Int32) : Option (Int32 × fw_S) := fb_b (f_X_X4_isList__10 t x1) fun v_2 t_1 => (if v_2 = 0 then b_X_X10_list__0_11 t_1 else b_X_X10_list__0_13 t_1 x1 x2)
def f_X_X10_list__0 (t : fw_S) (x1 : Int32) (x2 : Int32) : Option (Int32 × fw_S) := b_X_X10_list__0_0 t x1 x2
set_option maxRecDepth 20000 in
theorem w_X_X10_list__0_29 {p : Program} {l : Launch} {e : Env} {s : State} {m : MethodId} {args : Array Value} {below : List Frame} {meth : Method} {c : Code} {A : Nat → Prop} {Q : State → Prop} {D : va_G} {ca : Nat → ClassId} {a : Nat → Nat} {u : fw_S} {r : Int32}  (C : CX (WX ca a) D (tyv ca) p s m args c A prog_1_method_30_code 3 RX10) (hr : True → RX (WX ca a) D p l e rm_X_X10_list__0 s m args below meth c A prog_1_method_30_code Q .ireturn [.int r] u) {t : fw_S} {x1 : Int32} {x2 : Int32} {H : Heap} {locs : List Loc} {ls : Array Slot} (hf : b_X_X10_list__0_29  t x1 x2 = some (r, u)) (hP : va_P D classes (WX ca a t) H) (hS : va_S A s.heap H locs) (hl : lv_has ls 3 [(0, .ref (a 0)), (1, .int x1), (2, .int x2)]) : W p l e rm_X_X10_list__0 s m args below meth c H locs 0 0 Q (F0 m 29 ls []) := by
  obtain ⟨hx, hb, hml, hown, hts, hN, hK, hD, hA⟩ := id C
  have hf : (fb_v (f_X_X4_make__10 t x1 x2) fun t_1 => (some ((1 : Int32), t_1))) = some (r, u) := hf
  refine lv_aload_n hx hb dX10_list_29 rfl (lv_at hl 0 rfl) ?_
  refine va_get (D := D) (ci := 10) (v := .ref (a 10)) (C := RX10) (T := TX10) (N := 13) hx hb hts inX10 hown hK hP 0 (heX_0 ca a t) rfl 7 (by decide) (hts _ kw_361) (fun _ h9 => h9) rfl dX10_list_30 ?_
  refine lv_iload_n hx hb dX10_list_33 rfl (lv_at hl 1 rfl) ?_
  refine lv_iload_n hx hb dX10_list_34 rfl (lv_at hl 2 rfl) ?_
  obtain ⟨t_1, g_35, hf⟩ := fb_vs hf
  refine fw_V1 (As := [.int x1, .int x2]) (rest := []) (n := 2) (q0 := 10) C (c_X_X4_make__10 (l := l) (D := D) (ca := ca) (a := a) g_35) kw_1107 kw_1108 kw_100 kw_1110 kw_1109 hP hS hl (heX_10 ca a t) rfl rfl rfl (by decide) (by decide +kernel) ⟨Nat.le_of_ble_eq_true rfl, Nat.le_of_ble_eq_true rfl⟩ rfl rfl (Nat.le_of_ble_eq_true rfl) dX10_list_35 (fun H locs hP hS => ?_)
  refine W.eq (g2 := F0 m 38 ls []) rfl ?_
  refine lv_iconst (v := 1) hx hb dX10_list_38 (by decide) ?_
  obtain ⟨e_39, e2_39⟩ := fb_e hf
  subst e_39; subst e2_39
  exact hr trivial _ _ _ _ hP hS dX10_list_39
set_option maxRecDepth 20000 in
theorem w_X_X10_list__0_26 {p : Program} {l : Launch} {e : Env} {s : State} {m : MethodId} {args : Array Value} {below : List Frame} {meth : Method} {c : Code} {A : Nat → Prop} {Q : State → Prop} {D : va_G} {ca : Nat → ClassId} {a : Nat → Nat} {u : fw_S} {r : Int32}  (C : CX (WX ca a) D (tyv ca) p s m args c A prog_1_method_30_code 3 RX10) (hr : True → RX (WX ca a) D p l e rm_X_X10_list__0 s m args below meth c A prog_1_method_30_code Q .ireturn [.int r] u) {t : fw_S}  {H : Heap} {locs : List Loc} {ls : Array Slot} (hf : b_X_X10_list__0_26  t  = some (r, u)) (hP : va_P D classes (WX ca a t) H) (hS : va_S A s.heap H locs) (hl : lv_has ls 3 []) : W p l e rm_X_X10_list__0 s m args below meth c H locs 0 0 Q (F0 m 26 ls []) := by
  obtain ⟨hx, hb, hml, hown, hts, hN, hK, hD, hA⟩ := id C
  have hf : (some ((-14 : Int32), t)) = some (r, u) := hf
  refine lv_bipush (v := (-14)) hx hb dX10_list_26 (by decide) ?_
  obtain ⟨e_28, e2_28⟩ := fb_e hf
  subst e_28; subst e2_28
  exact hr trivial _ _ _ _ hP hS dX10_list_28
set_option maxRecDepth 20000 in
theorem w_X_X10_list__0_22 {p : Program} {l : Launch} {e : Env} {s : State} {m : MethodId} {args : Array Value} {below : List Frame} {meth : Method} {c : Code} {A : Nat → Prop} {Q : State → Prop} {D : va_G} {ca : Nat → ClassId} {a : Nat → Nat} {u : fw_S} {r : Int32}  (C : CX (WX ca a) D (tyv ca) p s m args c A prog_1_method_30_code 3 RX10) (hr : True → RX (WX ca a) D p l e rm_X_X10_list__0 s m args below meth c A prog_1_method_30_code Q .ireturn [.int r] u) {t : fw_S} {x1 : Int32} {x2 : Int32} {H : Heap} {locs : List Loc} {ls : Array Slot} (hf : b_X_X10_list__0_22  t x1 x2 = some (r, u)) (hP : va_P D classes (WX ca a t) H) (hS : va_S A s.heap H locs) (hl : lv_has ls 3 [(0, .ref (a 0)), (1, .int x1), (2, .int x2)]) : W p l e rm_X_X10_list__0 s m args below meth c H locs 0 0 Q (F0 m 22 ls []) := by
  obtain ⟨hx, hb, hml, hown, hts, hN, hK, hD, hA⟩ := id C
  have hf : (if 0 ≤ x2 then b_X_X10_list__0_29 t x1 x2 else b_X_X10_list__0_26 t) = some (r, u) := hf
  refine lv_iload_n hx hb dX10_list_22 rfl (lv_at hl 2 rfl) ?_
  refine lv_if_ge (tgt := 29) hx hb dX10_list_23 (by decide) (fun h_23 => ?_) (fun h_23 => ?_)
  · have hf := fb_t h_23 hf
    exact w_X_X10_list__0_29 C hr hf hP hS (lv_sub hl [0, 1, 2] rfl)
  · have hf := fb_f h_23 hf
    exact w_X_X10_list__0_26 C hr hf hP hS (lv_sub hl [] rfl)
set_option maxRecDepth 20000 in
theorem w_X_X10_list__0_19 {p : Program} {l : Launch} {e : Env} {s : State} {m : MethodId} {args : Array Value} {below : List Frame} {meth : Method} {c : Code} {A : Nat → Prop} {Q : State → Prop} {D : va_G} {ca : Nat → ClassId} {a : Nat → Nat} {u : fw_S} {r : Int32}  (C : CX (WX ca a) D (tyv ca) p s m args c A prog_1_method_30_code 3 RX10) (hr : True → RX (WX ca a) D p l e rm_X_X10_list__0 s m args below meth c A prog_1_method_30_code Q .ireturn [.int r] u) {t : fw_S}  {H : Heap} {locs : List Loc} {ls : Array Slot} (hf : b_X_X10_list__0_19  t  = some (r, u)) (hP : va_P D classes (WX ca a t) H) (hS : va_S A s.heap H locs) (hl : lv_has ls 3 []) : W p l e rm_X_X10_list__0 s m args below meth c H locs 0 0 Q (F0 m 19 ls []) := by
  obtain ⟨hx, hb, hml, hown, hts, hN, hK, hD, hA⟩ := id C
  have hf : (some ((-2 : Int32), t)) = some (r, u) := hf
  refine lv_bipush (v := (-2)) hx hb dX10_list_19 (by decide) ?_
  obtain ⟨e_21, e2_21⟩ := fb_e hf
  subst e_21; subst e2_21
  exact hr trivial _ _ _ _ hP hS dX10_list_21
set_option maxRecDepth 20000 in
theorem w_X_X10_list__0_13 {p : Program} {l : Launch} {e : Env} {s : State} {m : MethodId} {args : Array Value} {below : List Frame} {meth : Method} {c : Code} {A : Nat → Prop} {Q : State → Prop} {D : va_G} {ca : Nat → ClassId} {a : Nat → Nat} {u : fw_S} {r : Int32}  (C : CX (WX ca a) D (tyv ca) p s m args c A prog_1_method_30_code 3 RX10) (hr : True → RX (WX ca a) D p l e rm_X_X10_list__0 s m args below meth c A prog_1_method_30_code Q .ireturn [.int r] u) {t : fw_S} {x1 : Int32} {x2 : Int32} {H : Heap} {locs : List Loc} {ls : Array Slot} (hf : b_X_X10_list__0_13  t x1 x2 = some (r, u)) (hP : va_P D classes (WX ca a t) H) (hS : va_S A s.heap H locs) (hl : lv_has ls 3 [(0, .ref (a 0)), (1, .int x1), (2, .int x2)]) : W p l e rm_X_X10_list__0 s m args below meth c H locs 0 0 Q (F0 m 13 ls []) := by
  obtain ⟨hx, hb, hml, hown, hts, hN, hK, hD, hA⟩ := id C
  have hf : (if x2 ≤ ((40 : Int32)) then b_X_X10_list__0_22 t x1 x2 else b_X_X10_list__0_19 t) = some (r, u) := hf
  refine lv_iload_n hx hb dX10_list_13 rfl (lv_at hl 2 rfl) ?_
  refine lv_bipush (v := 40) hx hb dX10_list_14 (by decide) ?_
  refine lv_icmp_le (tgt := 22) hx hb dX10_list_16 (by decide) (fun h_16 => ?_) (fun h_16 => ?_)
  · have hf := fb_t h_16 hf
    exact w_X_X10_list__0_22 C hr hf hP hS (lv_sub hl [0, 1, 2] rfl)
  · have hf := fb_f h_16 hf
    exact w_X_X10_list__0_19 C hr hf hP hS (lv_sub hl [] rfl)
set_option maxRecDepth 20000 in
theorem w_X_X10_list__0_11 {p : Program} {l : Launch} {e : Env} {s : State} {m : MethodId} {args : Array Value} {below : List Frame} {meth : Method} {c : Code} {A : Nat → Prop} {Q : State → Prop} {D : va_G} {ca : Nat → ClassId} {a : Nat → Nat} {u : fw_S} {r : Int32}  (C : CX (WX ca a) D (tyv ca) p s m args c A prog_1_method_30_code 3 RX10) (hr : True → RX (WX ca a) D p l e rm_X_X10_list__0 s m args below meth c A prog_1_method_30_code Q .ireturn [.int r] u) {t : fw_S}  {H : Heap} {locs : List Loc} {ls : Array Slot} (hf : b_X_X10_list__0_11  t  = some (r, u)) (hP : va_P D classes (WX ca a t) H) (hS : va_S A s.heap H locs) (hl : lv_has ls 3 []) : W p l e rm_X_X10_list__0 s m args below meth c H locs 0 0 Q (F0 m 11 ls []) := by
  obtain ⟨hx, hb, hml, hown, hts, hN, hK, hD, hA⟩ := id C
  have hf : (some ((-1 : Int32), t)) = some (r, u) := hf
  refine lv_iconst (v := (-1)) hx hb dX10_list_11 (by decide) ?_
  obtain ⟨e_12, e2_12⟩ := fb_e hf
  subst e_12; subst e2_12
  exact hr trivial _ _ _ _ hP hS dX10_list_12
set_option maxRecDepth 20000 in
theorem w_X_X10_list__0_0 {p : Program} {l : Launch} {e : Env} {s : State} {m : MethodId} {args : Array Value} {below : List Frame} {meth : Method} {c : Code} {A : Nat → Prop} {Q : State → Prop} {D : va_G} {ca : Nat → ClassId} {a : Nat → Nat} {u : fw_S} {r : Int32}  (C : CX (WX ca a) D (tyv ca) p s m args c A prog_1_method_30_code 3 RX10) (hr : True → RX (WX ca a) D p l e rm_X_X10_list__0 s m args below meth c A prog_1_method_30_code Q .ireturn [.int r] u) {t : fw_S} {x1 : Int32} {x2 : Int32} {H : Heap} {locs : List Loc} {ls : Array Slot} (hf : b_X_X10_list__0_0  t x1 x2 = some (r, u)) (hP : va_P D classes (WX ca a t) H) (hS : va_S A s.heap H locs) (hl : lv_has ls 3 [(0, .ref (a 0)), (1, .int x1), (2, .int x2)]) : W p l e rm_X_X10_list__0 s m args below meth c H locs 0 0 Q (F0 m 0 ls []) := by
  obtain ⟨hx, hb, hml, hown, hts, hN, hK, hD, hA⟩ := id C
  have hf : (fb_b (f_X_X4_isList__10 t x1) fun v_2 t_1 => (if v_2 = 0 then b_X_X10_list__0_11 t_1 else b_X_X10_list__0_13 t_1 x1 x2)) = some (r, u) := hf
  refine lv_aload_n hx hb dX10_list_0 rfl (lv_at hl 0 rfl) ?_
  refine va_get (D := D) (ci := 10) (v := .ref (a 10)) (C := RX10) (T := TX10) (N := 13) hx hb hts inX10 hown hK hP 0 (heX_0 ca a t) rfl 7 (by decide) (hts _ kw_361) (fun _ h9 => h9) rfl dX10_list_1 ?_
  refine lv_iload_n hx hb dX10_list_4 rfl (lv_at hl 1 rfl) ?_
  obtain ⟨v_2, t_1, g_5, hf⟩ := fb_bs hf
  refine fw_V1 (As := [.int x1]) (rest := []) (n := 1) (q0 := 10) C (c_X_X4_isList__10 (l := l) (D := D) (ca := ca) (a := a) g_5) kw_1103 kw_1104 kw_100 kw_1106 kw_1105 hP hS hl (heX_10 ca a t) rfl rfl rfl (by decide) (by decide +kernel) ⟨Nat.le_of_ble_eq_true rfl, Nat.le_of_ble_eq_true rfl⟩ rfl rfl (Nat.le_of_ble_eq_true rfl) dX10_list_5 (fun H locs hP hS => ?_)
  refine W.eq (g2 := F0 m 8 ls [.int v_2]) rfl ?_
  refine lv_if_ne (tgt := 13) hx hb dX10_list_8 (by decide) (fun h_8 => ?_) (fun h_8 => ?_)
  · have hf := fb_f h_8 hf
    exact w_X_X10_list__0_13 C hr hf hP hS (lv_sub hl [0, 1, 2] rfl)
  · have hf := fb_t h_8 hf
    exact w_X_X10_list__0_11 C hr hf hP hS (lv_sub hl [] rfl)
set_option maxRecDepth 20000 in
theorem c_X_X10_list__0 {l : Launch} {D : va_G} {ca : Nat → ClassId} {a : Nat → Nat} {t : fw_S} {x1 : Int32} {x2 : Int32} {u : fw_S} {r : Int32} (hf : f_X_X10_list__0 t x1 x2 = some (r, u)) : MC (WX ca a) D (tyv ca) l yX10_list (.code yX10_list prog_1_method_30_code 3 (some .int) :: lw_gd) rm_X_X10_list__0 [.ref (a 0), .int x1, .int x2] (some (.int r)) t u := by
  refine fw_met (okX ca a) (by decide +kernel) rfl rfl (Nat.le_of_ble_eq_true rfl) ?_
  intro p e s m args below meth c A Q ls C hr hk hP hS hl hQ
  exact w_X_X10_list__0_0 C (fun _ => fw_ri C hr hk hQ) hf hP hS (lv_sub hl [0, 1, 2] rfl)
/-! ReactiveSheet.Lists.isMade(I)Z ['x.lists'] -/
abbrev rm_X_X4_isMade__10 : Room := { frames := 1, cells := 0, slots := 0, locals := 21 }
def b_X_X4_isMade__10_22  (t : fw_S) (z0 : Int32) : Option (Int32 × fw_S) := fb_g (z0 = 0 ∨ z0 = 1) (some (z0, t))
def b_X_X4_isMade__10_21  (t : fw_S)  : Option (Int32 × fw_S) := b_X_X4_isMade__10_22 t ((0 : Int32))
def b_X_X4_isMade__10_17  (t : fw_S)  : Option (Int32 × fw_S) := b_X_X4_isMade__10_22 t ((1 : Int32))
def b_X_X4_isMade__10_8  (t : fw_S) (x1 : Int32) : Option (Int32 × fw_S) := fb_g (¬ (x1 < 0 ∨ 4 ≤ x1.toNatClampNeg)) (if (st_F t 30 x1.toNatClampNeg) < 0 then b_X_X4_isMade__10_21 t else b_X_X4_isMade__10_17 t)
def b_X_X4_isMade__10_0  (t : fw_S) (x1 : Int32) : Option (Int32 × fw_S) := fb_b (f_X_X4_isList__10 t x1) fun v_2 t_1 => (if v_2 = 0 then b_X_X4_isMade__10_21 t_1 else b_X_X4_isMade__10_8 t_1 x1)
def f_X_X4_isMade__10 (t : fw_S) (x1 : Int32) : Option (Int32 × fw_S) := b_X_X4_isMade__10_0 t x1
set_option maxRecDepth 20000 in
theorem w_X_X4_isMade__10_22 {p : Program} {l : Launch} {e : Env} {s : State} {m : MethodId} {args : Array Value} {below : List Frame} {meth : Method} {c : Code} {A : Nat → Prop} {Q : State → Prop} {D : va_G} {ca : Nat → ClassId} {a : Nat → Nat} {u : fw_S} {r : Int32}  (C : CX (WX ca a) D (tyv ca) p s m args c A prog_6_method_3_code 2 RX4) (hr : (r = 0 ∨ r = 1) → RX (WX ca a) D p l e rm_X_X4_isMade__10 s m args below meth c A prog_6_method_3_code Q .ireturn [.int r] u) {t : fw_S} {z0 : Int32} {H : Heap} {locs : List Loc} {ls : Array Slot} (hf : b_X_X4_isMade__10_22  t z0 = some (r, u)) (hP : va_P D classes (WX ca a t) H) (hS : va_S A s.heap H locs) (hl : lv_has ls 2 []) : W p l e rm_X_X4_isMade__10 s m args below meth c H locs 0 0 Q (F0 m 22 ls [.int z0]) := by
  obtain ⟨hx, hb, hml, hown, hts, hN, hK, hD, hA⟩ := id C
  have hf : (fb_g (z0 = 0 ∨ z0 = 1) (some (z0, t))) = some (r, u) := hf
  obtain ⟨h_22, hf⟩ := fb_if hf
  obtain ⟨e_22, e2_22⟩ := fb_e hf
  subst e_22; subst e2_22
  exact hr h_22 _ _ _ _ hP hS dX4_isMade_22
set_option maxRecDepth 20000 in
theorem w_X_X4_isMade__10_21 {p : Program} {l : Launch} {e : Env} {s : State} {m : MethodId} {args : Array Value} {below : List Frame} {meth : Method} {c : Code} {A : Nat → Prop} {Q : State → Prop} {D : va_G} {ca : Nat → ClassId} {a : Nat → Nat} {u : fw_S} {r : Int32}  (C : CX (WX ca a) D (tyv ca) p s m args c A prog_6_method_3_code 2 RX4) (hr : (r = 0 ∨ r = 1) → RX (WX ca a) D p l e rm_X_X4_isMade__10 s m args below meth c A prog_6_method_3_code Q .ireturn [.int r] u) {t : fw_S}  {H : Heap} {locs : List Loc} {ls : Array Slot} (hf : b_X_X4_isMade__10_21  t  = some (r, u)) (hP : va_P D classes (WX ca a t) H) (hS : va_S A s.heap H locs) (hl : lv_has ls 2 []) : W p l e rm_X_X4_isMade__10 s m args below meth c H locs 0 0 Q (F0 m 21 ls []) := by
  obtain ⟨hx, hb, hml, hown, hts, hN, hK, hD, hA⟩ := id C
  have hf : (b_X_X4_isMade__10_22 t ((0 : Int32))) = some (r, u) := hf
  refine lv_iconst (v := 0) hx hb dX4_isMade_21 (by decide) ?_
  exact w_X_X4_isMade__10_22 C hr hf hP hS (lv_sub hl [] rfl)
set_option maxRecDepth 20000 in
theorem w_X_X4_isMade__10_17 {p : Program} {l : Launch} {e : Env} {s : State} {m : MethodId} {args : Array Value} {below : List Frame} {meth : Method} {c : Code} {A : Nat → Prop} {Q : State → Prop} {D : va_G} {ca : Nat → ClassId} {a : Nat → Nat} {u : fw_S} {r : Int32}  (C : CX (WX ca a) D (tyv ca) p s m args c A prog_6_method_3_code 2 RX4) (hr : (r = 0 ∨ r = 1) → RX (WX ca a) D p l e rm_X_X4_isMade__10 s m args below meth c A prog_6_method_3_code Q .ireturn [.int r] u) {t : fw_S}  {H : Heap} {locs : List Loc} {ls : Array Slot} (hf : b_X_X4_isMade__10_17  t  = some (r, u)) (hP : va_P D classes (WX ca a t) H) (hS : va_S A s.heap H locs) (hl : lv_has ls 2 []) : W p l e rm_X_X4_isMade__10 s m args below meth c H locs 0 0 Q (F0 m 17 ls []) := by
  obtain ⟨hx, hb, hml, hown, hts, hN, hK, hD, hA⟩ := id C
  have hf : (b_X_X4_isMade__10_22 t ((1 : Int32))) = some (r, u) := hf
  refine lv_iconst (v := 1) hx hb dX4_isMade_17 (by decide) ?_
  refine lv_goto (tgt := 22) hx hb dX4_isMade_18 (by decide) ?_
  exact w_X_X4_isMade__10_22 C hr hf hP hS (lv_sub hl [] rfl)
set_option maxRecDepth 20000 in
theorem w_X_X4_isMade__10_8 {p : Program} {l : Launch} {e : Env} {s : State} {m : MethodId} {args : Array Value} {below : List Frame} {meth : Method} {c : Code} {A : Nat → Prop} {Q : State → Prop} {D : va_G} {ca : Nat → ClassId} {a : Nat → Nat} {u : fw_S} {r : Int32}  (C : CX (WX ca a) D (tyv ca) p s m args c A prog_6_method_3_code 2 RX4) (hr : (r = 0 ∨ r = 1) → RX (WX ca a) D p l e rm_X_X4_isMade__10 s m args below meth c A prog_6_method_3_code Q .ireturn [.int r] u) {t : fw_S} {x1 : Int32} {H : Heap} {locs : List Loc} {ls : Array Slot} (hf : b_X_X4_isMade__10_8  t x1 = some (r, u)) (hP : va_P D classes (WX ca a t) H) (hS : va_S A s.heap H locs) (hl : lv_has ls 2 [(0, .ref (a 10)), (1, .int x1)]) : W p l e rm_X_X4_isMade__10 s m args below meth c H locs 0 0 Q (F0 m 8 ls []) := by
  obtain ⟨hx, hb, hml, hown, hts, hN, hK, hD, hA⟩ := id C
  have hf : (fb_g (¬ (x1 < 0 ∨ 4 ≤ x1.toNatClampNeg)) (if (st_F t 30 x1.toNatClampNeg) < 0 then b_X_X4_isMade__10_21 t else b_X_X4_isMade__10_17 t)) = some (r, u) := hf
  refine lv_aload_n hx hb dX4_isMade_8 rfl (lv_at hl 0 rfl) ?_
  refine va_get (D := D) (ci := 4) (v := .ref (a 59)) (C := RX4) (T := TX4) (N := 2) hx hb hts inX4 hown hK hP 10 (heX_10 ca a t) rfl 1 (by decide) (hts _ kw_333) (fun _ h9 => h9) rfl dX4_isMade_9 ?_
  refine lv_iload_n hx hb dX4_isMade_12 rfl (lv_at hl 1 rfl) ?_
  obtain ⟨h_13, hf⟩ := fb_if hf
  refine va_iald hx hb hK hP 59 0 (haX_59 ca a t) rfl h_13 dX4_isMade_13 ?_
  refine lv_if_lt (tgt := 21) hx hb dX4_isMade_14 (by decide) (fun h_14 => ?_) (fun h_14 => ?_)
  · have hf := fb_t h_14 hf
    exact w_X_X4_isMade__10_21 C hr hf hP hS (lv_sub hl [] rfl)
  · have hf := fb_f h_14 hf
    exact w_X_X4_isMade__10_17 C hr hf hP hS (lv_sub hl [] rfl)
set_option maxRecDepth 20000 in
theorem w_X_X4_isMade__10_0 {p : Program} {l : Launch} {e : Env} {s : State} {m : MethodId} {args : Array Value} {below : List Frame} {meth : Method} {c : Code} {A : Nat → Prop} {Q : State → Prop} {D : va_G} {ca : Nat → ClassId} {a : Nat → Nat} {u : fw_S} {r : Int32}  (C : CX (WX ca a) D (tyv ca) p s m args c A prog_6_method_3_code 2 RX4) (hr : (r = 0 ∨ r = 1) → RX (WX ca a) D p l e rm_X_X4_isMade__10 s m args below meth c A prog_6_method_3_code Q .ireturn [.int r] u) {t : fw_S} {x1 : Int32} {H : Heap} {locs : List Loc} {ls : Array Slot} (hf : b_X_X4_isMade__10_0  t x1 = some (r, u)) (hP : va_P D classes (WX ca a t) H) (hS : va_S A s.heap H locs) (hl : lv_has ls 2 [(0, .ref (a 10)), (1, .int x1)]) : W p l e rm_X_X4_isMade__10 s m args below meth c H locs 0 0 Q (F0 m 0 ls []) := by
  obtain ⟨hx, hb, hml, hown, hts, hN, hK, hD, hA⟩ := id C
  have hf : (fb_b (f_X_X4_isList__10 t x1) fun v_2 t_1 => (if v_2 = 0 then b_X_X4_isMade__10_21 t_1 else b_X_X4_isMade__10_8 t_1 x1)) = some (r, u) := hf
  refine lv_aload_n hx hb dX4_isMade_0 rfl (lv_at hl 0 rfl) ?_
  refine lv_iload_n hx hb dX4_isMade_1 rfl (lv_at hl 1 rfl) ?_
  obtain ⟨v_2, t_1, g_2, hf⟩ := fb_bs hf
  refine fw_V1 (As := [.int x1]) (rest := []) (n := 1) (q0 := 10) C (c_X_X4_isList__10 (l := l) (D := D) (ca := ca) (a := a) g_2) kw_1111 kw_1104 kw_100 kw_1106 kw_1105 hP hS hl (heX_10 ca a t) rfl rfl rfl (by decide) (by decide +kernel) ⟨Nat.le_of_ble_eq_true rfl, Nat.le_of_ble_eq_true rfl⟩ rfl rfl (Nat.le_of_ble_eq_true rfl) dX4_isMade_2 (fun H locs hP hS => ?_)
  refine W.eq (g2 := F0 m 5 ls [.int v_2]) rfl ?_
  refine lv_if_eq (tgt := 21) hx hb dX4_isMade_5 (by decide) (fun h_5 => ?_) (fun h_5 => ?_)
  · have hf := fb_t h_5 hf
    exact w_X_X4_isMade__10_21 C hr hf hP hS (lv_sub hl [] rfl)
  · have hf := fb_f h_5 hf
    exact w_X_X4_isMade__10_8 C hr hf hP hS (lv_sub hl [0, 1] rfl)
set_option maxRecDepth 20000 in
theorem c_X_X4_isMade__10 {l : Launch} {D : va_G} {ca : Nat → ClassId} {a : Nat → Nat} {t : fw_S} {x1 : Int32} {u : fw_S} {r : Int32} (hf : f_X_X4_isMade__10 t x1 = some (r, u)) : MC (WX ca a) D (tyv ca) l yX4_isMade (.code yX4_isMade prog_6_method_3_code 2 (some .boolean) :: lw_gd) rm_X_X4_isMade__10 [.ref (a 10), .int x1] (some (.int r)) t u := by
  refine fw_met (okX ca a) (by decide +kernel) rfl rfl (Nat.le_of_ble_eq_true rfl) ?_
  intro p e s m args below meth c A Q ls C hr hk hP hS hl hQ
  exact w_X_X4_isMade__10_0 C (fun hz => fw_rz C hr hk hz hQ) hf hP hS (lv_sub hl [0, 1] rfl)
/-! ReactiveSheet.Lists.hasPlace(IJ)Z ['x.lists'] -/
abbrev rm_X_X4_hasPlace__10 : Room := { frames := 1, cells := 0, slots := 0, locals := 21 }
def b_X_X4_hasPlace__10_39  (t : fw_S) (z0 : Int32) : Option (Int32 × fw_S) := fb_g (z0 = 0 ∨ z0 = 1) (some (z0, t))
def b_X_X4_hasPlace__10_38  (t : fw_S)  : Option (Int32 × fw_S) := b_X_X4_hasPlace__10_39 t ((0 : Int32))
def b_X_X4_hasPlace__10_34  (t : fw_S)  : Option (Int32 × fw_S) := b_X_X4_hasPlace__10_39 t ((1 : Int32))
def b_X_X4_hasPlace__10_26  (t : fw_S) (y2 : Int64) : Option (Int32 × fw_S) := if 0 ≤ (lg_cmp y2 ((40 : Int64))) then b_X_X4_hasPlace__10_38 t else b_X_X4_hasPlace__10_34 t
def b_X_X4_hasPlace__10_14  (t : fw_S) (x1 : Int32) (y2 : Int64) : Option (Int32 × fw_S) := fb_g (¬ (x1 < 0 ∨ 4 ≤ x1.toNatClampNeg)) (if 0 ≤ (lg_cmp y2 ((st_F t 30 x1.toNatClampNeg).toInt64)) then b_X_X4_hasPlace__10_38 t else b_X_X4_hasPlace__10_26 t y2)
def b_X_X4_hasPlace__10_8  (t : fw_S) (x1 : Int32) (y2 : Int64) : Option (Int32 × fw_S) := if (lg_cmp y2 ((0 : Int64))) < 0 then b_X_X4_hasPlace__10_38 t else b_X_X4_hasPlace__10_14 t x1 y2
def b_X_X4_hasPlace__10_0  (t : fw_S) (x1 : Int32) (y2 : Int64) : Option (Int32 × fw_S) := fb_b (f_X_X4_isList__10 t x1) fun v_2 t_1 => (if v_2 = 0 then b_X_X4_hasPlace__10_38 t_1 else b_X_X4_hasPlace__10_8 t_1 x1 y2)
def f_X_X4_hasPlace__10 (t : fw_S) (x1 : Int32) (y2 : Int64) : Option (Int32 × fw_S) := b_X_X4_hasPlace__10_0 t x1 y2
set_option maxRecDepth 20000 in
theorem w_X_X4_hasPlace__10_39 {p : Program} {l : Launch} {e : Env} {s : State} {m : MethodId} {args : Array Value} {below : List Frame} {meth : Method} {c : Code} {A : Nat → Prop} {Q : State → Prop} {D : va_G} {ca : Nat → ClassId} {a : Nat → Nat} {u : fw_S} {r : Int32}  (C : CX (WX ca a) D (tyv ca) p s m args c A prog_6_method_4_code 4 RX4) (hr : (r = 0 ∨ r = 1) → RX (WX ca a) D p l e rm_X_X4_hasPlace__10 s m args below meth c A prog_6_method_4_code Q .ireturn [.int r] u) {t : fw_S} {z0 : Int32} {H : Heap} {locs : List Loc} {ls : Array Slot} (hf : b_X_X4_hasPlace__10_39  t z0 = some (r, u)) (hP : va_P D classes (WX ca a t) H) (hS : va_S A s.heap H locs) (hl : lv_has ls 4 []) : W p l e rm_X_X4_hasPlace__10 s m args below meth c H locs 0 0 Q (F0 m 39 ls [.int z0]) := by
  obtain ⟨hx, hb, hml, hown, hts, hN, hK, hD, hA⟩ := id C
  have hf : (fb_g (z0 = 0 ∨ z0 = 1) (some (z0, t))) = some (r, u) := hf
  obtain ⟨h_39, hf⟩ := fb_if hf
  obtain ⟨e_39, e2_39⟩ := fb_e hf
  subst e_39; subst e2_39
  exact hr h_39 _ _ _ _ hP hS dX4_hasPlace_39
set_option maxRecDepth 20000 in
theorem w_X_X4_hasPlace__10_38 {p : Program} {l : Launch} {e : Env} {s : State} {m : MethodId} {args : Array Value} {below : List Frame} {meth : Method} {c : Code} {A : Nat → Prop} {Q : State → Prop} {D : va_G} {ca : Nat → ClassId} {a : Nat → Nat} {u : fw_S} {r : Int32}  (C : CX (WX ca a) D (tyv ca) p s m args c A prog_6_method_4_code 4 RX4) (hr : (r = 0 ∨ r = 1) → RX (WX ca a) D p l e rm_X_X4_hasPlace__10 s m args below meth c A prog_6_method_4_code Q .ireturn [.int r] u) {t : fw_S}  {H : Heap} {locs : List Loc} {ls : Array Slot} (hf : b_X_X4_hasPlace__10_38  t  = some (r, u)) (hP : va_P D classes (WX ca a t) H) (hS : va_S A s.heap H locs) (hl : lv_has ls 4 []) : W p l e rm_X_X4_hasPlace__10 s m args below meth c H locs 0 0 Q (F0 m 38 ls []) := by
  obtain ⟨hx, hb, hml, hown, hts, hN, hK, hD, hA⟩ := id C
  have hf : (b_X_X4_hasPlace__10_39 t ((0 : Int32))) = some (r, u) := hf
  refine lv_iconst (v := 0) hx hb dX4_hasPlace_38 (by decide) ?_
  exact w_X_X4_hasPlace__10_39 C hr hf hP hS (lv_sub hl [] rfl)
set_option maxRecDepth 20000 in
theorem w_X_X4_hasPlace__10_34 {p : Program} {l : Launch} {e : Env} {s : State} {m : MethodId} {args : Array Value} {below : List Frame} {meth : Method} {c : Code} {A : Nat → Prop} {Q : State → Prop} {D : va_G} {ca : Nat → ClassId} {a : Nat → Nat} {u : fw_S} {r : Int32}  (C : CX (WX ca a) D (tyv ca) p s m args c A prog_6_method_4_code 4 RX4) (hr : (r = 0 ∨ r = 1) → RX (WX ca a) D p l e rm_X_X4_hasPlace__10 s m args below meth c A prog_6_method_4_code Q .ireturn [.int r] u) {t : fw_S}  {H : Heap} {locs : List Loc} {ls : Array Slot} (hf : b_X_X4_hasPlace__10_34  t  = some (r, u)) (hP : va_P D classes (WX ca a t) H) (hS : va_S A s.heap H locs) (hl : lv_has ls 4 []) : W p l e rm_X_X4_hasPlace__10 s m args below meth c H locs 0 0 Q (F0 m 34 ls []) := by
  obtain ⟨hx, hb, hml, hown, hts, hN, hK, hD, hA⟩ := id C
  have hf : (b_X_X4_hasPlace__10_39 t ((1 : Int32))) = some (r, u) := hf
  refine lv_iconst (v := 1) hx hb dX4_hasPlace_34 (by decide) ?_
  refine lv_goto (tgt := 39) hx hb dX4_hasPlace_35 (by decide) ?_
  exact w_X_X4_hasPlace__10_39 C hr hf hP hS (lv_sub hl [] rfl)
set_option maxRecDepth 20000 in
theorem w_X_X4_hasPlace__10_26 {p : Program} {l : Launch} {e : Env} {s : State} {m : MethodId} {args : Array Value} {below : List Frame} {meth : Method} {c : Code} {A : Nat → Prop} {Q : State → Prop} {D : va_G} {ca : Nat → ClassId} {a : Nat → Nat} {u : fw_S} {r : Int32}  (C : CX (WX ca a) D (tyv ca) p s m args c A prog_6_method_4_code 4 RX4) (hr : (r = 0 ∨ r = 1) → RX (WX ca a) D p l e rm_X_X4_hasPlace__10 s m args below meth c A prog_6_method_4_code Q .ireturn [.int r] u) {t : fw_S} {y2 : Int64} {H : Heap} {locs : List Loc} {ls : Array Slot} (hf : b_X_X4_hasPlace__10_26  t y2 = some (r, u)) (hP : va_P D classes (WX ca a t) H) (hS : va_S A s.heap H locs) (hl : lv_has ls 4 [(2, .long y2)]) : W p l e rm_X_X4_hasPlace__10 s m args below meth c H locs 0 0 Q (F0 m 26 ls []) := by
  obtain ⟨hx, hb, hml, hown, hts, hN, hK, hD, hA⟩ := id C
  have hf : (if 0 ≤ (lg_cmp y2 ((40 : Int64))) then b_X_X4_hasPlace__10_38 t else b_X_X4_hasPlace__10_34 t) = some (r, u) := hf
  refine lv_lload_n hx hb dX4_hasPlace_26 rfl (lv_at hl 0 rfl) ?_
  refine lv_ldc2 (v := (40)) hx hb hown (hts _ kw_1130) dX4_hasPlace_27 ?_
  refine W.lcmp hx hb dX4_hasPlace_30 ?_
  refine lv_if_ge (tgt := 38) hx hb dX4_hasPlace_31 (by decide) (fun h_31 => ?_) (fun h_31 => ?_)
  · have hf := fb_t h_31 hf
    exact w_X_X4_hasPlace__10_38 C hr hf hP hS (lv_sub hl [] rfl)
  · have hf := fb_f h_31 hf
    exact w_X_X4_hasPlace__10_34 C hr hf hP hS (lv_sub hl [] rfl)
set_option maxRecDepth 20000 in
theorem w_X_X4_hasPlace__10_14 {p : Program} {l : Launch} {e : Env} {s : State} {m : MethodId} {args : Array Value} {below : List Frame} {meth : Method} {c : Code} {A : Nat → Prop} {Q : State → Prop} {D : va_G} {ca : Nat → ClassId} {a : Nat → Nat} {u : fw_S} {r : Int32}  (C : CX (WX ca a) D (tyv ca) p s m args c A prog_6_method_4_code 4 RX4) (hr : (r = 0 ∨ r = 1) → RX (WX ca a) D p l e rm_X_X4_hasPlace__10 s m args below meth c A prog_6_method_4_code Q .ireturn [.int r] u) {t : fw_S} {x1 : Int32} {y2 : Int64} {H : Heap} {locs : List Loc} {ls : Array Slot} (hf : b_X_X4_hasPlace__10_14  t x1 y2 = some (r, u)) (hP : va_P D classes (WX ca a t) H) (hS : va_S A s.heap H locs) (hl : lv_has ls 4 [(0, .ref (a 10)), (1, .int x1), (2, .long y2)]) : W p l e rm_X_X4_hasPlace__10 s m args below meth c H locs 0 0 Q (F0 m 14 ls []) := by
  obtain ⟨hx, hb, hml, hown, hts, hN, hK, hD, hA⟩ := id C
  have hf : (fb_g (¬ (x1 < 0 ∨ 4 ≤ x1.toNatClampNeg)) (if 0 ≤ (lg_cmp y2 ((st_F t 30 x1.toNatClampNeg).toInt64)) then b_X_X4_hasPlace__10_38 t else b_X_X4_hasPlace__10_26 t y2)) = some (r, u) := hf
  refine lv_lload_n hx hb dX4_hasPlace_14 rfl (lv_at hl 2 rfl) ?_
  refine lv_aload_n hx hb dX4_hasPlace_15 rfl (lv_at hl 0 rfl) ?_
  refine va_get (D := D) (ci := 4) (v := .ref (a 59)) (C := RX4) (T := TX4) (N := 2) hx hb hts inX4 hown hK hP 10 (heX_10 ca a t) rfl 1 (by decide) (hts _ kw_333) (fun _ h9 => h9) rfl dX4_hasPlace_16 ?_
  refine lv_iload_n hx hb dX4_hasPlace_19 rfl (lv_at hl 1 rfl) ?_
  obtain ⟨h_20, hf⟩ := fb_if hf
  refine va_iald hx hb hK hP 59 0 (haX_59 ca a t) rfl h_20 dX4_hasPlace_20 ?_
  refine lv_i2l hx hb dX4_hasPlace_21 rfl ?_
  refine W.lcmp hx hb dX4_hasPlace_22 ?_
  refine lv_if_ge (tgt := 38) hx hb dX4_hasPlace_23 (by decide) (fun h_23 => ?_) (fun h_23 => ?_)
  · have hf := fb_t h_23 hf
    exact w_X_X4_hasPlace__10_38 C hr hf hP hS (lv_sub hl [] rfl)
  · have hf := fb_f h_23 hf
    exact w_X_X4_hasPlace__10_26 C hr hf hP hS (lv_sub hl [2] rfl)
set_option maxRecDepth 20000 in
theorem w_X_X4_hasPlace__10_8 {p : Program} {l : Launch} {e : Env} {s : State} {m : MethodId} {args : Array Value} {below : List Frame} {meth : Method} {c : Code} {A : Nat → Prop} {Q : State → Prop} {D : va_G} {ca : Nat → ClassId} {a : Nat → Nat} {u : fw_S} {r : Int32}  (C : CX (WX ca a) D (tyv ca) p s m args c A prog_6_method_4_code 4 RX4) (hr : (r = 0 ∨ r = 1) → RX (WX ca a) D p l e rm_X_X4_hasPlace__10 s m args below meth c A prog_6_method_4_code Q .ireturn [.int r] u) {t : fw_S} {x1 : Int32} {y2 : Int64} {H : Heap} {locs : List Loc} {ls : Array Slot} (hf : b_X_X4_hasPlace__10_8  t x1 y2 = some (r, u)) (hP : va_P D classes (WX ca a t) H) (hS : va_S A s.heap H locs) (hl : lv_has ls 4 [(0, .ref (a 10)), (1, .int x1), (2, .long y2)]) : W p l e rm_X_X4_hasPlace__10 s m args below meth c H locs 0 0 Q (F0 m 8 ls []) := by
  obtain ⟨hx, hb, hml, hown, hts, hN, hK, hD, hA⟩ := id C
  have hf : (if (lg_cmp y2 ((0 : Int64))) < 0 then b_X_X4_hasPlace__10_38 t else b_X_X4_hasPlace__10_14 t x1 y2) = some (r, u) := hf
  refine lv_lload_n hx hb dX4_hasPlace_8 rfl (lv_at hl 2 rfl) ?_
  refine lv_lconst (v := 0) hx hb dX4_hasPlace_9 (by decide) ?_
  refine W.lcmp hx hb dX4_hasPlace_10 ?_
  refine lv_if_lt (tgt := 38) hx hb dX4_hasPlace_11 (by decide) (fun h_11 => ?_) (fun h_11 => ?_)
  · have hf := fb_t h_11 hf
    exact w_X_X4_hasPlace__10_38 C hr hf hP hS (lv_sub hl [] rfl)
  · have hf := fb_f h_11 hf
    exact w_X_X4_hasPlace__10_14 C hr hf hP hS (lv_sub hl [0, 1, 2] rfl)
set_option maxRecDepth 20000 in
theorem w_X_X4_hasPlace__10_0 {p : Program} {l : Launch} {e : Env} {s : State} {m : MethodId} {args : Array Value} {below : List Frame} {meth : Method} {c : Code} {A : Nat → Prop} {Q : State → Prop} {D : va_G} {ca : Nat → ClassId} {a : Nat → Nat} {u : fw_S} {r : Int32}  (C : CX (WX ca a) D (tyv ca) p s m args c A prog_6_method_4_code 4 RX4) (hr : (r = 0 ∨ r = 1) → RX (WX ca a) D p l e rm_X_X4_hasPlace__10 s m args below meth c A prog_6_method_4_code Q .ireturn [.int r] u) {t : fw_S} {x1 : Int32} {y2 : Int64} {H : Heap} {locs : List Loc} {ls : Array Slot} (hf : b_X_X4_hasPlace__10_0  t x1 y2 = some (r, u)) (hP : va_P D classes (WX ca a t) H) (hS : va_S A s.heap H locs) (hl : lv_has ls 4 [(0, .ref (a 10)), (1, .int x1), (2, .long y2)]) : W p l e rm_X_X4_hasPlace__10 s m args below meth c H locs 0 0 Q (F0 m 0 ls []) := by
  obtain ⟨hx, hb, hml, hown, hts, hN, hK, hD, hA⟩ := id C
  have hf : (fb_b (f_X_X4_isList__10 t x1) fun v_2 t_1 => (if v_2 = 0 then b_X_X4_hasPlace__10_38 t_1 else b_X_X4_hasPlace__10_8 t_1 x1 y2)) = some (r, u) := hf
  refine lv_aload_n hx hb dX4_hasPlace_0 rfl (lv_at hl 0 rfl) ?_
  refine lv_iload_n hx hb dX4_hasPlace_1 rfl (lv_at hl 1 rfl) ?_
  obtain ⟨v_2, t_1, g_2, hf⟩ := fb_bs hf
  refine fw_V1 (As := [.int x1]) (rest := []) (n := 1) (q0 := 10) C (c_X_X4_isList__10 (l := l) (D := D) (ca := ca) (a := a) g_2) kw_1111 kw_1104 kw_100 kw_1106 kw_1105 hP hS hl (heX_10 ca a t) rfl rfl rfl (by decide) (by decide +kernel) ⟨Nat.le_of_ble_eq_true rfl, Nat.le_of_ble_eq_true rfl⟩ rfl rfl (Nat.le_of_ble_eq_true rfl) dX4_hasPlace_2 (fun H locs hP hS => ?_)
  refine W.eq (g2 := F0 m 5 ls [.int v_2]) rfl ?_
  refine lv_if_eq (tgt := 38) hx hb dX4_hasPlace_5 (by decide) (fun h_5 => ?_) (fun h_5 => ?_)
  · have hf := fb_t h_5 hf
    exact w_X_X4_hasPlace__10_38 C hr hf hP hS (lv_sub hl [] rfl)
  · have hf := fb_f h_5 hf
    exact w_X_X4_hasPlace__10_8 C hr hf hP hS (lv_sub hl [0, 1, 2] rfl)
set_option maxRecDepth 20000 in
theorem c_X_X4_hasPlace__10 {l : Launch} {D : va_G} {ca : Nat → ClassId} {a : Nat → Nat} {t : fw_S} {x1 : Int32} {y2 : Int64} {u : fw_S} {r : Int32} (hf : f_X_X4_hasPlace__10 t x1 y2 = some (r, u)) : MC (WX ca a) D (tyv ca) l yX4_hasPlace (.code yX4_hasPlace prog_6_method_4_code 4 (some .boolean) :: lw_gd) rm_X_X4_hasPlace__10 [.ref (a 10), .int x1, .long y2] (some (.int r)) t u := by
  refine fw_met (okX ca a) (by decide +kernel) rfl rfl (Nat.le_of_ble_eq_true rfl) ?_
  intro p e s m args below meth c A Q ls C hr hk hP hS hl hQ
  exact w_X_X4_hasPlace__10_0 C (fun hz => fw_rz C hr hk hz hQ) hf hP hS (lv_sub hl [0, 1, 2] rfl)
