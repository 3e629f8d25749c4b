theorem dX0_below_0 : decode prog_2_method_25_code 0 = .ok (.aload_n 0, 1) := by decide +kernel
theorem dX0_below_1 : decode prog_2_method_25_code 1 = .ok (.iload_n 1, 1) := by decide +kernel
theorem dX0_below_2 : decode prog_2_method_25_code 2 = .ok (.invokevirtual 98, 3) := by decide +kernel
theorem dX0_below_5 : decode prog_2_method_25_code 5 = .ok (.lstore_n 2, 1) := by decide +kernel
theorem dX0_below_6 : decode prog_2_method_25_code 6 = .ok (.lconst 0, 1) := by decide +kernel
theorem dX0_below_7 : decode prog_2_method_25_code 7 = .ok (.lstore 4, 2) := by decide +kernel
theorem dX0_below_9 : decode prog_2_method_25_code 9 = .ok (.iconst 0, 1) := by decide +kernel
theorem dX0_below_10 : decode prog_2_method_25_code 10 = .ok (.istore 6, 2) := by decide +kernel
theorem dX0_below_12 : decode prog_2_method_25_code 12 = .ok (.iload 6, 2) := by decide +kernel
theorem dX0_below_14 : decode prog_2_method_25_code 14 = .ok (.bipush 32, 2) := by decide +kernel
theorem dX0_below_16 : decode prog_2_method_25_code 16 = .ok (.if_icmp .ge 57, 3) := by decide +kernel
theorem dX0_below_19 : decode prog_2_method_25_code 19 = .ok (.lload_n 2, 1) := by decide +kernel
theorem dX0_below_20 : decode prog_2_method_25_code 20 = .ok (.lload 4, 2) := by decide +kernel
theorem dX0_below_22 : decode prog_2_method_25_code 22 = .ok (.lcmp, 1) := by decide +kernel
theorem dX0_below_23 : decode prog_2_method_25_code 23 = .ok (.ifCond .eq 50, 3) := by decide +kernel
theorem dX0_below_26 : decode prog_2_method_25_code 26 = .ok (.lload_n 2, 1) := by decide +kernel
theorem dX0_below_27 : decode prog_2_method_25_code 27 = .ok (.lstore 4, 2) := by decide +kernel
theorem dX0_below_29 : decode prog_2_method_25_code 29 = .ok (.iconst 0, 1) := by decide +kernel
theorem dX0_below_30 : decode prog_2_method_25_code 30 = .ok (.istore 7, 2) := by decide +kernel
theorem dX0_below_32 : decode prog_2_method_25_code 32 = .ok (.iload 7, 2) := by decide +kernel
theorem dX0_below_34 : decode prog_2_method_25_code 34 = .ok (.bipush 32, 2) := by decide +kernel
theorem dX0_below_36 : decode prog_2_method_25_code 36 = .ok (.if_icmp .ge 31, 3) := by decide +kernel
theorem dX0_below_39 : decode prog_2_method_25_code 39 = .ok (.aload_n 0, 1) := by decide +kernel
theorem dX0_below_40 : decode prog_2_method_25_code 40 = .ok (.getfield 43, 3) := by decide +kernel
theorem dX0_below_43 : decode prog_2_method_25_code 43 = .ok (.iload 7, 2) := by decide +kernel
theorem dX0_below_45 : decode prog_2_method_25_code 45 = .ok (.laload, 1) := by decide +kernel
theorem dX0_below_46 : decode prog_2_method_25_code 46 = .ok (.lload_n 2, 1) := by decide +kernel
theorem dX0_below_47 : decode prog_2_method_25_code 47 = .ok (.land, 1) := by decide +kernel
theorem dX0_below_48 : decode prog_2_method_25_code 48 = .ok (.lconst 0, 1) := by decide +kernel
theorem dX0_below_49 : decode prog_2_method_25_code 49 = .ok (.lcmp, 1) := by decide +kernel
theorem dX0_below_50 : decode prog_2_method_25_code 50 = .ok (.ifCond .eq 11, 3) := by decide +kernel
theorem dX0_below_53 : decode prog_2_method_25_code 53 = .ok (.lload_n 2, 1) := by decide +kernel
theorem dX0_below_54 : decode prog_2_method_25_code 54 = .ok (.iload 7, 2) := by decide +kernel
theorem dX0_below_56 : decode prog_2_method_25_code 56 = .ok (.invokestatic 73, 3) := by decide +kernel
theorem dX0_below_59 : decode prog_2_method_25_code 59 = .ok (.lor, 1) := by decide +kernel
theorem dX0_below_60 : decode prog_2_method_25_code 60 = .ok (.lstore_n 2, 1) := by decide +kernel
theorem dX0_below_61 : decode prog_2_method_25_code 61 = .ok (.iinc 7 1, 3) := by decide +kernel
theorem dX0_below_64 : decode prog_2_method_25_code 64 = .ok (.goto (-32), 3) := by decide +kernel
theorem dX0_below_67 : decode prog_2_method_25_code 67 = .ok (.iinc 6 1, 3) := by decide +kernel
theorem dX0_below_70 : decode prog_2_method_25_code 70 = .ok (.goto (-58), 3) := by decide +kernel
theorem dX0_below_73 : decode prog_2_method_25_code 73 = .ok (.lload_n 2, 1) := by decide +kernel
theorem dX0_below_74 : decode prog_2_method_25_code 74 = .ok (.lreturn, 1) := by decide +kernel
theorem dX0_causeOf_0 : decode prog_2_method_16_code 0 = .ok (.iload_n 1, 1) := by decide +kernel
theorem dX0_causeOf_1 : decode prog_2_method_16_code 1 = .ok (.i2l, 1) := by decide +kernel
theorem dX0_causeOf_2 : decode prog_2_method_16_code 2 = .ok (.invokestatic 69, 3) := by decide +kernel
theorem dX0_causeOf_5 : decode prog_2_method_16_code 5 = .ok (.ifCond .eq 12, 3) := by decide +kernel
theorem dX0_causeOf_8 : decode prog_2_method_16_code 8 = .ok (.aload_n 0, 1) := by decide +kernel
theorem dX0_causeOf_9 : decode prog_2_method_16_code 9 = .ok (.getfield 34, 3) := by decide +kernel
theorem dX0_causeOf_12 : decode prog_2_method_16_code 12 = .ok (.iload_n 1, 1) := by decide +kernel
theorem dX0_causeOf_13 : decode prog_2_method_16_code 13 = .ok (.iaload, 1) := by decide +kernel
theorem dX0_causeOf_14 : decode prog_2_method_16_code 14 = .ok (.goto 5, 3) := by decide +kernel
theorem dX0_causeOf_17 : decode prog_2_method_16_code 17 = .ok (.bipush (-5), 2) := by decide +kernel
theorem dX0_causeOf_19 : decode prog_2_method_16_code 19 = .ok (.ireturn, 1) := by decide +kernel
theorem dX0_hasRun_0 : decode prog_2_method_18_code 0 = .ok (.iload_n 1, 1) := by decide +kernel
theorem dX0_hasRun_1 : decode prog_2_method_18_code 1 = .ok (.i2l, 1) := by decide +kernel
theorem dX0_hasRun_2 : decode prog_2_method_18_code 2 = .ok (.invokestatic 69, 3) := by decide +kernel
theorem dX0_hasRun_5 : decode prog_2_method_18_code 5 = .ok (.ifCond .eq 18, 3) := by decide +kernel
theorem dX0_hasRun_8 : decode prog_2_method_18_code 8 = .ok (.aload_n 0, 1) := by decide +kernel
theorem dX0_hasRun_9 : decode prog_2_method_18_code 9 = .ok (.getfield 50, 3) := by decide +kernel
theorem dX0_hasRun_12 : decode prog_2_method_18_code 12 = .ok (.iload_n 1, 1) := by decide +kernel
theorem dX0_hasRun_13 : decode prog_2_method_18_code 13 = .ok (.invokestatic 77, 3) := by decide +kernel
theorem dX0_hasRun_16 : decode prog_2_method_18_code 16 = .ok (.ifCond .eq 7, 3) := by decide +kernel
theorem dX0_hasRun_19 : decode prog_2_method_18_code 19 = .ok (.iconst 1, 1) := by decide +kernel
theorem dX0_hasRun_20 : decode prog_2_method_18_code 20 = .ok (.goto 4, 3) := by decide +kernel
theorem dX0_hasRun_23 : decode prog_2_method_18_code 23 = .ok (.iconst 0, 1) := by decide +kernel
theorem dX0_hasRun_24 : decode prog_2_method_18_code 24 = .ok (.ireturn, 1) := by decide +kernel
theorem dX0_kindOf_0 : decode prog_2_method_10_code 0 = .ok (.iload_n 1, 1) := by decide +kernel
theorem dX0_kindOf_1 : decode prog_2_method_10_code 1 = .ok (.i2l, 1) := by decide +kernel
theorem dX0_kindOf_2 : decode prog_2_method_10_code 2 = .ok (.invokestatic 69, 3) := by decide +kernel
theorem dX0_kindOf_5 : decode prog_2_method_10_code 5 = .ok (.ifCond .eq 12, 3) := by decide +kernel
theorem dX0_kindOf_8 : decode prog_2_method_10_code 8 = .ok (.aload_n 0, 1) := by decide +kernel
theorem dX0_kindOf_9 : decode prog_2_method_10_code 9 = .ok (.getfield 9, 3) := by decide +kernel
theorem dX0_kindOf_12 : decode prog_2_method_10_code 12 = .ok (.iload_n 1, 1) := by decide +kernel
theorem dX0_kindOf_13 : decode prog_2_method_10_code 13 = .ok (.iaload, 1) := by decide +kernel
theorem dX0_kindOf_14 : decode prog_2_method_10_code 14 = .ok (.goto 4, 3) := by decide +kernel
theorem dX0_kindOf_17 : decode prog_2_method_10_code 17 = .ok (.iconst 0, 1) := by decide +kernel
theorem dX0_kindOf_18 : decode prog_2_method_10_code 18 = .ok (.ireturn, 1) := by decide +kernel
theorem dX0_readersOf_0 : decode prog_2_method_24_code 0 = .ok (.lconst 0, 1) := by decide +kernel
theorem dX0_readersOf_1 : decode prog_2_method_24_code 1 = .ok (.lstore_n 2, 1) := by decide +kernel
theorem dX0_readersOf_2 : decode prog_2_method_24_code 2 = .ok (.iconst 0, 1) := by decide +kernel
theorem dX0_readersOf_3 : decode prog_2_method_24_code 3 = .ok (.istore 4, 2) := by decide +kernel
theorem dX0_readersOf_5 : decode prog_2_method_24_code 5 = .ok (.iload_n 1, 1) := by decide +kernel
theorem dX0_readersOf_6 : decode prog_2_method_24_code 6 = .ok (.i2l, 1) := by decide +kernel
theorem dX0_readersOf_7 : decode prog_2_method_24_code 7 = .ok (.invokestatic 69, 3) := by decide +kernel
theorem dX0_readersOf_10 : decode prog_2_method_24_code 10 = .ok (.ifCond .eq 38, 3) := by decide +kernel
theorem dX0_readersOf_13 : decode prog_2_method_24_code 13 = .ok (.iload 4, 2) := by decide +kernel
theorem dX0_readersOf_15 : decode prog_2_method_24_code 15 = .ok (.bipush 32, 2) := by decide +kernel
theorem dX0_readersOf_17 : decode prog_2_method_24_code 17 = .ok (.if_icmp .ge 31, 3) := by decide +kernel
theorem dX0_readersOf_20 : decode prog_2_method_24_code 20 = .ok (.aload_n 0, 1) := by decide +kernel
theorem dX0_readersOf_21 : decode prog_2_method_24_code 21 = .ok (.getfield 43, 3) := by decide +kernel
theorem dX0_readersOf_24 : decode prog_2_method_24_code 24 = .ok (.iload 4, 2) := by decide +kernel
theorem dX0_readersOf_26 : decode prog_2_method_24_code 26 = .ok (.laload, 1) := by decide +kernel
theorem dX0_readersOf_27 : decode prog_2_method_24_code 27 = .ok (.iload_n 1, 1) := by decide +kernel
theorem dX0_readersOf_28 : decode prog_2_method_24_code 28 = .ok (.invokestatic 77, 3) := by decide +kernel
theorem dX0_readersOf_31 : decode prog_2_method_24_code 31 = .ok (.ifCond .eq 11, 3) := by decide +kernel
theorem dX0_readersOf_34 : decode prog_2_method_24_code 34 = .ok (.lload_n 2, 1) := by decide +kernel
theorem dX0_readersOf_35 : decode prog_2_method_24_code 35 = .ok (.iload 4, 2) := by decide +kernel
theorem dX0_readersOf_37 : decode prog_2_method_24_code 37 = .ok (.invokestatic 73, 3) := by decide +kernel
theorem dX0_readersOf_40 : decode prog_2_method_24_code 40 = .ok (.lor, 1) := by decide +kernel
theorem dX0_readersOf_41 : decode prog_2_method_24_code 41 = .ok (.lstore_n 2, 1) := by decide +kernel
theorem dX0_readersOf_42 : decode prog_2_method_24_code 42 = .ok (.iinc 4 1, 3) := by decide +kernel
theorem dX0_readersOf_45 : decode prog_2_method_24_code 45 = .ok (.goto (-40), 3) := by decide +kernel
theorem dX0_readersOf_48 : decode prog_2_method_24_code 48 = .ok (.lload_n 2, 1) := by decide +kernel
theorem dX0_readersOf_49 : decode prog_2_method_24_code 49 = .ok (.lreturn, 1) := by decide +kernel
theorem dX0_runsOf_0 : decode prog_2_method_15_code 0 = .ok (.iload_n 1, 1) := by decide +kernel
theorem dX0_runsOf_1 : decode prog_2_method_15_code 1 = .ok (.i2l, 1) := by decide +kernel
theorem dX0_runsOf_2 : decode prog_2_method_15_code 2 = .ok (.invokestatic 69, 3) := by decide +kernel
theorem dX0_runsOf_5 : decode prog_2_method_15_code 5 = .ok (.ifCond .eq 12, 3) := by decide +kernel
theorem dX0_runsOf_8 : decode prog_2_method_15_code 8 = .ok (.aload_n 0, 1) := by decide +kernel
theorem dX0_runsOf_9 : decode prog_2_method_15_code 9 = .ok (.getfield 28, 3) := by decide +kernel
theorem dX0_runsOf_12 : decode prog_2_method_15_code 12 = .ok (.iload_n 1, 1) := by decide +kernel
theorem dX0_runsOf_13 : decode prog_2_method_15_code 13 = .ok (.iaload, 1) := by decide +kernel
theorem dX0_runsOf_14 : decode prog_2_method_15_code 14 = .ok (.goto 4, 3) := by decide +kernel
theorem dX0_runsOf_17 : decode prog_2_method_15_code 17 = .ok (.iconst 0, 1) := by decide +kernel
theorem dX0_runsOf_18 : decode prog_2_method_15_code 18 = .ok (.ireturn, 1) := by decide +kernel
theorem dX10_begin_0 : decode prog_1_method_7_code 0 = .ok (.aload_n 0, 1) := by decide +kernel
theorem dX10_begin_1 : decode prog_1_method_7_code 1 = .ok (.getfield 80, 3) := by decide +kernel
theorem dX10_begin_4 : decode prog_1_method_7_code 4 = .ok (.ifCond .eq 6, 3) := by decide +kernel
theorem dX10_begin_7 : decode prog_1_method_7_code 7 = .ok (.bipush (-3), 2) := by decide +kernel
theorem dX10_begin_9 : decode prog_1_method_7_code 9 = .ok (.ireturn, 1) := by decide +kernel
theorem dX10_begin_10 : decode prog_1_method_7_code 10 = .ok (.aload_n 0, 1) := by decide +kernel
theorem dX10_begin_11 : decode prog_1_method_7_code 11 = .ok (.iconst 1, 1) := by decide +kernel
theorem dX10_begin_12 : decode prog_1_method_7_code 12 = .ok (.putfield 80, 3) := by decide +kernel
theorem dX10_begin_15 : decode prog_1_method_7_code 15 = .ok (.iconst 1, 1) := by decide +kernel
theorem dX10_begin_16 : decode prog_1_method_7_code 16 = .ok (.ireturn, 1) := by decide +kernel
theorem dX10_cancel_0 : decode prog_1_method_9_code 0 = .ok (.aload_n 0, 1) := by decide +kernel
theorem dX10_cancel_1 : decode prog_1_method_9_code 1 = .ok (.getfield 80, 3) := by decide +kernel
theorem dX10_cancel_4 : decode prog_1_method_9_code 4 = .ok (.ifCond .ne 6, 3) := by decide +kernel
theorem dX10_cancel_7 : decode prog_1_method_9_code 7 = .ok (.bipush (-3), 2) := by decide +kernel
theorem dX10_cancel_9 : decode prog_1_method_9_code 9 = .ok (.ireturn, 1) := by decide +kernel
theorem dX10_cancel_10 : decode prog_1_method_9_code 10 = .ok (.aload_n 0, 1) := by decide +kernel
theorem dX10_cancel_11 : decode prog_1_method_9_code 11 = .ok (.iconst 0, 1) := by decide +kernel
theorem dX10_cancel_12 : decode prog_1_method_9_code 12 = .ok (.putfield 80, 3) := by decide +kernel
theorem dX10_cancel_15 : decode prog_1_method_9_code 15 = .ok (.aload_n 0, 1) := by decide +kernel
theorem dX10_cancel_16 : decode prog_1_method_9_code 16 = .ok (.getfield 35, 3) := by decide +kernel
theorem dX10_cancel_19 : decode prog_1_method_9_code 19 = .ok (.invokevirtual 130, 3) := by decide +kernel
theorem dX10_cancel_22 : decode prog_1_method_9_code 22 = .ok (.istore_n 1, 1) := by decide +kernel
theorem dX10_cancel_23 : decode prog_1_method_9_code 23 = .ok (.aload_n 0, 1) := by decide +kernel
theorem dX10_cancel_24 : decode prog_1_method_9_code 24 = .ok (.getfield 35, 3) := by decide +kernel
theorem dX10_cancel_27 : decode prog_1_method_9_code 27 = .ok (.invokevirtual 133, 3) := by decide +kernel
theorem dX10_cancel_30 : decode prog_1_method_9_code 30 = .ok (.iload_n 1, 1) := by decide +kernel
theorem dX10_cancel_31 : decode prog_1_method_9_code 31 = .ok (.ireturn, 1) := by decide +kernel
theorem dX10_clear_0 : decode prog_1_method_11_code 0 = .ok (.aload_n 0, 1) := by decide +kernel
theorem dX10_clear_1 : decode prog_1_method_11_code 1 = .ok (.getfield 12, 3) := by decide +kernel
theorem dX10_clear_4 : decode prog_1_method_11_code 4 = .ok (.invokevirtual 143, 3) := by decide +kernel
theorem dX10_clear_7 : decode prog_1_method_11_code 7 = .ok (.ireturn, 1) := by decide +kernel
theorem dX10_copy_0 : decode prog_1_method_5_code 0 = .ok (.iload_n 1, 1) := by decide +kernel
theorem dX10_copy_1 : decode prog_1_method_5_code 1 = .ok (.i2l, 1) := by decide +kernel
theorem dX10_copy_2 : decode prog_1_method_5_code 2 = .ok (.invokestatic 87, 3) := by decide +kernel
theorem dX10_copy_5 : decode prog_1_method_5_code 5 = .ok (.ifCond .eq 11, 3) := by decide +kernel
theorem dX10_copy_8 : decode prog_1_method_5_code 8 = .ok (.iload_n 2, 1) := by decide +kernel
theorem dX10_copy_9 : decode prog_1_method_5_code 9 = .ok (.i2l, 1) := by decide +kernel
theorem dX10_copy_10 : decode prog_1_method_5_code 10 = .ok (.invokestatic 87, 3) := by decide +kernel
theorem dX10_copy_13 : decode prog_1_method_5_code 13 = .ok (.ifCond .ne 5, 3) := by decide +kernel
theorem dX10_copy_16 : decode prog_1_method_5_code 16 = .ok (.iconst (-1), 1) := by decide +kernel
theorem dX10_copy_17 : decode prog_1_method_5_code 17 = .ok (.ireturn, 1) := by decide +kernel
theorem dX10_copy_18 : decode prog_1_method_5_code 18 = .ok (.aload_n 0, 1) := by decide +kernel
theorem dX10_copy_19 : decode prog_1_method_5_code 19 = .ok (.getfield 28, 3) := by decide +kernel
theorem dX10_copy_22 : decode prog_1_method_5_code 22 = .ok (.invokevirtual 106, 3) := by decide +kernel
theorem dX10_copy_25 : decode prog_1_method_5_code 25 = .ok (.iload_n 1, 1) := by decide +kernel
theorem dX10_copy_26 : decode prog_1_method_5_code 26 = .ok (.invokevirtual 110, 3) := by decide +kernel
theorem dX10_copy_29 : decode prog_1_method_5_code 29 = .ok (.astore_n 3, 1) := by decide +kernel
theorem dX10_copy_30 : decode prog_1_method_5_code 30 = .ok (.aload_n 3, 1) := by decide +kernel
theorem dX10_copy_31 : decode prog_1_method_5_code 31 = .ok (.ifnonnull 6, 3) := by decide +kernel
theorem dX10_copy_34 : decode prog_1_method_5_code 34 = .ok (.bipush (-3), 2) := by decide +kernel
theorem dX10_copy_36 : decode prog_1_method_5_code 36 = .ok (.ireturn, 1) := by decide +kernel
theorem dX10_define_0 : decode prog_1_method_3_code 0 = .ok (.iload_n 1, 1) := by decide +kernel
theorem dX10_define_1 : decode prog_1_method_3_code 1 = .ok (.i2l, 1) := by decide +kernel
theorem dX10_define_2 : decode prog_1_method_3_code 2 = .ok (.invokestatic 87, 3) := by decide +kernel
theorem dX10_define_5 : decode prog_1_method_3_code 5 = .ok (.ifCond .ne 5, 3) := by decide +kernel
theorem dX10_define_8 : decode prog_1_method_3_code 8 = .ok (.iconst (-1), 1) := by decide +kernel
theorem dX10_define_9 : decode prog_1_method_3_code 9 = .ok (.ireturn, 1) := by decide +kernel
theorem dX10_define_10 : decode prog_1_method_3_code 10 = .ok (.aload_n 0, 1) := by decide +kernel
theorem dX10_define_11 : decode prog_1_method_3_code 11 = .ok (.getfield 12, 3) := by decide +kernel
theorem dX10_define_14 : decode prog_1_method_3_code 14 = .ok (.invokevirtual 99, 3) := by decide +kernel
theorem dX10_define_17 : decode prog_1_method_3_code 17 = .ok (.astore_n 2, 1) := by decide +kernel
theorem dX10_define_18 : decode prog_1_method_3_code 18 = .ok (.aload_n 2, 1) := by decide +kernel
theorem dX10_define_19 : decode prog_1_method_3_code 19 = .ok (.ifnonnull 14, 3) := by decide +kernel
theorem dX10_define_22 : decode prog_1_method_3_code 22 = .ok (.bipush (-100), 2) := by decide +kernel
theorem dX10_define_24 : decode prog_1_method_3_code 24 = .ok (.aload_n 0, 1) := by decide +kernel
theorem dX10_define_25 : decode prog_1_method_3_code 25 = .ok (.getfield 12, 3) := by decide +kernel
theorem dX10_define_28 : decode prog_1_method_3_code 28 = .ok (.invokevirtual 103, 3) := by decide +kernel
theorem dX10_define_31 : decode prog_1_method_3_code 31 = .ok (.isub, 1) := by decide +kernel
theorem dX10_define_32 : decode prog_1_method_3_code 32 = .ok (.ireturn, 1) := by decide +kernel
theorem dX10_drop_0 : decode prog_1_method_4_code 0 = .ok (.iload_n 1, 1) := by decide +kernel
theorem dX10_drop_1 : decode prog_1_method_4_code 1 = .ok (.i2l, 1) := by decide +kernel
theorem dX10_drop_2 : decode prog_1_method_4_code 2 = .ok (.invokestatic 87, 3) := by decide +kernel
theorem dX10_drop_5 : decode prog_1_method_4_code 5 = .ok (.ifCond .ne 5, 3) := by decide +kernel
theorem dX10_drop_8 : decode prog_1_method_4_code 8 = .ok (.iconst (-1), 1) := by decide +kernel
theorem dX10_drop_9 : decode prog_1_method_4_code 9 = .ok (.ireturn, 1) := by decide +kernel
theorem dX10_drop_10 : decode prog_1_method_4_code 10 = .ok (.aload_n 0, 1) := by decide +kernel
theorem dX10_drop_11 : decode prog_1_method_4_code 11 = .ok (.getfield 35, 3) := by decide +kernel
theorem dX10_drop_14 : decode prog_1_method_4_code 14 = .ok (.iload_n 1, 1) := by decide +kernel
theorem dX10_drop_15 : decode prog_1_method_4_code 15 = .ok (.iconst 0, 1) := by decide +kernel
theorem dX10_drop_16 : decode prog_1_method_4_code 16 = .ok (.lconst 0, 1) := by decide +kernel
theorem dX10_drop_17 : decode prog_1_method_4_code 17 = .ok (.aconst_null, 1) := by decide +kernel
theorem dX10_drop_18 : decode prog_1_method_4_code 18 = .ok (.invokevirtual 91, 3) := by decide +kernel
theorem dX10_drop_21 : decode prog_1_method_4_code 21 = .ok (.aload_n 0, 1) := by decide +kernel
theorem dX10_drop_22 : decode prog_1_method_4_code 22 = .ok (.invokevirtual 95, 3) := by decide +kernel
theorem dX10_drop_25 : decode prog_1_method_4_code 25 = .ok (.ireturn, 1) := by decide +kernel
theorem dX10_end_0 : decode prog_1_method_8_code 0 = .ok (.aload_n 0, 1) := by decide +kernel
theorem dX10_end_1 : decode prog_1_method_8_code 1 = .ok (.getfield 80, 3) := by decide +kernel
theorem dX10_end_4 : decode prog_1_method_8_code 4 = .ok (.ifCond .ne 6, 3) := by decide +kernel
theorem dX10_end_7 : decode prog_1_method_8_code 7 = .ok (.bipush (-3), 2) := by decide +kernel
theorem dX10_end_9 : decode prog_1_method_8_code 9 = .ok (.ireturn, 1) := by decide +kernel
theorem dX10_end_10 : decode prog_1_method_8_code 10 = .ok (.aload_n 0, 1) := by decide +kernel
theorem dX10_end_11 : decode prog_1_method_8_code 11 = .ok (.iconst 0, 1) := by decide +kernel
theorem dX10_end_12 : decode prog_1_method_8_code 12 = .ok (.putfield 80, 3) := by decide +kernel
theorem dX10_end_15 : decode prog_1_method_8_code 15 = .ok (.aload_n 0, 1) := by decide +kernel
theorem dX10_end_16 : decode prog_1_method_8_code 16 = .ok (.invokevirtual 95, 3) := by decide +kernel
theorem dX10_end_19 : decode prog_1_method_8_code 19 = .ok (.ireturn, 1) := by decide +kernel
theorem dX10_feed_0 : decode prog_1_method_10_code 0 = .ok (.iload_n 1, 1) := by decide +kernel
theorem dX10_feed_1 : decode prog_1_method_10_code 1 = .ok (.iconst 1, 1) := by decide +kernel
theorem dX10_feed_2 : decode prog_1_method_10_code 2 = .ok (.if_icmp .lt 9, 3) := by decide +kernel
theorem dX10_feed_5 : decode prog_1_method_10_code 5 = .ok (.iload_n 1, 1) := by decide +kernel
theorem dX10_feed_6 : decode prog_1_method_10_code 6 = .ok (.bipush 127, 2) := by decide +kernel
theorem dX10_feed_8 : decode prog_1_method_10_code 8 = .ok (.if_icmp .le 6, 3) := by decide +kernel
theorem dX10_feed_11 : decode prog_1_method_10_code 11 = .ok (.bipush (-2), 2) := by decide +kernel
theorem dX10_feed_13 : decode prog_1_method_10_code 13 = .ok (.ireturn, 1) := by decide +kernel
theorem dX10_feed_14 : decode prog_1_method_10_code 14 = .ok (.aload_n 0, 1) := by decide +kernel
theorem dX10_feed_15 : decode prog_1_method_10_code 15 = .ok (.getfield 12, 3) := by decide +kernel
theorem dX10_feed_18 : decode prog_1_method_10_code 18 = .ok (.iload_n 1, 1) := by decide +kernel
theorem dX10_feed_19 : decode prog_1_method_10_code 19 = .ok (.invokevirtual 136, 3) := by decide +kernel
theorem dX10_feed_22 : decode prog_1_method_10_code 22 = .ok (.ifCond .eq 13, 3) := by decide +kernel
theorem dX10_feed_25 : decode prog_1_method_10_code 25 = .ok (.aload_n 0, 1) := by decide +kernel
theorem dX10_feed_26 : decode prog_1_method_10_code 26 = .ok (.getfield 12, 3) := by decide +kernel
theorem dX10_feed_29 : decode prog_1_method_10_code 29 = .ok (.invokevirtual 140, 3) := by decide +kernel
theorem dX10_feed_32 : decode prog_1_method_10_code 32 = .ok (.goto 5, 3) := by decide +kernel
theorem dX10_feed_35 : decode prog_1_method_10_code 35 = .ok (.bipush (-4), 2) := by decide +kernel
theorem dX10_feed_37 : decode prog_1_method_10_code 37 = .ok (.ireturn, 1) := by decide +kernel
theorem dX10_freeze_0 : decode prog_1_method_6_code 0 = .ok (.iload_n 1, 1) := by decide +kernel
theorem dX10_freeze_1 : decode prog_1_method_6_code 1 = .ok (.i2l, 1) := by decide +kernel
theorem dX10_freeze_2 : decode prog_1_method_6_code 2 = .ok (.invokestatic 87, 3) := by decide +kernel
theorem dX10_freeze_5 : decode prog_1_method_6_code 5 = .ok (.ifCond .ne 5, 3) := by decide +kernel
theorem dX10_freeze_8 : decode prog_1_method_6_code 8 = .ok (.iconst (-1), 1) := by decide +kernel
theorem dX10_freeze_9 : decode prog_1_method_6_code 9 = .ok (.ireturn, 1) := by decide +kernel
theorem dX10_freeze_10 : decode prog_1_method_6_code 10 = .ok (.aload_n 0, 1) := by decide +kernel
theorem dX10_freeze_11 : decode prog_1_method_6_code 11 = .ok (.getfield 28, 3) := by decide +kernel
theorem dX10_freeze_14 : decode prog_1_method_6_code 14 = .ok (.invokevirtual 106, 3) := by decide +kernel
theorem dX10_freeze_17 : decode prog_1_method_6_code 17 = .ok (.astore_n 2, 1) := by decide +kernel
theorem dX10_freeze_18 : decode prog_1_method_6_code 18 = .ok (.aload_n 2, 1) := by decide +kernel
theorem dX10_freeze_19 : decode prog_1_method_6_code 19 = .ok (.iload_n 1, 1) := by decide +kernel
theorem dX10_freeze_20 : decode prog_1_method_6_code 20 = .ok (.invokevirtual 119, 3) := by decide +kernel
theorem dX10_freeze_23 : decode prog_1_method_6_code 23 = .ok (.iconst 2, 1) := by decide +kernel
theorem dX10_freeze_24 : decode prog_1_method_6_code 24 = .ok (.if_icmp .ne 11, 3) := by decide +kernel
theorem dX10_freeze_27 : decode prog_1_method_6_code 27 = .ok (.aload_n 2, 1) := by decide +kernel
theorem dX10_freeze_28 : decode prog_1_method_6_code 28 = .ok (.iload_n 1, 1) := by decide +kernel
theorem dX10_freeze_29 : decode prog_1_method_6_code 29 = .ok (.invokevirtual 123, 3) := by decide +kernel
theorem dX10_freeze_32 : decode prog_1_method_6_code 32 = .ok (.ifCond .eq 6, 3) := by decide +kernel
theorem dX10_freeze_35 : decode prog_1_method_6_code 35 = .ok (.bipush (-3), 2) := by decide +kernel
theorem dX10_freeze_37 : decode prog_1_method_6_code 37 = .ok (.ireturn, 1) := by decide +kernel
theorem dX10_freeze_38 : decode prog_1_method_6_code 38 = .ok (.aload_n 0, 1) := by decide +kernel
theorem dX10_freeze_39 : decode prog_1_method_6_code 39 = .ok (.getfield 35, 3) := by decide +kernel
theorem dX10_freeze_42 : decode prog_1_method_6_code 42 = .ok (.iload_n 1, 1) := by decide +kernel
theorem dX10_freeze_43 : decode prog_1_method_6_code 43 = .ok (.iconst 1, 1) := by decide +kernel
theorem dX10_freeze_44 : decode prog_1_method_6_code 44 = .ok (.aload_n 2, 1) := by decide +kernel
theorem dX10_freeze_45 : decode prog_1_method_6_code 45 = .ok (.iload_n 1, 1) := by decide +kernel
theorem dX10_freeze_46 : decode prog_1_method_6_code 46 = .ok (.invokevirtual 126, 3) := by decide +kernel
theorem dX10_freeze_49 : decode prog_1_method_6_code 49 = .ok (.aconst_null, 1) := by decide +kernel
theorem dX10_freeze_50 : decode prog_1_method_6_code 50 = .ok (.invokevirtual 91, 3) := by decide +kernel
theorem dX10_freeze_53 : decode prog_1_method_6_code 53 = .ok (.aload_n 0, 1) := by decide +kernel
theorem dX10_freeze_54 : decode prog_1_method_6_code 54 = .ok (.invokevirtual 95, 3) := by decide +kernel
theorem dX10_freeze_57 : decode prog_1_method_6_code 57 = .ok (.ireturn, 1) := by decide +kernel
theorem dX10_of_0 : decode prog_1_method_13_code 0 = .ok (.iload_n 1, 1) := by decide +kernel
theorem dX10_of_1 : decode prog_1_method_13_code 1 = .ok (.i2l, 1) := by decide +kernel
theorem dX10_of_2 : decode prog_1_method_13_code 2 = .ok (.invokestatic 87, 3) := by decide +kernel
theorem dX10_of_5 : decode prog_1_method_13_code 5 = .ok (.ifCond .ne 5, 3) := by decide +kernel
theorem dX10_of_8 : decode prog_1_method_13_code 8 = .ok (.iconst (-1), 1) := by decide +kernel
theorem dX10_of_9 : decode prog_1_method_13_code 9 = .ok (.ireturn, 1) := by decide +kernel
theorem dX10_of_10 : decode prog_1_method_13_code 10 = .ok (.aload_n 0, 1) := by decide +kernel
theorem dX10_of_11 : decode prog_1_method_13_code 11 = .ok (.getfield 28, 3) := by decide +kernel
theorem dX10_of_14 : decode prog_1_method_13_code 14 = .ok (.invokevirtual 106, 3) := by decide +kernel
theorem dX10_of_17 : decode prog_1_method_13_code 17 = .ok (.astore_n 3, 1) := by decide +kernel
theorem dX10_of_18 : decode prog_1_method_13_code 18 = .ok (.iload_n 2, 1) := by decide +kernel
theorem dX10_of_19 : decode prog_1_method_13_code 19 = .ok (.tableswitch 135 0 9 #[53, 59, 65, 71, 77, 83, 92, 106, 120, 126], 53) := by decide +kernel
theorem dX10_of_72 : decode prog_1_method_13_code 72 = .ok (.aload_n 3, 1) := by decide +kernel
theorem dX10_of_73 : decode prog_1_method_13_code 73 = .ok (.iload_n 1, 1) := by decide +kernel
theorem dX10_of_74 : decode prog_1_method_13_code 74 = .ok (.invokevirtual 119, 3) := by decide +kernel
theorem dX10_of_77 : decode prog_1_method_13_code 77 = .ok (.ireturn, 1) := by decide +kernel
theorem dX10_of_78 : decode prog_1_method_13_code 78 = .ok (.aload_n 3, 1) := by decide +kernel
theorem dX10_of_79 : decode prog_1_method_13_code 79 = .ok (.iload_n 1, 1) := by decide +kernel
theorem dX10_of_80 : decode prog_1_method_13_code 80 = .ok (.invokevirtual 123, 3) := by decide +kernel
theorem dX10_of_83 : decode prog_1_method_13_code 83 = .ok (.ireturn, 1) := by decide +kernel
theorem dX10_of_84 : decode prog_1_method_13_code 84 = .ok (.aload_n 3, 1) := by decide +kernel
theorem dX10_of_85 : decode prog_1_method_13_code 85 = .ok (.iload_n 1, 1) := by decide +kernel
theorem dX10_of_86 : decode prog_1_method_13_code 86 = .ok (.invokevirtual 149, 3) := by decide +kernel
theorem dX10_of_89 : decode prog_1_method_13_code 89 = .ok (.ireturn, 1) := by decide +kernel
theorem dX10_of_90 : decode prog_1_method_13_code 90 = .ok (.aload_n 3, 1) := by decide +kernel
theorem dX10_of_91 : decode prog_1_method_13_code 91 = .ok (.iload_n 1, 1) := by decide +kernel
theorem dX10_of_92 : decode prog_1_method_13_code 92 = .ok (.invokevirtual 152, 3) := by decide +kernel
theorem dX10_of_95 : decode prog_1_method_13_code 95 = .ok (.ireturn, 1) := by decide +kernel
theorem dX10_of_96 : decode prog_1_method_13_code 96 = .ok (.aload_n 3, 1) := by decide +kernel
theorem dX10_of_97 : decode prog_1_method_13_code 97 = .ok (.iload_n 1, 1) := by decide +kernel
theorem dX10_of_98 : decode prog_1_method_13_code 98 = .ok (.invokevirtual 155, 3) := by decide +kernel
theorem dX10_of_101 : decode prog_1_method_13_code 101 = .ok (.ireturn, 1) := by decide +kernel
theorem dX10_of_102 : decode prog_1_method_13_code 102 = .ok (.aload_n 3, 1) := by decide +kernel
theorem dX10_of_103 : decode prog_1_method_13_code 103 = .ok (.iload_n 1, 1) := by decide +kernel
theorem dX10_of_104 : decode prog_1_method_13_code 104 = .ok (.invokevirtual 158, 3) := by decide +kernel
theorem dX10_of_107 : decode prog_1_method_13_code 107 = .ok (.invokestatic 161, 3) := by decide +kernel
theorem dX10_of_110 : decode prog_1_method_13_code 110 = .ok (.ireturn, 1) := by decide +kernel
theorem dX10_of_111 : decode prog_1_method_13_code 111 = .ok (.aload_n 3, 1) := by decide +kernel
theorem dX10_of_112 : decode prog_1_method_13_code 112 = .ok (.iload_n 1, 1) := by decide +kernel
theorem dX10_of_113 : decode prog_1_method_13_code 113 = .ok (.invokevirtual 165, 3) := by decide +kernel
theorem dX10_of_116 : decode prog_1_method_13_code 116 = .ok (.ifCond .eq 7, 3) := by decide +kernel
theorem dX10_of_119 : decode prog_1_method_13_code 119 = .ok (.iconst 1, 1) := by decide +kernel
theorem dX10_of_120 : decode prog_1_method_13_code 120 = .ok (.goto 4, 3) := by decide +kernel
theorem dX10_of_123 : decode prog_1_method_13_code 123 = .ok (.iconst 0, 1) := by decide +kernel
theorem dX10_of_124 : decode prog_1_method_13_code 124 = .ok (.ireturn, 1) := by decide +kernel
theorem dX10_of_125 : decode prog_1_method_13_code 125 = .ok (.aload_n 3, 1) := by decide +kernel
theorem dX10_of_126 : decode prog_1_method_13_code 126 = .ok (.iload_n 1, 1) := by decide +kernel
theorem dX10_of_127 : decode prog_1_method_13_code 127 = .ok (.invokevirtual 168, 3) := by decide +kernel
theorem dX10_of_130 : decode prog_1_method_13_code 130 = .ok (.ifCond .eq 7, 3) := by decide +kernel
theorem dX10_of_133 : decode prog_1_method_13_code 133 = .ok (.iconst 1, 1) := by decide +kernel
theorem dX10_of_134 : decode prog_1_method_13_code 134 = .ok (.goto 4, 3) := by decide +kernel
theorem dX10_of_137 : decode prog_1_method_13_code 137 = .ok (.iconst 0, 1) := by decide +kernel
theorem dX10_of_138 : decode prog_1_method_13_code 138 = .ok (.ireturn, 1) := by decide +kernel
theorem dX10_of_139 : decode prog_1_method_13_code 139 = .ok (.aload_n 3, 1) := by decide +kernel
theorem dX10_of_140 : decode prog_1_method_13_code 140 = .ok (.iload_n 1, 1) := by decide +kernel
theorem dX10_of_141 : decode prog_1_method_13_code 141 = .ok (.invokevirtual 171, 3) := by decide +kernel
theorem dX10_of_144 : decode prog_1_method_13_code 144 = .ok (.ireturn, 1) := by decide +kernel
theorem dX10_of_145 : decode prog_1_method_13_code 145 = .ok (.aload_n 3, 1) := by decide +kernel
theorem dX10_of_146 : decode prog_1_method_13_code 146 = .ok (.iload_n 1, 1) := by decide +kernel
theorem dX10_of_147 : decode prog_1_method_13_code 147 = .ok (.invokevirtual 174, 3) := by decide +kernel
theorem dX10_of_150 : decode prog_1_method_13_code 150 = .ok (.invokestatic 161, 3) := by decide +kernel
theorem dX10_of_153 : decode prog_1_method_13_code 153 = .ok (.ireturn, 1) := by decide +kernel
theorem dX10_of_154 : decode prog_1_method_13_code 154 = .ok (.iconst (-1), 1) := by decide +kernel
theorem dX10_of_155 : decode prog_1_method_13_code 155 = .ok (.ireturn, 1) := by decide +kernel
theorem dX10_value_0 : decode prog_1_method_12_code 0 = .ok (.aload_n 0, 1) := by decide +kernel
theorem dX10_value_1 : decode prog_1_method_12_code 1 = .ok (.getfield 28, 3) := by decide +kernel
theorem dX10_value_4 : decode prog_1_method_12_code 4 = .ok (.invokevirtual 106, 3) := by decide +kernel
theorem dX10_value_7 : decode prog_1_method_12_code 7 = .ok (.iload_n 1, 1) := by decide +kernel
theorem dX10_value_8 : decode prog_1_method_12_code 8 = .ok (.invokevirtual 146, 3) := by decide +kernel
theorem dX10_value_11 : decode prog_1_method_12_code 11 = .ok (.lreturn, 1) := by decide +kernel
theorem dX5_add_0 : decode prog_7_method_2_code 0 = .ok (.aload_n 0, 1) := by decide +kernel
theorem dX5_add_1 : decode prog_7_method_2_code 1 = .ok (.getfield 30, 3) := by decide +kernel
theorem dX5_add_4 : decode prog_7_method_2_code 4 = .ok (.bipush 120, 2) := by decide +kernel
theorem dX5_add_6 : decode prog_7_method_2_code 6 = .ok (.if_icmp .lt 5, 3) := by decide +kernel
theorem dX5_add_9 : decode prog_7_method_2_code 9 = .ok (.iconst 0, 1) := by decide +kernel
theorem dX5_add_10 : decode prog_7_method_2_code 10 = .ok (.ireturn, 1) := by decide +kernel
theorem dX5_add_11 : decode prog_7_method_2_code 11 = .ok (.aload_n 0, 1) := by decide +kernel
theorem dX5_add_12 : decode prog_7_method_2_code 12 = .ok (.getfield 9, 3) := by decide +kernel
theorem dX5_add_15 : decode prog_7_method_2_code 15 = .ok (.aload_n 0, 1) := by decide +kernel
theorem dX5_add_16 : decode prog_7_method_2_code 16 = .ok (.getfield 30, 3) := by decide +kernel
theorem dX5_add_19 : decode prog_7_method_2_code 19 = .ok (.iload_n 1, 1) := by decide +kernel
theorem dX5_add_20 : decode prog_7_method_2_code 20 = .ok (.iastore, 1) := by decide +kernel
theorem dX5_add_21 : decode prog_7_method_2_code 21 = .ok (.aload_n 0, 1) := by decide +kernel
theorem dX5_add_22 : decode prog_7_method_2_code 22 = .ok (.dup, 1) := by decide +kernel
theorem dX5_add_23 : decode prog_7_method_2_code 23 = .ok (.getfield 30, 3) := by decide +kernel
theorem dX5_add_26 : decode prog_7_method_2_code 26 = .ok (.iconst 1, 1) := by decide +kernel
theorem dX5_add_27 : decode prog_7_method_2_code 27 = .ok (.iadd, 1) := by decide +kernel
theorem dX5_add_28 : decode prog_7_method_2_code 28 = .ok (.putfield 30, 3) := by decide +kernel
theorem dX5_add_31 : decode prog_7_method_2_code 31 = .ok (.iconst 1, 1) := by decide +kernel
theorem dX5_add_32 : decode prog_7_method_2_code 32 = .ok (.ireturn, 1) := by decide +kernel
theorem dX5_choice_0 : decode prog_7_method_12_code 0 = .ok (.aload_n 0, 1) := by decide +kernel
theorem dX5_choice_1 : decode prog_7_method_12_code 1 = .ok (.iload_n 1, 1) := by decide +kernel
theorem dX5_choice_2 : decode prog_7_method_12_code 2 = .ok (.invokevirtual 68, 3) := by decide +kernel
theorem dX5_choice_5 : decode prog_7_method_12_code 5 = .ok (.istore_n 3, 1) := by decide +kernel
theorem dX5_choice_6 : decode prog_7_method_12_code 6 = .ok (.iload_n 2, 1) := by decide +kernel
theorem dX5_choice_7 : decode prog_7_method_12_code 7 = .ok (.bipush 120, 2) := by decide +kernel
theorem dX5_choice_9 : decode prog_7_method_12_code 9 = .ok (.if_icmp .ge 12, 3) := by decide +kernel
theorem dX5_choice_12 : decode prog_7_method_12_code 12 = .ok (.aload_n 0, 1) := by decide +kernel
theorem dX5_choice_13 : decode prog_7_method_12_code 13 = .ok (.bipush 63, 2) := by decide +kernel
theorem dX5_choice_15 : decode prog_7_method_12_code 15 = .ok (.invokevirtual 64, 3) := by decide +kernel
theorem dX5_choice_18 : decode prog_7_method_12_code 18 = .ok (.ifCond .ne 5, 3) := by decide +kernel
theorem dX5_choice_21 : decode prog_7_method_12_code 21 = .ok (.iload_n 3, 1) := by decide +kernel
theorem dX5_choice_22 : decode prog_7_method_12_code 22 = .ok (.ireturn, 1) := by decide +kernel
theorem dX5_choice_23 : decode prog_7_method_12_code 23 = .ok (.aload_n 0, 1) := by decide +kernel
theorem dX5_choice_24 : decode prog_7_method_12_code 24 = .ok (.bipush 16, 2) := by decide +kernel
theorem dX5_choice_26 : decode prog_7_method_12_code 26 = .ok (.iload_n 3, 1) := by decide +kernel
theorem dX5_choice_27 : decode prog_7_method_12_code 27 = .ok (.iconst 0, 1) := by decide +kernel
theorem dX5_choice_28 : decode prog_7_method_12_code 28 = .ok (.iconst 0, 1) := by decide +kernel
theorem dX5_choice_29 : decode prog_7_method_12_code 29 = .ok (.invokevirtual 71, 3) := by decide +kernel
theorem dX5_choice_32 : decode prog_7_method_12_code 32 = .ok (.istore 4, 2) := by decide +kernel
theorem dX5_choice_34 : decode prog_7_method_12_code 34 = .ok (.aload_n 0, 1) := by decide +kernel
theorem dX5_choice_35 : decode prog_7_method_12_code 35 = .ok (.iload_n 1, 1) := by decide +kernel
theorem dX5_choice_36 : decode prog_7_method_12_code 36 = .ok (.invokevirtual 68, 3) := by decide +kernel
theorem dX5_choice_39 : decode prog_7_method_12_code 39 = .ok (.istore 5, 2) := by decide +kernel
theorem dX5_choice_41 : decode prog_7_method_12_code 41 = .ok (.aload_n 0, 1) := by decide +kernel
theorem dX5_choice_42 : decode prog_7_method_12_code 42 = .ok (.bipush 58, 2) := by decide +kernel
theorem dX5_choice_44 : decode prog_7_method_12_code 44 = .ok (.invokevirtual 75, 3) := by decide +kernel
theorem dX5_choice_47 : decode prog_7_method_12_code 47 = .ok (.aload_n 0, 1) := by decide +kernel
theorem dX5_choice_48 : decode prog_7_method_12_code 48 = .ok (.bipush 17, 2) := by decide +kernel
theorem dX5_choice_50 : decode prog_7_method_12_code 50 = .ok (.iconst 0, 1) := by decide +kernel
theorem dX5_choice_51 : decode prog_7_method_12_code 51 = .ok (.iconst 0, 1) := by decide +kernel
theorem dX5_choice_52 : decode prog_7_method_12_code 52 = .ok (.iconst 0, 1) := by decide +kernel
theorem dX5_choice_53 : decode prog_7_method_12_code 53 = .ok (.invokevirtual 71, 3) := by decide +kernel
theorem dX5_choice_56 : decode prog_7_method_12_code 56 = .ok (.istore 6, 2) := by decide +kernel
theorem dX5_choice_58 : decode prog_7_method_12_code 58 = .ok (.aload_n 0, 1) := by decide +kernel
theorem dX5_choice_59 : decode prog_7_method_12_code 59 = .ok (.iload_n 1, 1) := by decide +kernel
theorem dX5_choice_60 : decode prog_7_method_12_code 60 = .ok (.iload_n 2, 1) := by decide +kernel
theorem dX5_choice_61 : decode prog_7_method_12_code 61 = .ok (.iconst 1, 1) := by decide +kernel
theorem dX5_choice_62 : decode prog_7_method_12_code 62 = .ok (.iadd, 1) := by decide +kernel
theorem dX5_choice_63 : decode prog_7_method_12_code 63 = .ok (.invokevirtual 43, 3) := by decide +kernel
theorem dX5_comparing_0 : decode prog_7_method_15_code 0 = .ok (.iload_n 1, 1) := by decide +kernel
theorem dX5_comparing_1 : decode prog_7_method_15_code 1 = .ok (.tableswitch 36 60 62 #[27, 30, 33], 27) := by decide +kernel
theorem dX5_comparing_28 : decode prog_7_method_15_code 28 = .ok (.bipush 12, 2) := by decide +kernel
theorem dX5_comparing_30 : decode prog_7_method_15_code 30 = .ok (.ireturn, 1) := by decide +kernel
theorem dX5_comparing_31 : decode prog_7_method_15_code 31 = .ok (.bipush 13, 2) := by decide +kernel
theorem dX5_comparing_33 : decode prog_7_method_15_code 33 = .ok (.ireturn, 1) := by decide +kernel
theorem dX5_comparing_34 : decode prog_7_method_15_code 34 = .ok (.bipush 14, 2) := by decide +kernel
theorem dX5_comparing_36 : decode prog_7_method_15_code 36 = .ok (.ireturn, 1) := by decide +kernel
theorem dX5_comparing_37 : decode prog_7_method_15_code 37 = .ok (.iconst (-1), 1) := by decide +kernel
theorem dX5_comparing_38 : decode prog_7_method_15_code 38 = .ok (.ireturn, 1) := by decide +kernel
theorem dX5_comparison_0 : decode prog_7_method_14_code 0 = .ok (.aload_n 0, 1) := by decide +kernel
theorem dX5_comparison_1 : decode prog_7_method_14_code 1 = .ok (.iload_n 1, 1) := by decide +kernel
theorem dX5_comparison_2 : decode prog_7_method_14_code 2 = .ok (.invokevirtual 83, 3) := by decide +kernel
theorem dX5_comparison_5 : decode prog_7_method_14_code 5 = .ok (.istore_n 2, 1) := by decide +kernel
theorem dX5_comparison_6 : decode prog_7_method_14_code 6 = .ok (.aload_n 0, 1) := by decide +kernel
theorem dX5_comparison_7 : decode prog_7_method_14_code 7 = .ok (.aload_n 0, 1) := by decide +kernel
theorem dX5_comparison_8 : decode prog_7_method_14_code 8 = .ok (.invokevirtual 60, 3) := by decide +kernel
theorem dX5_comparison_11 : decode prog_7_method_14_code 11 = .ok (.invokevirtual 86, 3) := by decide +kernel
theorem dX5_comparison_14 : decode prog_7_method_14_code 14 = .ok (.istore_n 3, 1) := by decide +kernel
theorem dX5_comparison_15 : decode prog_7_method_14_code 15 = .ok (.iload_n 3, 1) := by decide +kernel
theorem dX5_comparison_16 : decode prog_7_method_14_code 16 = .ok (.ifCond .ge 5, 3) := by decide +kernel
theorem dX5_comparison_19 : decode prog_7_method_14_code 19 = .ok (.iload_n 2, 1) := by decide +kernel
theorem dX5_comparison_20 : decode prog_7_method_14_code 20 = .ok (.ireturn, 1) := by decide +kernel
theorem dX5_comparison_21 : decode prog_7_method_14_code 21 = .ok (.aload_n 0, 1) := by decide +kernel
theorem dX5_comparison_22 : decode prog_7_method_14_code 22 = .ok (.dup, 1) := by decide +kernel
theorem dX5_comparison_23 : decode prog_7_method_14_code 23 = .ok (.getfield 34, 3) := by decide +kernel
theorem dX5_comparison_26 : decode prog_7_method_14_code 26 = .ok (.iconst 1, 1) := by decide +kernel
theorem dX5_comparison_27 : decode prog_7_method_14_code 27 = .ok (.iadd, 1) := by decide +kernel
theorem dX5_comparison_28 : decode prog_7_method_14_code 28 = .ok (.putfield 34, 3) := by decide +kernel
theorem dX5_comparison_31 : decode prog_7_method_14_code 31 = .ok (.aload_n 0, 1) := by decide +kernel
theorem dX5_comparison_32 : decode prog_7_method_14_code 32 = .ok (.iload_n 3, 1) := by decide +kernel
theorem dX5_comparison_33 : decode prog_7_method_14_code 33 = .ok (.iload_n 2, 1) := by decide +kernel
theorem dX5_comparison_34 : decode prog_7_method_14_code 34 = .ok (.aload_n 0, 1) := by decide +kernel
theorem dX5_comparison_35 : decode prog_7_method_14_code 35 = .ok (.iload_n 1, 1) := by decide +kernel
theorem dX5_comparison_36 : decode prog_7_method_14_code 36 = .ok (.invokevirtual 83, 3) := by decide +kernel
theorem dX5_comparison_39 : decode prog_7_method_14_code 39 = .ok (.iconst 0, 1) := by decide +kernel
theorem dX5_comparison_40 : decode prog_7_method_14_code 40 = .ok (.invokevirtual 71, 3) := by decide +kernel
theorem dX5_comparison_43 : decode prog_7_method_14_code 43 = .ok (.ireturn, 1) := by decide +kernel
theorem dX5_fault_0 : decode prog_7_method_5_code 0 = .ok (.aload_n 0, 1) := by decide +kernel
theorem dX5_fault_1 : decode prog_7_method_5_code 1 = .ok (.getfield 37, 3) := by decide +kernel
theorem dX5_fault_4 : decode prog_7_method_5_code 4 = .ok (.ireturn, 1) := by decide +kernel
theorem dX5_length_0 : decode prog_7_method_4_code 0 = .ok (.aload_n 0, 1) := by decide +kernel
theorem dX5_length_1 : decode prog_7_method_4_code 1 = .ok (.getfield 30, 3) := by decide +kernel
theorem dX5_length_4 : decode prog_7_method_4_code 4 = .ok (.ireturn, 1) := by decide +kernel
theorem dX5_take_0 : decode prog_7_method_6_code 0 = .ok (.aload_n 0, 1) := by decide +kernel
theorem dX5_take_1 : decode prog_7_method_6_code 1 = .ok (.iconst 0, 1) := by decide +kernel
theorem dX5_take_2 : decode prog_7_method_6_code 2 = .ok (.putfield 34, 3) := by decide +kernel
theorem dX5_take_5 : decode prog_7_method_6_code 5 = .ok (.aload_n 0, 1) := by decide +kernel
theorem dX5_take_6 : decode prog_7_method_6_code 6 = .ok (.iconst (-1), 1) := by decide +kernel
theorem dX5_take_7 : decode prog_7_method_6_code 7 = .ok (.putfield 37, 3) := by decide +kernel
theorem dX5_take_10 : decode prog_7_method_6_code 10 = .ok (.aload_n 0, 1) := by decide +kernel
theorem dX5_take_11 : decode prog_7_method_6_code 11 = .ok (.iconst 0, 1) := by decide +kernel
theorem dX5_take_12 : decode prog_7_method_6_code 12 = .ok (.putfield 40, 3) := by decide +kernel
theorem dX5_take_15 : decode prog_7_method_6_code 15 = .ok (.aload_n 0, 1) := by decide +kernel
theorem dX5_take_16 : decode prog_7_method_6_code 16 = .ok (.iconst 0, 1) := by decide +kernel
theorem dX5_take_17 : decode prog_7_method_6_code 17 = .ok (.iconst 0, 1) := by decide +kernel
theorem dX5_take_18 : decode prog_7_method_6_code 18 = .ok (.invokevirtual 43, 3) := by decide +kernel
theorem dX5_take_21 : decode prog_7_method_6_code 21 = .ok (.istore_n 1, 1) := by decide +kernel
theorem dX5_take_22 : decode prog_7_method_6_code 22 = .ok (.aload_n 0, 1) := by decide +kernel
theorem dX5_take_23 : decode prog_7_method_6_code 23 = .ok (.getfield 34, 3) := by decide +kernel
theorem dX5_take_26 : decode prog_7_method_6_code 26 = .ok (.aload_n 0, 1) := by decide +kernel
theorem dX5_take_27 : decode prog_7_method_6_code 27 = .ok (.getfield 30, 3) := by decide +kernel
theorem dX5_take_30 : decode prog_7_method_6_code 30 = .ok (.if_icmp .ge 12, 3) := by decide +kernel
theorem dX5_take_33 : decode prog_7_method_6_code 33 = .ok (.aload_n 0, 1) := by decide +kernel
theorem dX5_take_34 : decode prog_7_method_6_code 34 = .ok (.aload_n 0, 1) := by decide +kernel
theorem dX5_take_35 : decode prog_7_method_6_code 35 = .ok (.getfield 34, 3) := by decide +kernel
theorem dX5_take_38 : decode prog_7_method_6_code 38 = .ok (.invokevirtual 47, 3) := by decide +kernel
theorem dX5_take_41 : decode prog_7_method_6_code 41 = .ok (.pop, 1) := by decide +kernel
theorem dX5_take_42 : decode prog_7_method_6_code 42 = .ok (.aload_n 0, 1) := by decide +kernel
theorem dX5_take_43 : decode prog_7_method_6_code 43 = .ok (.iconst 0, 1) := by decide +kernel
theorem dX5_take_44 : decode prog_7_method_6_code 44 = .ok (.putfield 30, 3) := by decide +kernel
theorem dX5_take_47 : decode prog_7_method_6_code 47 = .ok (.aload_n 0, 1) := by decide +kernel
theorem dX5_take_48 : decode prog_7_method_6_code 48 = .ok (.getfield 37, 3) := by decide +kernel
theorem dX5_take_51 : decode prog_7_method_6_code 51 = .ok (.ifCond .ge 11, 3) := by decide +kernel
theorem dX5_take_54 : decode prog_7_method_6_code 54 = .ok (.aload_n 0, 1) := by decide +kernel
theorem dX5_take_55 : decode prog_7_method_6_code 55 = .ok (.getfield 40, 3) := by decide +kernel
theorem dX5_take_58 : decode prog_7_method_6_code 58 = .ok (.iconst 1, 1) := by decide +kernel
theorem dX5_take_59 : decode prog_7_method_6_code 59 = .ok (.if_icmp .ge 5, 3) := by decide +kernel
theorem dX5_take_62 : decode prog_7_method_6_code 62 = .ok (.aconst_null, 1) := by decide +kernel
theorem dX5_take_63 : decode prog_7_method_6_code 63 = .ok (.areturn, 1) := by decide +kernel
theorem dX5_take_64 : decode prog_7_method_6_code 64 = .ok (.new 13, 3) := by decide +kernel
theorem dX5_wipe_0 : decode prog_7_method_3_code 0 = .ok (.aload_n 0, 1) := by decide +kernel
theorem dX5_wipe_1 : decode prog_7_method_3_code 1 = .ok (.getfield 30, 3) := by decide +kernel
theorem dX5_wipe_4 : decode prog_7_method_3_code 4 = .ok (.istore_n 1, 1) := by decide +kernel
theorem dX5_wipe_5 : decode prog_7_method_3_code 5 = .ok (.aload_n 0, 1) := by decide +kernel
theorem dX5_wipe_6 : decode prog_7_method_3_code 6 = .ok (.iconst 0, 1) := by decide +kernel
theorem dX5_wipe_7 : decode prog_7_method_3_code 7 = .ok (.putfield 30, 3) := by decide +kernel
theorem dX5_wipe_10 : decode prog_7_method_3_code 10 = .ok (.iload_n 1, 1) := by decide +kernel
theorem dX5_wipe_11 : decode prog_7_method_3_code 11 = .ok (.ireturn, 1) := by decide +kernel
/-! ReactiveSheet.Parser.comparing(I)I ['x.parser'] -/
abbrev rm_X_X5_comparing__1 : Room := { frames := 0, cells := 0, slots := 0, locals := 0 }
def b_X_X5_comparing__1_28  (t : fw_S)  : Option (Int32 × fw_S) := some ((12 : Int32), t)
def b_X_X5_comparing__1_31  (t : fw_S)  : Option (Int32 × fw_S) := some ((13 : Int32), t)
def b_X_X5_comparing__1_34  (t : fw_S)  : Option (Int32 × fw_S) := some ((14 : Int32), t)
def b_X_X5_comparing__1_37  (t : fw_S)  : Option (Int32 × fw_S) := some ((-1 : Int32), t)
def b_X_X5_comparing__1_0  (t : fw_S) (x1 : Int32) : Option (Int32 × fw_S) := if x1 = 60 then b_X_X5_comparing__1_28 t else if x1 = 61 then b_X_X5_comparing__1_31 t else if x1 = 62 then b_X_X5_comparing__1_34 t else b_X_X5_comparing__1_37 t
def f_X_X5_comparing__1 (t : fw_S) (x1 : Int32) : Option (Int32 × fw_S) := b_X_X5_comparing__1_0 t x1
set_option maxRecDepth 20000 in
theorem w_X_X5_comparing__1_28 {p : Program} {l : Launch} {e : Env} {s : State} {m : MethodId} {args : Array Value} {below : List Frame} {meth : Method} {c : Code} {A : Nat → Prop} {Q : State → Prop} {D : va_G} {ca : Nat → ClassId} {a : Nat → Nat} {u : fw_S} {r : Int32}  (C : CX (WX ca a) D (tyv ca) p s m args c A prog_7_method_15_code 2 RX5) (hr : True → RX (WX ca a) D p l e rm_X_X5_comparing__1 s m args below meth c A prog_7_method_15_code Q .ireturn [.int r] u) {t : fw_S}  {H : Heap} {locs : List Loc} {ls : Array Slot} (hf : b_X_X5_comparing__1_28  t  = some (r, u)) (hP : va_P D classes (WX ca a t) H) (hS : va_S A s.heap H locs) (hl : lv_has ls 2 []) : W p l e rm_X_X5_comparing__1 s m args below meth c H locs 0 0 Q (F0 m 28 ls []) := by
  obtain ⟨hx, hb, hml, hown, hts, hN, hK, hD, hA⟩ := id C
  have hf : (some ((12 : Int32), t)) = some (r, u) := hf
  refine lv_bipush (v := 12) hx hb dX5_comparing_28 (by decide) ?_
  obtain ⟨e_30, e2_30⟩ := fb_e hf
  subst e_30; subst e2_30
  exact hr trivial _ _ _ _ hP hS dX5_comparing_30
set_option maxRecDepth 20000 in
theorem w_X_X5_comparing__1_31 {p : Program} {l : Launch} {e : Env} {s : State} {m : MethodId} {args : Array Value} {below : List Frame} {meth : Method} {c : Code} {A : Nat → Prop} {Q : State → Prop} {D : va_G} {ca : Nat → ClassId} {a : Nat → Nat} {u : fw_S} {r : Int32}  (C : CX (WX ca a) D (tyv ca) p s m args c A prog_7_method_15_code 2 RX5) (hr : True → RX (WX ca a) D p l e rm_X_X5_comparing__1 s m args below meth c A prog_7_method_15_code Q .ireturn [.int r] u) {t : fw_S}  {H : Heap} {locs : List Loc} {ls : Array Slot} (hf : b_X_X5_comparing__1_31  t  = some (r, u)) (hP : va_P D classes (WX ca a t) H) (hS : va_S A s.heap H locs) (hl : lv_has ls 2 []) : W p l e rm_X_X5_comparing__1 s m args below meth c H locs 0 0 Q (F0 m 31 ls []) := by
  obtain ⟨hx, hb, hml, hown, hts, hN, hK, hD, hA⟩ := id C
  have hf : (some ((13 : Int32), t)) = some (r, u) := hf
  refine lv_bipush (v := 13) hx hb dX5_comparing_31 (by decide) ?_
  obtain ⟨e_33, e2_33⟩ := fb_e hf
  subst e_33; subst e2_33
  exact hr trivial _ _ _ _ hP hS dX5_comparing_33
set_option maxRecDepth 20000 in
theorem w_X_X5_comparing__1_34 {p : Program} {l : Launch} {e : Env} {s : State} {m : MethodId} {args : Array Value} {below : List Frame} {meth : Method} {c : Code} {A : Nat → Prop} {Q : State → Prop} {D : va_G} {ca : Nat → ClassId} {a : Nat → Nat} {u : fw_S} {r : Int32}  (C : CX (WX ca a) D (tyv ca) p s m args c A prog_7_method_15_code 2 RX5) (hr : True → RX (WX ca a) D p l e rm_X_X5_comparing__1 s m args below meth c A prog_7_method_15_code Q .ireturn [.int r] u) {t : fw_S}  {H : Heap} {locs : List Loc} {ls : Array Slot} (hf : b_X_X5_comparing__1_34  t  = some (r, u)) (hP : va_P D classes (WX ca a t) H) (hS : va_S A s.heap H locs) (hl : lv_has ls 2 []) : W p l e rm_X_X5_comparing__1 s m args below meth c H locs 0 0 Q (F0 m 34 ls []) := by
  obtain ⟨hx, hb, hml, hown, hts, hN, hK, hD, hA⟩ := id C
  have hf : (some ((14 : Int32), t)) = some (r, u) := hf
  refine lv_bipush (v := 14) hx hb dX5_comparing_34 (by decide) ?_
  obtain ⟨e_36, e2_36⟩ := fb_e hf
  subst e_36; subst e2_36
  exact hr trivial _ _ _ _ hP hS dX5_comparing_36
set_option maxRecDepth 20000 in
theorem w_X_X5_comparing__1_37 {p : Program} {l : Launch} {e : Env} {s : State} {m : MethodId} {args : Array Value} {below : List Frame} {meth : Method} {c : Code} {A : Nat → Prop} {Q : State → Prop} {D : va_G} {ca : Nat → ClassId} {a : Nat → Nat} {u : fw_S} {r : Int32}  (C : CX (WX ca a) D (tyv ca) p s m args c A prog_7_method_15_code 2 RX5) (hr : True → RX (WX ca a) D p l e rm_X_X5_comparing__1 s m args below meth c A prog_7_method_15_code Q .ireturn [.int r] u) {t : fw_S}  {H : Heap} {locs : List Loc} {ls : Array Slot} (hf : b_X_X5_comparing__1_37  t  = some (r, u)) (hP : va_P D classes (WX ca a t) H) (hS : va_S A s.heap H locs) (hl : lv_has ls 2 []) : W p l e rm_X_X5_comparing__1 s m args below meth c H locs 0 0 Q (F0 m 37 ls []) := by
  obtain ⟨hx, hb, hml, hown, hts, hN, hK, hD, hA⟩ := id C
  have hf : (some ((-1 : Int32), t)) = some (r, u) := hf
  refine lv_iconst (v := (-1)) hx hb dX5_comparing_37 (by decide) ?_
  obtain ⟨e_38, e2_38⟩ := fb_e hf
  subst e_38; subst e2_38
  exact hr trivial _ _ _ _ hP hS dX5_comparing_38
set_option maxRecDepth 20000 in
theorem w_X_X5_comparing__1_0 {p : Program} {l : Launch} {e : Env} {s : State} {m : MethodId} {args : Array Value} {below : List Frame} {meth : Method} {c : Code} {A : Nat → Prop} {Q : State → Prop} {D : va_G} {ca : Nat → ClassId} {a : Nat → Nat} {u : fw_S} {r : Int32}  (C : CX (WX ca a) D (tyv ca) p s m args c A prog_7_method_15_code 2 RX5) (hr : True → RX (WX ca a) D p l e rm_X_X5_comparing__1 s m args below meth c A prog_7_method_15_code Q .ireturn [.int r] u) {t : fw_S} {x1 : Int32} {H : Heap} {locs : List Loc} {ls : Array Slot} (hf : b_X_X5_comparing__1_0  t x1 = some (r, u)) (hP : va_P D classes (WX ca a t) H) (hS : va_S A s.heap H locs) (hl : lv_has ls 2 [(1, .int x1)]) : W p l e rm_X_X5_comparing__1 s m args below meth c H locs 0 0 Q (F0 m 0 ls []) := by
  obtain ⟨hx, hb, hml, hown, hts, hN, hK, hD, hA⟩ := id C
  have hf : (if x1 = 60 then b_X_X5_comparing__1_28 t else if x1 = 61 then b_X_X5_comparing__1_31 t else if x1 = 62 then b_X_X5_comparing__1_34 t else b_X_X5_comparing__1_37 t) = some (r, u) := hf
  refine lv_iload_n hx hb dX5_comparing_0 rfl (lv_at hl 0 rfl) ?_
  by_cases h_1_0 : x1 = 60
  · have hf := fb_t h_1_0 hf
    refine lv_tableIn (tgt := 28) hx hb dX5_comparing_1 (by rw [h_1_0]; decide) (by rw [h_1_0]; decide) (by rw [h_1_0]; rfl) (by decide) ?_
    exact w_X_X5_comparing__1_28 C hr hf hP hS (lv_sub hl [] rfl)
  have hf := fb_f h_1_0 hf
  by_cases h_1_1 : x1 = 61
  · have hf := fb_t h_1_1 hf
    refine lv_tableIn (tgt := 31) hx hb dX5_comparing_1 (by rw [h_1_1]; decide) (by rw [h_1_1]; decide) (by rw [h_1_1]; rfl) (by decide) ?_
    exact w_X_X5_comparing__1_31 C hr hf hP hS (lv_sub hl [] rfl)
  have hf := fb_f h_1_1 hf
  by_cases h_1_2 : x1 = 62
  · have hf := fb_t h_1_2 hf
    refine lv_tableIn (tgt := 34) hx hb dX5_comparing_1 (by rw [h_1_2]; decide) (by rw [h_1_2]; decide) (by rw [h_1_2]; rfl) (by decide) ?_
    exact w_X_X5_comparing__1_34 C hr hf hP hS (lv_sub hl [] rfl)
  have hf := fb_f h_1_2 hf
  refine lv_tableOut (tgt := 37) hx hb dX5_comparing_1 (by have q0 := lv_neT h_1_0 (a := 60) (by decide); have q1 := lv_neT h_1_1 (a := 61) (by decide); have q2 := lv_neT h_1_2 (a := 62) (by decide); omega) (by decide) ?_
  exact w_X_X5_comparing__1_37 C hr hf hP hS (lv_sub hl [] rfl)
set_option maxRecDepth 20000 in
theorem c_X_X5_comparing__1 {l : Launch} {D : va_G} {ca : Nat → ClassId} {a : Nat → Nat} {t : fw_S} {x1 : Int32} {u : fw_S} {r : Int32} (hf : f_X_X5_comparing__1 t x1 = some (r, u)) : MC (WX ca a) D (tyv ca) l yX5_comparing (.code yX5_comparing prog_7_method_15_code 2 (some .int) :: lw_gd) rm_X_X5_comparing__1 [.ref (a 1), .int x1] (some (.int r)) t u := by
  refine fw_met (okX ca a) (by decide +kernel) rfl rfl (Nat.le_of_ble_eq_true rfl) ?_
  intro p e s m args below meth c A Q ls C hr hk hP hS hl hQ
  exact w_X_X5_comparing__1_0 C (fun _ => fw_ri C hr hk hQ) hf hP hS (lv_sub hl [1] rfl)
/-! ReactiveSheet.Parser.comparison(I)I ['x.parser'] -/
abbrev rm_X_X5_comparison__1 : Room := { frames := 7, cells := 0, slots := 0, locals := 157 }
def b_X_X5_comparison__1_21  (t : fw_S) (x1 : Int32) (x2 : Int32) (x3 : Int32) : Option (Int32 × fw_S) := fb_l (up_I t 3 ((st_I t 3) + ((1 : Int32)))) fun t_1 => (fb_b (f_X_X5_sum__1 t_1 x1) fun v_3 t_2 => (fb_b (f_X_X5_node__1 t_2 x3 x2 v_3 ((0 : Int32))) fun v_5 t_4 => (some (v_5, t_4))))
def b_X_X5_comparison__1_19  (t : fw_S) (x2 : Int32) : Option (Int32 × fw_S) := some (x2, t)
def b_X_X5_comparison__1_0  (t : fw_S) (x1 : Int32) : Option (Int32 × fw_S) := fb_b (f_X_X5_sum__1 t x1) fun v_2 t_1 => (fb_b (f_X_X5_here__1 t_1) fun v_4 t_3 => (fb_b (f_X_X5_comparing__1 t_3 v_4) fun v_6 t_5 => (if 0 ≤ v_6 then b_X_X5_comparison__1_21 t_5 x1 v_2 v_6 else b_X_X5_comparison__1_19 t_5 v_2)))
def f_X_X5_comparison__1 (t : fw_S) (x1 : Int32) : Option (Int32 × fw_S) := b_X_X5_comparison__1_0 t x1
set_option maxRecDepth 20000 in
theorem w_X_X5_comparison__1_21 {p : Program} {l : Launch} {e : Env} {s : State} {m : MethodId} {args : Array Value} {below : List Frame} {meth : Method} {c : Code} {A : Nat → Prop} {Q : State → Prop} {D : va_G} {ca : Nat → ClassId} {a : Nat → Nat} {u : fw_S} {r : Int32}  (C : CX (WX ca a) D (tyv ca) p s m args c A prog_7_method_14_code 4 RX5) (hr : True → RX (WX ca a) D p l e rm_X_X5_comparison__1 s m args below meth c A prog_7_method_14_code Q .ireturn [.int r] u) {t : fw_S} {x1 : Int32} {x2 : Int32} {x3 : Int32} {H : Heap} {locs : List Loc} {ls : Array Slot} (hf : b_X_X5_comparison__1_21  t x1 x2 x3 = some (r, u)) (hP : va_P D classes (WX ca a t) H) (hS : va_S A s.heap H locs) (hl : lv_has ls 4 [(0, .ref (a 1)), (1, .int x1), (2, .int x2), (3, .int x3)]) : W p l e rm_X_X5_comparison__1 s m args below meth c H locs 0 0 Q (F0 m 21 ls []) := by
  obtain ⟨hx, hb, hml, hown, hts, hN, hK, hD, hA⟩ := id C
  have hf : (fb_l (up_I t 3 ((st_I t 3) + ((1 : Int32)))) fun t_1 => (fb_b (f_X_X5_sum__1 t_1 x1) fun v_3 t_2 => (fb_b (f_X_X5_node__1 t_2 x3 x2 v_3 ((0 : Int32))) fun v_5 t_4 => (some (v_5, t_4))))) = some (r, u) := hf
  refine lv_aload_n hx hb dX5_comparison_21 rfl (lv_at hl 0 rfl) ?_
  refine lv_dup hx hb dX5_comparison_22 rfl ?_
  refine va_get (D := D) (ci := 5) (v := .int (st_I t 3)) (C := RX5) (T := TX5) (N := 10) hx hb hts inX5 hown hK hP 1 (heX_1 ca a t) rfl 7 (by decide) (hts _ kw_129) (fun _ h9 => h9) rfl dX5_comparison_23 ?_
  refine lv_iconst (v := 1) hx hb dX5_comparison_26 (by decide) ?_
  refine lv_iadd hx hb dX5_comparison_27 ?_
  refine va_put (D := D) (ci := 5) (v := .int ((st_I t 3) + ((1 : Int32)))) (ty := .int) (C := RX5) (T := TX5) (N := 10) hx hb hts inX5 tyX5 tyX5_ok nmX5 hown hK hP (hD t) hS 1 (heX_1 ca a t) rfl 7 (by decide) (hts _ kw_129) (fun _ h9 => h9) rfl (by decide +kernel) rfl rfl (Nat.le_of_ble_eq_true rfl) dX5_comparison_28 (fun H locs hP _ hS => ?_)
  rw [suX_1_7] at hP
  obtain ⟨t_1, e_28, hf⟩ := fb_ls hf
  rw [← e_28] at hP
  refine lv_aload_n hx hb dX5_comparison_31 rfl (lv_at hl 0 rfl) ?_
  refine lv_iload_n hx hb dX5_comparison_32 rfl (lv_at hl 3 rfl) ?_
  refine lv_iload_n hx hb dX5_comparison_33 rfl (lv_at hl 2 rfl) ?_
  refine lv_aload_n hx hb dX5_comparison_34 rfl (lv_at hl 0 rfl) ?_
  refine lv_iload_n hx hb dX5_comparison_35 rfl (lv_at hl 1 rfl) ?_
  obtain ⟨v_3, t_2, g_36, hf⟩ := fb_bs hf
  refine fw_V1 (As := [.int x1]) (rest := [.int x2, .int x3, .ref (a 1)]) (n := 1) (q0 := 1) C (c_X_X5_sum__1 (l := l) (D := D) (ca := ca) (a := a) g_36) kw_689 kw_691 kw_93 kw_692 kw_20 hP hS hl (heX_1 ca a t_1) rfl rfl rfl (by decide) (by decide +kernel) ⟨Nat.le_of_ble_eq_true rfl, Nat.le_of_ble_eq_true rfl⟩ rfl rfl (Nat.le_of_ble_eq_true rfl) dX5_comparison_36 (fun H locs hP hS => ?_)
  refine W.eq (g2 := F0 m 39 ls [.int v_3, .int x2, .int x3, .ref (a 1)]) rfl ?_
  refine lv_iconst (v := 0) hx hb dX5_comparison_39 (by decide) ?_
  obtain ⟨v_5, t_4, g_40, hf⟩ := fb_bs hf
  refine fw_V1 (As := [.int x3, .int x2, .int v_3, .int ((0 : Int32))]) (rest := []) (n := 4) (q0 := 1) C (c_X_X5_node__1 (l := l) (D := D) (ca := ca) (a := a) g_40) kw_716 kw_718 kw_93 kw_719 kw_26 hP hS hl (heX_1 ca a t_2) rfl rfl rfl (by decide) (by decide +kernel) ⟨Nat.le_of_ble_eq_true rfl, Nat.le_of_ble_eq_true rfl⟩ rfl rfl (Nat.le_of_ble_eq_true rfl) dX5_comparison_40 (fun H locs hP hS => ?_)
  refine W.eq (g2 := F0 m 43 ls [.int v_5]) rfl ?_
  obtain ⟨e_43, e2_43⟩ := fb_e hf
  subst e_43; subst e2_43
  exact hr trivial _ _ _ _ hP hS dX5_comparison_43
set_option maxRecDepth 20000 in
theorem w_X_X5_comparison__1_19 {p : Program} {l : Launch} {e : Env} {s : State} {m : MethodId} {args : Array Value} {below : List Frame} {meth : Method} {c : Code} {A : Nat → Prop} {Q : State → Prop} {D : va_G} {ca : Nat → ClassId} {a : Nat → Nat} {u : fw_S} {r : Int32}  (C : CX (WX ca a) D (tyv ca) p s m args c A prog_7_method_14_code 4 RX5) (hr : True → RX (WX ca a) D p l e rm_X_X5_comparison__1 s m args below meth c A prog_7_method_14_code Q .ireturn [.int r] u) {t : fw_S} {x2 : Int32} {H : Heap} {locs : List Loc} {ls : Array Slot} (hf : b_X_X5_comparison__1_19  t x2 = some (r, u)) (hP : va_P D classes (WX ca a t) H) (hS : va_S A s.heap H locs) (hl : lv_has ls 4 [(2, .int x2)]) : W p l e rm_X_X5_comparison__1 s m args below meth c H locs 0 0 Q (F0 m 19 ls []) := by
  obtain ⟨hx, hb, hml, hown, hts, hN, hK, hD, hA⟩ := id C
  have hf : (some (x2, t)) = some (r, u) := hf
  refine lv_iload_n hx hb dX5_comparison_19 rfl (lv_at hl 0 rfl) ?_
  obtain ⟨e_20, e2_20⟩ := fb_e hf
  subst e_20; subst e2_20
  exact hr trivial _ _ _ _ hP hS dX5_comparison_20
set_option maxRecDepth 20000 in
theorem w_X_X5_comparison__1_0 {p : Program} {l : Launch} {e : Env} {s : State} {m : MethodId} {args : Array Value} {below : List Frame} {meth : Method} {c : Code} {A : Nat → Prop} {Q : State → Prop} {D : va_G} {ca : Nat → ClassId} {a : Nat → Nat} {u : fw_S} {r : Int32}  (C : CX (WX ca a) D (tyv ca) p s m args c A prog_7_method_14_code 4 RX5) (hr : True → RX (WX ca a) D p l e rm_X_X5_comparison__1 s m args below meth c A prog_7_method_14_code Q .ireturn [.int r] u) {t : fw_S} {x1 : Int32} {H : Heap} {locs : List Loc} {ls : Array Slot} (hf : b_X_X5_comparison__1_0  t x1 = some (r, u)) (hP : va_P D classes (WX ca a t) H) (hS : va_S A s.heap H locs) (hl : lv_has ls 4 [(0, .ref (a 1)), (1, .int x1)]) : W p l e rm_X_X5_comparison__1 s m args below meth c H locs 0 0 Q (F0 m 0 ls []) := by
  obtain ⟨hx, hb, hml, hown, hts, hN, hK, hD, hA⟩ := id C
  have hf : (fb_b (f_X_X5_sum__1 t x1) fun v_2 t_1 => (fb_b (f_X_X5_here__1 t_1) fun v_4 t_3 => (fb_b (f_X_X5_comparing__1 t_3 v_4) fun v_6 t_5 => (if 0 ≤ v_6 then b_X_X5_comparison__1_21 t_5 x1 v_2 v_6 else b_X_X5_comparison__1_19 t_5 v_2)))) = some (r, u) := hf
  refine lv_aload_n hx hb dX5_comparison_0 rfl (lv_at hl 0 rfl) ?_
  refine lv_iload_n hx hb dX5_comparison_1 rfl (lv_at hl 1 rfl) ?_
  obtain ⟨v_2, t_1, g_2, hf⟩ := fb_bs hf
  refine fw_V1 (As := [.int x1]) (rest := []) (n := 1) (q0 := 1) C (c_X_X5_sum__1 (l := l) (D := D) (ca := ca) (a := a) g_2) kw_689 kw_691 kw_93 kw_692 kw_20 hP hS hl (heX_1 ca a t) rfl rfl rfl (by decide) (by decide +kernel) ⟨Nat.le_of_ble_eq_true rfl, Nat.le_of_ble_eq_true rfl⟩ rfl rfl (Nat.le_of_ble_eq_true rfl) dX5_comparison_2 (fun H locs hP hS => ?_)
  refine W.eq (g2 := F0 m 5 ls [.int v_2]) rfl ?_
  refine lv_istore_n (lv' := [(2, .int v_2), (0, .ref (a 1)), (1, .int x1)]) hx hb dX5_comparison_5 rfl hl (by decide) rfl (fun ls hl => ?_)
  refine lv_aload_n hx hb dX5_comparison_6 rfl (lv_at hl 1 rfl) ?_
  refine lv_aload_n hx hb dX5_comparison_7 rfl (lv_at hl 1 rfl) ?_
  obtain ⟨v_4, t_3, g_8, hf⟩ := fb_bs hf
  refine fw_V1 (As := []) (rest := [.ref (a 1)]) (n := 0) (q0 := 1) C (c_X_X5_here__1 (l := l) (D := D) (ca := ca) (a := a) g_8) kw_701 kw_703 kw_93 kw_704 kw_23 hP hS hl (heX_1 ca a t_1) rfl rfl rfl (by decide) (by decide +kernel) ⟨Nat.le_of_ble_eq_true rfl, Nat.le_of_ble_eq_true rfl⟩ rfl rfl (Nat.le_of_ble_eq_true rfl) dX5_comparison_8 (fun H locs hP hS => ?_)
  refine W.eq (g2 := F0 m 11 ls [.int v_4, .ref (a 1)]) rfl ?_
  obtain ⟨v_6, t_5, g_11, hf⟩ := fb_bs hf
  refine fw_V1 (As := [.int v_4]) (rest := []) (n := 1) (q0 := 1) C (c_X_X5_comparing__1 (l := l) (D := D) (ca := ca) (a := a) g_11) kw_741 kw_743 kw_93 kw_744 kw_32 hP hS hl (heX_1 ca a t_3) rfl rfl rfl (by decide) (by decide +kernel) ⟨Nat.le_of_ble_eq_true rfl, Nat.le_of_ble_eq_true rfl⟩ rfl rfl (Nat.le_of_ble_eq_true rfl) dX5_comparison_11 (fun H locs hP hS => ?_)
  refine W.eq (g2 := F0 m 14 ls [.int v_6]) rfl ?_
  refine lv_istore_n (lv' := [(3, .int v_6), (2, .int v_2), (0, .ref (a 1)), (1, .int x1)]) hx hb dX5_comparison_14 rfl hl (by decide) rfl (fun ls hl => ?_)
  refine lv_iload_n hx hb dX5_comparison_15 rfl (lv_at hl 0 rfl) ?_
  refine lv_if_ge (tgt := 21) hx hb dX5_comparison_16 (by decide) (fun h_16 => ?_) (fun h_16 => ?_)
  · have hf := fb_t h_16 hf
    exact w_X_X5_comparison__1_21 C hr hf hP hS (lv_sub hl [2, 3, 1, 0] rfl)
  · have hf := fb_f h_16 hf
    exact w_X_X5_comparison__1_19 C hr hf hP hS (lv_sub hl [1] rfl)
set_option maxRecDepth 20000 in
theorem c_X_X5_comparison__1 {l : Launch} {D : va_G} {ca : Nat → ClassId} {a : Nat → Nat} {t : fw_S} {x1 : Int32} {u : fw_S} {r : Int32} (hf : f_X_X5_comparison__1 t x1 = some (r, u)) : MC (WX ca a) D (tyv ca) l yX5_comparison (.code yX5_comparison prog_7_method_14_code 4 (some .int) :: lw_gd) rm_X_X5_comparison__1 [.ref (a 1), .int x1] (some (.int r)) t u := by
  refine fw_met (okX ca a) (by decide +kernel) rfl rfl (Nat.le_of_ble_eq_true rfl) ?_
  intro p e s m args below meth c A Q ls C hr hk hP hS hl hQ
  exact w_X_X5_comparison__1_0 C (fun _ => fw_ri C hr hk hQ) hf hP hS (lv_sub hl [0, 1] rfl)
/-! ReactiveSheet.Parser.choice(II)I ['x.parser'] -/
abbrev rm_X_X5_choice__1 : Room := { frames := 8, cells := 0, slots := 0, locals := 180 }
def b_X_X5_choice__1_21  (t : fw_S) (x3 : Int32) : Option (Int32 × fw_S) := some (x3, t)
def b_X_X5_choice__1_23  (t : fw_S) (x1 : Int32) (x2 : Int32) (x3 : Int32) : Option (Int32 × fw_S) := fb_b (f_X_X5_node__1 t ((16 : Int32)) x3 ((0 : Int32)) ((0 : Int32))) fun v_2 t_1 => (fb_b (f_X_X5_comparison__1 t_1 x1) fun v_4 t_3 => (fb_v (f_X_X5_expect__1 t_3 ((58 : Int32))) fun t_5 => (fb_b (f_X_X5_node__1 t_5 ((17 : Int32)) ((0 : Int32)) ((0 : Int32)) ((0 : Int32))) fun v_7 t_6 => (none))))
def b_X_X5_choice__1_12  (t : fw_S) (x1 : Int32) (x2 : Int32) (x3 : Int32) : Option (Int32 × fw_S) := fb_b (f_X_X5_skip__1 t ((63 : Int32))) fun v_2 t_1 => (if v_2 = 0 then b_X_X5_choice__1_21 t_1 x3 else b_X_X5_choice__1_23 t_1 x1 x2 x3)
def b_X_X5_choice__1_0  (t : fw_S) (x1 : Int32) (x2 : Int32) : Option (Int32 × fw_S) := fb_b (f_X_X5_comparison__1 t x1) fun v_2 t_1 => (if ((120 : Int32)) ≤ x2 then b_X_X5_choice__1_21 t_1 v_2 else b_X_X5_choice__1_12 t_1 x1 x2 v_2)
def f_X_X5_choice__1 (t : fw_S) (x1 : Int32) (x2 : Int32) : Option (Int32 × fw_S) := b_X_X5_choice__1_0 t x1 x2
set_option maxRecDepth 20000 in
theorem w_X_X5_choice__1_21 {p : Program} {l : Launch} {e : Env} {s : State} {m : MethodId} {args : Array Value} {below : List Frame} {meth : Method} {c : Code} {A : Nat → Prop} {Q : State → Prop} {D : va_G} {ca : Nat → ClassId} {a : Nat → Nat} {u : fw_S} {r : Int32}  (C : CX (WX ca a) D (tyv ca) p s m args c A prog_7_method_12_code 9 RX5) (hr : True → RX (WX ca a) D p l e rm_X_X5_choice__1 s m args below meth c A prog_7_method_12_code Q .ireturn [.int r] u) {t : fw_S} {x3 : Int32} {H : Heap} {locs : List Loc} {ls : Array Slot} (hf : b_X_X5_choice__1_21  t x3 = some (r, u)) (hP : va_P D classes (WX ca a t) H) (hS : va_S A s.heap H locs) (hl : lv_has ls 9 [(3, .int x3)]) : W p l e rm_X_X5_choice__1 s m args below meth c H locs 0 0 Q (F0 m 21 ls []) := by
  obtain ⟨hx, hb, hml, hown, hts, hN, hK, hD, hA⟩ := id C
  have hf : (some (x3, t)) = some (r, u) := hf
  refine lv_iload_n hx hb dX5_choice_21 rfl (lv_at hl 0 rfl) ?_
  obtain ⟨e_22, e2_22⟩ := fb_e hf
  subst e_22; subst e2_22
  exact hr trivial _ _ _ _ hP hS dX5_choice_22
set_option maxRecDepth 20000 in
theorem w_X_X5_choice__1_23 {p : Program} {l : Launch} {e : Env} {s : State} {m : MethodId} {args : Array Value} {below : List Frame} {meth : Method} {c : Code} {A : Nat → Prop} {Q : State → Prop} {D : va_G} {ca : Nat → ClassId} {a : Nat → Nat} {u : fw_S} {r : Int32}  (C : CX (WX ca a) D (tyv ca) p s m args c A prog_7_method_12_code 9 RX5) (hr : True → RX (WX ca a) D p l e rm_X_X5_choice__1 s m args below meth c A prog_7_method_12_code Q .ireturn [.int r] u) {t : fw_S} {x1 : Int32} {x2 : Int32} {x3 : Int32} {H : Heap} {locs : List Loc} {ls : Array Slot} (hf : b_X_X5_choice__1_23  t x1 x2 x3 = some (r, u)) (hP : va_P D classes (WX ca a t) H) (hS : va_S A s.heap H locs) (hl : lv_has ls 9 [(0, .ref (a 1)), (1, .int x1), (2, .int x2), (3, .int x3)]) : W p l e rm_X_X5_choice__1 s m args below meth c H locs 0 0 Q (F0 m 23 ls []) := by
  obtain ⟨hx, hb, hml, hown, hts, hN, hK, hD, hA⟩ := id C
  have hf : (fb_b (f_X_X5_node__1 t ((16 : Int32)) x3 ((0 : Int32)) ((0 : Int32))) fun v_2 t_1 => (fb_b (f_X_X5_comparison__1 t_1 x1) fun v_4 t_3 => (fb_v (f_X_X5_expect__1 t_3 ((58 : Int32))) fun t_5 => (fb_b (f_X_X5_node__1 t_5 ((17 : Int32)) ((0 : Int32)) ((0 : Int32)) ((0 : Int32))) fun v_7 t_6 => (none))))) = some (r, u) := hf
  refine lv_aload_n hx hb dX5_choice_23 rfl (lv_at hl 0 rfl) ?_
  refine lv_bipush (v := 16) hx hb dX5_choice_24 (by decide) ?_
  refine lv_iload_n hx hb dX5_choice_26 rfl (lv_at hl 3 rfl) ?_
  refine lv_iconst (v := 0) hx hb dX5_choice_27 (by decide) ?_
  refine lv_iconst (v := 0) hx hb dX5_choice_28 (by decide) ?_
  obtain ⟨v_2, t_1, g_29, hf⟩ := fb_bs hf
  refine fw_V1 (As := [.int ((16 : Int32)), .int x3, .int ((0 : Int32)), .int ((0 : Int32))]) (rest := []) (n := 4) (q0 := 1) C (c_X_X5_node__1 (l := l) (D := D) (ca := ca) (a := a) g_29) kw_716 kw_718 kw_93 kw_719 kw_26 hP hS hl (heX_1 ca a t) rfl rfl rfl (by decide) (by decide +kernel) ⟨Nat.le_of_ble_eq_true rfl, Nat.le_of_ble_eq_true rfl⟩ rfl rfl (Nat.le_of_ble_eq_true rfl) dX5_choice_29 (fun H locs hP hS => ?_)
  refine W.eq (g2 := F0 m 32 ls [.int v_2]) rfl ?_
  refine lv_istore (lv' := [(4, .int v_2), (0, .ref (a 1)), (1, .int x1), (2, .int x2), (3, .int x3)]) hx hb dX5_choice_32 hl (by decide) rfl (fun ls hl => ?_)
  refine lv_aload_n hx hb dX5_choice_34 rfl (lv_at hl 1 rfl) ?_
  refine lv_iload_n hx hb dX5_choice_35 rfl (lv_at hl 2 rfl) ?_
  obtain ⟨v_4, t_3, g_36, hf⟩ := fb_bs hf
  refine fw_V1 (As := [.int x1]) (rest := []) (n := 1) (q0 := 1) C (c_X_X5_comparison__1 (l := l) (D := D) (ca := ca) (a := a) g_36) kw_685 kw_687 kw_93 kw_688 kw_19 hP hS hl (heX_1 ca a t_1) rfl rfl rfl (by decide) (by decide +kernel) ⟨Nat.le_of_ble_eq_true rfl, Nat.le_of_ble_eq_true rfl⟩ rfl rfl (Nat.le_of_ble_eq_true rfl) dX5_choice_36 (fun H locs hP hS => ?_)
  refine W.eq (g2 := F0 m 39 ls [.int v_4]) rfl ?_
  refine lv_istore (lv' := [(5, .int v_4), (4, .int v_2), (0, .ref (a 1)), (1, .int x1), (2, .int x2), (3, .int x3)]) hx hb dX5_choice_39 hl (by decide) rfl (fun ls hl => ?_)
  refine lv_aload_n hx hb dX5_choice_41 rfl (lv_at hl 2 rfl) ?_
  refine lv_bipush (v := 58) hx hb dX5_choice_42 (by decide) ?_
  obtain ⟨t_5, g_44, hf⟩ := fb_vs hf
  refine fw_V1 (As := [.int ((58 : Int32))]) (rest := []) (n := 1) (q0 := 1) C (c_X_X5_expect__1 (l := l) (D := D) (ca := ca) (a := a) g_44) kw_729 kw_731 kw_93 kw_732 kw_29 hP hS hl (heX_1 ca a t_3) rfl rfl rfl (by decide) (by decide +kernel) ⟨Nat.le_of_ble_eq_true rfl, Nat.le_of_ble_eq_true rfl⟩ rfl rfl (Nat.le_of_ble_eq_true rfl) dX5_choice_44 (fun H locs hP hS => ?_)
  refine W.eq (g2 := F0 m 47 ls []) rfl ?_
  refine lv_aload_n hx hb dX5_choice_47 rfl (lv_at hl 2 rfl) ?_
  refine lv_bipush (v := 17) hx hb dX5_choice_48 (by decide) ?_
  refine lv_iconst (v := 0) hx hb dX5_choice_50 (by decide) ?_
  refine lv_iconst (v := 0) hx hb dX5_choice_51 (by decide) ?_
  refine lv_iconst (v := 0) hx hb dX5_choice_52 (by decide) ?_
  obtain ⟨v_7, t_6, g_53, hf⟩ := fb_bs hf
  refine fw_V1 (As := [.int ((17 : Int32)), .int ((0 : Int32)), .int ((0 : Int32)), .int ((0 : Int32))]) (rest := []) (n := 4) (q0 := 1) C (c_X_X5_node__1 (l := l) (D := D) (ca := ca) (a := a) g_53) kw_716 kw_718 kw_93 kw_719 kw_26 hP hS hl (heX_1 ca a t_5) rfl rfl rfl (by decide) (by decide +kernel) ⟨Nat.le_of_ble_eq_true rfl, Nat.le_of_ble_eq_true rfl⟩ rfl rfl (Nat.le_of_ble_eq_true rfl) dX5_choice_53 (fun H locs hP hS => ?_)
  refine W.eq (g2 := F0 m 56 ls [.int v_7]) rfl ?_
  refine lv_istore (lv' := [(6, .int v_7), (5, .int v_4), (4, .int v_2), (0, .ref (a 1)), (1, .int x1), (2, .int x2), (3, .int x3)]) hx hb dX5_choice_56 hl (by decide) rfl (fun ls hl => ?_)
  refine lv_aload_n hx hb dX5_choice_58 rfl (lv_at hl 3 rfl) ?_
  refine lv_iload_n hx hb dX5_choice_59 rfl (lv_at hl 4 rfl) ?_
  refine lv_iload_n hx hb dX5_choice_60 rfl (lv_at hl 5 rfl) ?_
  refine lv_iconst (v := 1) hx hb dX5_choice_61 (by decide) ?_
  refine lv_iadd hx hb dX5_choice_62 ?_
  cases hf
set_option maxRecDepth 20000 in
theorem w_X_X5_choice__1_12 {p : Program} {l : Launch} {e : Env} {s : State} {m : MethodId} {args : Array Value} {below : List Frame} {meth : Method} {c : Code} {A : Nat → Prop} {Q : State → Prop} {D : va_G} {ca : Nat → ClassId} {a : Nat → Nat} {u : fw_S} {r : Int32}  (C : CX (WX ca a) D (tyv ca) p s m args c A prog_7_method_12_code 9 RX5) (hr : True → RX (WX ca a) D p l e rm_X_X5_choice__1 s m args below meth c A prog_7_method_12_code Q .ireturn [.int r] u) {t : fw_S} {x1 : Int32} {x2 : Int32} {x3 : Int32} {H : Heap} {locs : List Loc} {ls : Array Slot} (hf : b_X_X5_choice__1_12  t x1 x2 x3 = some (r, u)) (hP : va_P D classes (WX ca a t) H) (hS : va_S A s.heap H locs) (hl : lv_has ls 9 [(0, .ref (a 1)), (1, .int x1), (2, .int x2), (3, .int x3)]) : W p l e rm_X_X5_choice__1 s m args below meth c H locs 0 0 Q (F0 m 12 ls []) := by
  obtain ⟨hx, hb, hml, hown, hts, hN, hK, hD, hA⟩ := id C
  have hf : (fb_b (f_X_X5_skip__1 t ((63 : Int32))) fun v_2 t_1 => (if v_2 = 0 then b_X_X5_choice__1_21 t_1 x3 else b_X_X5_choice__1_23 t_1 x1 x2 x3)) = some (r, u) := hf
  refine lv_aload_n hx hb dX5_choice_12 rfl (lv_at hl 0 rfl) ?_
  refine lv_bipush (v := 63) hx hb dX5_choice_13 (by decide) ?_
  obtain ⟨v_2, t_1, g_15, hf⟩ := fb_bs hf
  refine fw_V1 (As := [.int ((63 : Int32))]) (rest := []) (n := 1) (q0 := 1) C (c_X_X5_skip__1 (l := l) (D := D) (ca := ca) (a := a) g_15) kw_720 kw_722 kw_93 kw_723 kw_27 hP hS hl (heX_1 ca a t) rfl rfl rfl (by decide) (by decide +kernel) ⟨Nat.le_of_ble_eq_true rfl, Nat.le_of_ble_eq_true rfl⟩ rfl rfl (Nat.le_of_ble_eq_true rfl) dX5_choice_15 (fun H locs hP hS => ?_)
  refine W.eq (g2 := F0 m 18 ls [.int v_2]) rfl ?_
  refine lv_if_ne (tgt := 23) hx hb dX5_choice_18 (by decide) (fun h_18 => ?_) (fun h_18 => ?_)
  · have hf := fb_f h_18 hf
    exact w_X_X5_choice__1_23 C hr hf hP hS (lv_sub hl [0, 1, 2, 3] rfl)
  · have hf := fb_t h_18 hf
    exact w_X_X5_choice__1_21 C hr hf hP hS (lv_sub hl [3] rfl)
set_option maxRecDepth 20000 in
theorem w_X_X5_choice__1_0 {p : Program} {l : Launch} {e : Env} {s : State} {m : MethodId} {args : Array Value} {below : List Frame} {meth : Method} {c : Code} {A : Nat → Prop} {Q : State → Prop} {D : va_G} {ca : Nat → ClassId} {a : Nat → Nat} {u : fw_S} {r : Int32}  (C : CX (WX ca a) D (tyv ca) p s m args c A prog_7_method_12_code 9 RX5) (hr : True → RX (WX ca a) D p l e rm_X_X5_choice__1 s m args below meth c A prog_7_method_12_code Q .ireturn [.int r] u) {t : fw_S} {x1 : Int32} {x2 : Int32} {H : Heap} {locs : List Loc} {ls : Array Slot} (hf : b_X_X5_choice__1_0  t x1 x2 = some (r, u)) (hP : va_P D classes (WX ca a t) H) (hS : va_S A s.heap H locs) (hl : lv_has ls 9 [(0, .ref (a 1)), (1, .int x1), (2, .int x2)]) : W p l e rm_X_X5_choice__1 s m args below meth c H locs 0 0 Q (F0 m 0 ls []) := by
  obtain ⟨hx, hb, hml, hown, hts, hN, hK, hD, hA⟩ := id C
  have hf : (fb_b (f_X_X5_comparison__1 t x1) fun v_2 t_1 => (if ((120 : Int32)) ≤ x2 then b_X_X5_choice__1_21 t_1 v_2 else b_X_X5_choice__1_12 t_1 x1 x2 v_2)) = some (r, u) := hf
  refine lv_aload_n hx hb dX5_choice_0 rfl (lv_at hl 0 rfl) ?_
  refine lv_iload_n hx hb dX5_choice_1 rfl (lv_at hl 1 rfl) ?_
  obtain ⟨v_2, t_1, g_2, hf⟩ := fb_bs hf
  refine fw_V1 (As := [.int x1]) (rest := []) (n := 1) (q0 := 1) C (c_X_X5_comparison__1 (l := l) (D := D) (ca := ca) (a := a) g_2) kw_685 kw_687 kw_93 kw_688 kw_19 hP hS hl (heX_1 ca a t) rfl rfl rfl (by decide) (by decide +kernel) ⟨Nat.le_of_ble_eq_true rfl, Nat.le_of_ble_eq_true rfl⟩ rfl rfl (Nat.le_of_ble_eq_true rfl) dX5_choice_2 (fun H locs hP hS => ?_)
  refine W.eq (g2 := F0 m 5 ls [.int v_2]) rfl ?_
  refine lv_istore_n (lv' := [(3, .int v_2), (0, .ref (a 1)), (1, .int x1), (2, .int x2)]) hx hb dX5_choice_5 rfl hl (by decide) rfl (fun ls hl => ?_)
  refine lv_iload_n hx hb dX5_choice_6 rfl (lv_at hl 3 rfl) ?_
  refine lv_bipush (v := 120) hx hb dX5_choice_7 (by decide) ?_
  refine lv_icmp_ge (tgt := 21) hx hb dX5_choice_9 (by decide) (fun h_9 => ?_) (fun h_9 => ?_)
  · have hf := fb_t h_9 hf
    exact w_X_X5_choice__1_21 C hr hf hP hS (lv_sub hl [0] rfl)
  · have hf := fb_f h_9 hf
    exact w_X_X5_choice__1_12 C hr hf hP hS (lv_sub hl [1, 2, 3, 0] rfl)
set_option maxRecDepth 20000 in
theorem c_X_X5_choice__1 {l : Launch} {D : va_G} {ca : Nat → ClassId} {a : Nat → Nat} {t : fw_S} {x1 : Int32} {x2 : Int32} {u : fw_S} {r : Int32} (hf : f_X_X5_choice__1 t x1 x2 = some (r, u)) : MC (WX ca a) D (tyv ca) l yX5_choice (.code yX5_choice prog_7_method_12_code 9 (some .int) :: lw_gd) rm_X_X5_choice__1 [.ref (a 1), .int x1, .int x2] (some (.int r)) t u := by
  refine fw_met (okX ca a) (by decide +kernel) rfl rfl (Nat.le_of_ble_eq_true rfl) ?_
  intro p e s m args below meth c A Q ls C hr hk hP hS hl hQ
  exact w_X_X5_choice__1_0 C (fun _ => fw_ri C hr hk hQ) hf hP hS (lv_sub hl [0, 1, 2] rfl)
/-! ReactiveSheet.Parser.take()LReactiveSheet.Formula; ['x.parser'] -/
abbrev rm_X_X5_take__1 : Room := { frames := 9, cells := 0, slots := 0, locals := 208 }
def b_X_X5_take__1_62  (t : fw_S)  : Option fw_S := some t
def b_X_X5_take__1_64  (t : fw_S) (x1 : Int32) : Option fw_S := none
def b_X_X5_take__1_54  (t : fw_S) (x1 : Int32) : Option fw_S := if ((1 : Int32)) ≤ (st_I t 5) then b_X_X5_take__1_64 t x1 else b_X_X5_take__1_62 t
def b_X_X5_take__1_42  (t : fw_S) (x1 : Int32) : Option fw_S := fb_l (up_I t 2 ((0 : Int32))) fun t_1 => (if 0 ≤ (st_I t_1 4) then b_X_X5_take__1_62 t_1 else b_X_X5_take__1_54 t_1 x1)
def b_X_X5_take__1_33  (t : fw_S) (x1 : Int32) : Option fw_S := fb_b (f_X_X5_fail__1 t (st_I t 3)) fun v_2 t_1 => (b_X_X5_take__1_42 t_1 x1)
def b_X_X5_take__1_0  (t : fw_S)  : Option fw_S := fb_l (up_I t 3 ((0 : Int32))) fun t_1 => (fb_l (up_I t_1 4 ((-1 : Int32))) fun t_2 => (fb_l (up_I t_2 5 ((0 : Int32))) fun t_3 => (fb_b (f_X_X5_choice__1 t_3 ((0 : Int32)) ((0 : Int32))) fun v_5 t_4 => (if (st_I t_4 2) ≤ (st_I t_4 3) then b_X_X5_take__1_42 t_4 v_5 else b_X_X5_take__1_33 t_4 v_5))))
def f_X_X5_take__1 (t : fw_S)  : Option fw_S := b_X_X5_take__1_0 t 
set_option maxRecDepth 20000 in
theorem w_X_X5_take__1_62 {p : Program} {l : Launch} {e : Env} {s : State} {m : MethodId} {args : Array Value} {below : List Frame} {meth : Method} {c : Code} {A : Nat → Prop} {Q : State → Prop} {D : va_G} {ca : Nat → ClassId} {a : Nat → Nat} {u : fw_S}  (C : CX (WX ca a) D (tyv ca) p s m args c A prog_7_method_6_code 2 RX5) (hr : True → RX (WX ca a) D p l e rm_X_X5_take__1 s m args below meth c A prog_7_method_6_code Q .areturn [.null] u) {t : fw_S}  {H : Heap} {locs : List Loc} {ls : Array Slot} (hf : b_X_X5_take__1_62  t  = some u) (hP : va_P D classes (WX ca a t) H) (hS : va_S A s.heap H locs) (hl : lv_has ls 2 []) : W p l e rm_X_X5_take__1 s m args below meth c H locs 0 0 Q (F0 m 62 ls []) := by
  obtain ⟨hx, hb, hml, hown, hts, hN, hK, hD, hA⟩ := id C
  have hf : (some t) = some u := hf
  refine lv_null hx hb dX5_take_62 ?_
  have e_63 := fb_ev hf
  subst e_63
  exact hr trivial _ _ _ _ hP hS dX5_take_63
set_option maxRecDepth 20000 in
theorem w_X_X5_take__1_64 {p : Program} {l : Launch} {e : Env} {s : State} {m : MethodId} {args : Array Value} {below : List Frame} {meth : Method} {c : Code} {A : Nat → Prop} {Q : State → Prop} {D : va_G} {ca : Nat → ClassId} {a : Nat → Nat} {u : fw_S}  (C : CX (WX ca a) D (tyv ca) p s m args c A prog_7_method_6_code 2 RX5) (hr : True → RX (WX ca a) D p l e rm_X_X5_take__1 s m args below meth c A prog_7_method_6_code Q .areturn [.null] u) {t : fw_S} {x1 : Int32} {H : Heap} {locs : List Loc} {ls : Array Slot} (hf : b_X_X5_take__1_64  t x1 = some u) (hP : va_P D classes (WX ca a t) H) (hS : va_S A s.heap H locs) (hl : lv_has ls 2 [(0, .ref (a 1)), (1, .int x1)]) : W p l e rm_X_X5_take__1 s m args below meth c H locs 0 0 Q (F0 m 64 ls []) := by
  obtain ⟨hx, hb, hml, hown, hts, hN, hK, hD, hA⟩ := id C
  have hf : (none) = some u := hf
  cases hf
set_option maxRecDepth 20000 in
theorem w_X_X5_take__1_54 {p : Program} {l : Launch} {e : Env} {s : State} {m : MethodId} {args : Array Value} {below : List Frame} {meth : Method} {c : Code} {A : Nat → Prop} {Q : State → Prop} {D : va_G} {ca : Nat → ClassId} {a : Nat → Nat} {u : fw_S}  (C : CX (WX ca a) D (tyv ca) p s m args c A prog_7_method_6_code 2 RX5) (hr : True → RX (WX ca a) D p l e rm_X_X5_take__1 s m args below meth c A prog_7_method_6_code Q .areturn [.null] u) {t : fw_S} {x1 : Int32} {H : Heap} {locs : List Loc} {ls : Array Slot} (hf : b_X_X5_take__1_54  t x1 = some u) (hP : va_P D classes (WX ca a t) H) (hS : va_S A s.heap H locs) (hl : lv_has ls 2 [(0, .ref (a 1)), (1, .int x1)]) : W p l e rm_X_X5_take__1 s m args below meth c H locs 0 0 Q (F0 m 54 ls []) := by
  obtain ⟨hx, hb, hml, hown, hts, hN, hK, hD, hA⟩ := id C
  have hf : (if ((1 : Int32)) ≤ (st_I t 5) then b_X_X5_take__1_64 t x1 else b_X_X5_take__1_62 t) = some u := hf
  refine lv_aload_n hx hb dX5_take_54 rfl (lv_at hl 0 rfl) ?_
  refine va_get (D := D) (ci := 5) (v := .int (st_I t 5)) (C := RX5) (T := TX5) (N := 10) hx hb hts inX5 hown hK hP 1 (heX_1 ca a t) rfl 9 (by decide) (hts _ kw_131) (fun _ h9 => h9) rfl dX5_take_55 ?_
  refine lv_iconst (v := 1) hx hb dX5_take_58 (by decide) ?_
  refine lv_icmp_ge (tgt := 64) hx hb dX5_take_59 (by decide) (fun h_59 => ?_) (fun h_59 => ?_)
  · have hf := fb_t h_59 hf
    exact w_X_X5_take__1_64 C hr hf hP hS (lv_sub hl [0, 1] rfl)
  · have hf := fb_f h_59 hf
    exact w_X_X5_take__1_62 C hr hf hP hS (lv_sub hl [] rfl)
set_option maxRecDepth 20000 in
theorem w_X_X5_take__1_42 {p : Program} {l : Launch} {e : Env} {s : State} {m : MethodId} {args : Array Value} {below : List Frame} {meth : Method} {c : Code} {A : Nat → Prop} {Q : State → Prop} {D : va_G} {ca : Nat → ClassId} {a : Nat → Nat} {u : fw_S}  (C : CX (WX ca a) D (tyv ca) p s m args c A prog_7_method_6_code 2 RX5) (hr : True → RX (WX ca a) D p l e rm_X_X5_take__1 s m args below meth c A prog_7_method_6_code Q .areturn [.null] u) {t : fw_S} {x1 : Int32} {H : Heap} {locs : List Loc} {ls : Array Slot} (hf : b_X_X5_take__1_42  t x1 = some u) (hP : va_P D classes (WX ca a t) H) (hS : va_S A s.heap H locs) (hl : lv_has ls 2 [(0, .ref (a 1)), (1, .int x1)]) : W p l e rm_X_X5_take__1 s m args below meth c H locs 0 0 Q (F0 m 42 ls []) := by
  obtain ⟨hx, hb, hml, hown, hts, hN, hK, hD, hA⟩ := id C
  have hf : (fb_l (up_I t 2 ((0 : Int32))) fun t_1 => (if 0 ≤ (st_I t_1 4) then b_X_X5_take__1_62 t_1 else b_X_X5_take__1_54 t_1 x1)) = some u := hf
  refine lv_aload_n hx hb dX5_take_42 rfl (lv_at hl 0 rfl) ?_
  refine lv_iconst (v := 0) hx hb dX5_take_43 (by decide) ?_
  refine va_put (D := D) (ci := 5) (v := .int ((0 : Int32))) (ty := .int) (C := RX5) (T := TX5) (N := 10) hx hb hts inX5 tyX5 tyX5_ok nmX5 hown hK hP (hD t) hS 1 (heX_1 ca a t) rfl 6 (by decide) (hts _ kw_128) (fun _ h9 => h9) rfl (by decide +kernel) rfl rfl (Nat.le_of_ble_eq_true rfl) dX5_take_44 (fun H locs hP _ hS => ?_)
  rw [suX_1_6] at hP
  obtain ⟨t_1, e_44, hf⟩ := fb_ls hf
  rw [← e_44] at hP
  refine lv_aload_n hx hb dX5_take_47 rfl (lv_at hl 0 rfl) ?_
  refine va_get (D := D) (ci := 5) (v := .int (st_I t_1 4)) (C := RX5) (T := TX5) (N := 10) hx hb hts inX5 hown hK hP 1 (heX_1 ca a t_1) rfl 8 (by decide) (hts _ kw_130) (fun _ h9 => h9) rfl dX5_take_48 ?_
  refine lv_if_ge (tgt := 62) hx hb dX5_take_51 (by decide) (fun h_51 => ?_) (fun h_51 => ?_)
  · have hf := fb_t h_51 hf
    exact w_X_X5_take__1_62 C hr hf hP hS (lv_sub hl [] rfl)
  · have hf := fb_f h_51 hf
    exact w_X_X5_take__1_54 C hr hf hP hS (lv_sub hl [0, 1] rfl)
set_option maxRecDepth 20000 in
theorem w_X_X5_take__1_33 {p : Program} {l : Launch} {e : Env} {s : State} {m : MethodId} {args : Array Value} {below : List Frame} {meth : Method} {c : Code} {A : Nat → Prop} {Q : State → Prop} {D : va_G} {ca : Nat → ClassId} {a : Nat → Nat} {u : fw_S}  (C : CX (WX ca a) D (tyv ca) p s m args c A prog_7_method_6_code 2 RX5) (hr : True → RX (WX ca a) D p l e rm_X_X5_take__1 s m args below meth c A prog_7_method_6_code Q .areturn [.null] u) {t : fw_S} {x1 : Int32} {H : Heap} {locs : List Loc} {ls : Array Slot} (hf : b_X_X5_take__1_33  t x1 = some u) (hP : va_P D classes (WX ca a t) H) (hS : va_S A s.heap H locs) (hl : lv_has ls 2 [(0, .ref (a 1)), (1, .int x1)]) : W p l e rm_X_X5_take__1 s m args below meth c H locs 0 0 Q (F0 m 33 ls []) := by
  obtain ⟨hx, hb, hml, hown, hts, hN, hK, hD, hA⟩ := id C
  have hf : (fb_b (f_X_X5_fail__1 t (st_I t 3)) fun v_2 t_1 => (b_X_X5_take__1_42 t_1 x1)) = some u := hf
  refine lv_aload_n hx hb dX5_take_33 rfl (lv_at hl 0 rfl) ?_
  refine lv_aload_n hx hb dX5_take_34 rfl (lv_at hl 0 rfl) ?_
  refine va_get (D := D) (ci := 5) (v := .int (st_I t 3)) (C := RX5) (T := TX5) (N := 10) hx hb hts inX5 hown hK hP 1 (heX_1 ca a t) rfl 7 (by decide) (hts _ kw_129) (fun _ h9 => h9) rfl dX5_take_35 ?_
  obtain ⟨v_2, t_1, g_38, hf⟩ := fb_bs hf
  refine fw_V1 (As := [.int (st_I t 3)]) (rest := []) (n := 1) (q0 := 1) C (c_X_X5_fail__1 (l := l) (D := D) (ca := ca) (a := a) g_38) kw_712 kw_714 kw_93 kw_715 kw_25 hP hS hl (heX_1 ca a t) rfl rfl rfl (by decide) (by decide +kernel) ⟨Nat.le_of_ble_eq_true rfl, Nat.le_of_ble_eq_true rfl⟩ rfl rfl (Nat.le_of_ble_eq_true rfl) dX5_take_38 (fun H locs hP hS => ?_)
  refine W.eq (g2 := F0 m 41 ls [.int v_2]) rfl ?_
  refine lv_pop hx hb dX5_take_41 rfl ?_
  exact w_X_X5_take__1_42 C hr hf hP hS (lv_sub hl [0, 1] rfl)
set_option maxRecDepth 20000 in
theorem w_X_X5_take__1_0 {p : Program} {l : Launch} {e : Env} {s : State} {m : MethodId} {args : Array Value} {below : List Frame} {meth : Method} {c : Code} {A : Nat → Prop} {Q : State → Prop} {D : va_G} {ca : Nat → ClassId} {a : Nat → Nat} {u : fw_S}  (C : CX (WX ca a) D (tyv ca) p s m args c A prog_7_method_6_code 2 RX5) (hr : True → RX (WX ca a) D p l e rm_X_X5_take__1 s m args below meth c A prog_7_method_6_code Q .areturn [.null] u) {t : fw_S}  {H : Heap} {locs : List Loc} {ls : Array Slot} (hf : b_X_X5_take__1_0  t  = some u) (hP : va_P D classes (WX ca a t) H) (hS : va_S A s.heap H locs) (hl : lv_has ls 2 [(0, .ref (a 1))]) : W p l e rm_X_X5_take__1 s m args below meth c H locs 0 0 Q (F0 m 0 ls []) := by
  obtain ⟨hx, hb, hml, hown, hts, hN, hK, hD, hA⟩ := id C
  have hf : (fb_l (up_I t 3 ((0 : Int32))) fun t_1 => (fb_l (up_I t_1 4 ((-1 : Int32))) fun t_2 => (fb_l (up_I t_2 5 ((0 : Int32))) fun t_3 => (fb_b (f_X_X5_choice__1 t_3 ((0 : Int32)) ((0 : Int32))) fun v_5 t_4 => (if (st_I t_4 2) ≤ (st_I t_4 3) then b_X_X5_take__1_42 t_4 v_5 else b_X_X5_take__1_33 t_4 v_5))))) = some u := hf
  refine lv_aload_n hx hb dX5_take_0 rfl (lv_at hl 0 rfl) ?_
  refine lv_iconst (v := 0) hx hb dX5_take_1 (by decide) ?_
  refine va_put (D := D) (ci := 5) (v := .int ((0 : Int32))) (ty := .int) (C := RX5) (T := TX5) (N := 10) hx hb hts inX5 tyX5 tyX5_ok nmX5 hown hK hP (hD t) hS 1 (heX_1 ca a t) rfl 7 (by decide) (hts _ kw_129) (fun _ h9 => h9) rfl (by decide +kernel) rfl rfl (Nat.le_of_ble_eq_true rfl) dX5_take_2 (fun H locs hP _ hS => ?_)
  rw [suX_1_7] at hP
  obtain ⟨t_1, e_2, hf⟩ := fb_ls hf
  rw [← e_2] at hP
  refine lv_aload_n hx hb dX5_take_5 rfl (lv_at hl 0 rfl) ?_
  refine lv_iconst (v := (-1)) hx hb dX5_take_6 (by decide) ?_
  refine va_put (D := D) (ci := 5) (v := .int ((-1 : Int32))) (ty := .int) (C := RX5) (T := TX5) (N := 10) hx hb hts inX5 tyX5 tyX5_ok nmX5 hown hK hP (hD t_1) hS 1 (heX_1 ca a t_1) rfl 8 (by decide) (hts _ kw_130) (fun _ h9 => h9) rfl (by decide +kernel) rfl rfl (Nat.le_of_ble_eq_true rfl) dX5_take_7 (fun H locs hP _ hS => ?_)
  rw [suX_1_8] at hP
  obtain ⟨t_2, e_7, hf⟩ := fb_ls hf
  rw [← e_7] at hP
  refine lv_aload_n hx hb dX5_take_10 rfl (lv_at hl 0 rfl) ?_
  refine lv_iconst (v := 0) hx hb dX5_take_11 (by decide) ?_
  refine va_put (D := D) (ci := 5) (v := .int ((0 : Int32))) (ty := .int) (C := RX5) (T := TX5) (N := 10) hx hb hts inX5 tyX5 tyX5_ok nmX5 hown hK hP (hD t_2) hS 1 (heX_1 ca a t_2) rfl 9 (by decide) (hts _ kw_131) (fun _ h9 => h9) rfl (by decide +kernel) rfl rfl (Nat.le_of_ble_eq_true rfl) dX5_take_12 (fun H locs hP _ hS => ?_)
  rw [suX_1_9] at hP
  obtain ⟨t_3, e_12, hf⟩ := fb_ls hf
  rw [← e_12] at hP
  refine lv_aload_n hx hb dX5_take_15 rfl (lv_at hl 0 rfl) ?_
  refine lv_iconst (v := 0) hx hb dX5_take_16 (by decide) ?_
  refine lv_iconst (v := 0) hx hb dX5_take_17 (by decide) ?_
  obtain ⟨v_5, t_4, g_18, hf⟩ := fb_bs hf
  refine fw_V1 (As := [.int ((0 : Int32)), .int ((0 : Int32))]) (rest := []) (n := 2) (q0 := 1) C (c_X_X5_choice__1 (l := l) (D := D) (ca := ca) (a := a) g_18) kw_681 kw_683 kw_93 kw_684 kw_18 hP hS hl (heX_1 ca a t_3) rfl rfl rfl (by decide) (by decide +kernel) ⟨Nat.le_of_ble_eq_true rfl, Nat.le_of_ble_eq_true rfl⟩ rfl rfl (Nat.le_of_ble_eq_true rfl) dX5_take_18 (fun H locs hP hS => ?_)
  refine W.eq (g2 := F0 m 21 ls [.int v_5]) rfl ?_
  refine lv_istore_n (lv' := [(1, .int v_5), (0, .ref (a 1))]) hx hb dX5_take_21 rfl hl (by decide) rfl (fun ls hl => ?_)
  refine lv_aload_n hx hb dX5_take_22 rfl (lv_at hl 1 rfl) ?_
  refine va_get (D := D) (ci := 5) (v := .int (st_I t_4 3)) (C := RX5) (T := TX5) (N := 10) hx hb hts inX5 hown hK hP 1 (heX_1 ca a t_4) rfl 7 (by decide) (hts _ kw_129) (fun _ h9 => h9) rfl dX5_take_23 ?_
  refine lv_aload_n hx hb dX5_take_26 rfl (lv_at hl 1 rfl) ?_
  refine va_get (D := D) (ci := 5) (v := .int (st_I t_4 2)) (C := RX5) (T := TX5) (N := 10) hx hb hts inX5 hown hK hP 1 (heX_1 ca a t_4) rfl 6 (by decide) (hts _ kw_128) (fun _ h9 => h9) rfl dX5_take_27 ?_
  refine lv_icmp_ge (tgt := 42) hx hb dX5_take_30 (by decide) (fun h_30 => ?_) (fun h_30 => ?_)
  · have hf := fb_t h_30 hf
    exact w_X_X5_take__1_42 C hr hf hP hS (lv_sub hl [1, 0] rfl)
  · have hf := fb_f h_30 hf
    exact w_X_X5_take__1_33 C hr hf hP hS (lv_sub hl [1, 0] rfl)
set_option maxRecDepth 20000 in
theorem c_X_X5_take__1 {l : Launch} {D : va_G} {ca : Nat → ClassId} {a : Nat → Nat} {t : fw_S}  {u : fw_S} (hf : f_X_X5_take__1 t  = some u) : MC (WX ca a) D (tyv ca) l yX5_take (.code yX5_take prog_7_method_6_code 2 (some (.object "ReactiveSheet$Formula")) :: lw_gd) rm_X_X5_take__1 [.ref (a 1)] (some (.null)) t u := by
  refine fw_met (okX ca a) (by decide +kernel) rfl rfl (Nat.le_of_ble_eq_true rfl) ?_
  intro p e s m args below meth c A Q ls C hr hk hP hS hl hQ
  exact w_X_X5_take__1_0 C (fun _ => fw_ra C hr hk (Or.inl rfl) hQ) hf hP hS (lv_sub hl [0] rfl)
/-! ReactiveSheet.Parser.fault()I ['x.parser'] -/
abbrev rm_X_X5_fault__1 : Room := { frames := 0, cells := 0, slots := 0, locals := 0 }
def b_X_X5_fault__1_0  (t : fw_S)  : Option (Int32 × fw_S) := some (st_I t 4, t)
def f_X_X5_fault__1 (t : fw_S)  : Option (Int32 × fw_S) := b_X_X5_fault__1_0 t 
set_option maxRecDepth 20000 in
theorem w_X_X5_fault__1_0 {p : Program} {l : Launch} {e : Env} {s : State} {m : MethodId} {args : Array Value} {below : List Frame} {meth : Method} {c : Code} {A : Nat → Prop} {Q : State → Prop} {D : va_G} {ca : Nat → ClassId} {a : Nat → Nat} {u : fw_S} {r : Int32}  (C : CX (WX ca a) D (tyv ca) p s m args c A prog_7_method_5_code 1 RX5) (hr : True → RX (WX ca a) D p l e rm_X_X5_fault__1 s m args below meth c A prog_7_method_5_code Q .ireturn [.int r] u) {t : fw_S}  {H : Heap} {locs : List Loc} {ls : Array Slot} (hf : b_X_X5_fault__1_0  t  = some (r, u)) (hP : va_P D classes (WX ca a t) H) (hS : va_S A s.heap H locs) (hl : lv_has ls 1 [(0, .ref (a 1))]) : W p l e rm_X_X5_fault__1 s m args below meth c H locs 0 0 Q (F0 m 0 ls []) := by
  obtain ⟨hx, hb, hml, hown, hts, hN, hK, hD, hA⟩ := id C
  have hf : (some (st_I t 4, t)) = some (r, u) := hf
  refine lv_aload_n hx hb dX5_fault_0 rfl (lv_at hl 0 rfl) ?_
  refine va_get (D := D) (ci := 5) (v := .int (st_I t 4)) (C := RX5) (T := TX5) (N := 10) hx hb hts inX5 hown hK hP 1 (heX_1 ca a t) rfl 8 (by decide) (hts _ kw_130) (fun _ h9 => h9) rfl dX5_fault_1 ?_
  obtain ⟨e_4, e2_4⟩ := fb_e hf
  subst e_4; subst e2_4
  exact hr trivial _ _ _ _ hP hS dX5_fault_4
set_option maxRecDepth 20000 in
theorem c_X_X5_fault__1 {l : Launch} {D : va_G} {ca : Nat → ClassId} {a : Nat → Nat} {t : fw_S}  {u : fw_S} {r : Int32} (hf : f_X_X5_fault__1 t  = some (r, u)) : MC (WX ca a) D (tyv ca) l yX5_fault (.code yX5_fault prog_7_method_5_code 1 (some .int) :: lw_gd) rm_X_X5_fault__1 [.ref (a 1)] (some (.int r)) t u := by
  refine fw_met (okX ca a) (by decide +kernel) rfl rfl (Nat.le_of_ble_eq_true rfl) ?_
  intro p e s m args below meth c A Q ls C hr hk hP hS hl hQ
  exact w_X_X5_fault__1_0 C (fun _ => fw_ri C hr hk hQ) hf hP hS (lv_sub hl [0] rfl)
/-! ReactiveSheet.define(I)I ['x'] -/
abbrev rm_X_X10_define__0 : Room := { frames := 10, cells := 0, slots := 0, locals := 229 }
def b_X_X10_define__0_22  (t : fw_S)  : Option (Int32 × fw_S) := fb_b (f_X_X5_fault__1 t) fun v_2 t_1 => (some (((-100 : Int32)) - v_2, t_1))
def b_X_X10_define__0_10  (t : fw_S) (x1 : Int32) : Option (Int32 × fw_S) := fb_v (f_X_X5_take__1 t) fun t_1 => (b_X_X10_define__0_22 t_1)
def b_X_X10_define__0_8  (t : fw_S)  : Option (Int32 × fw_S) := some ((-1 : Int32), t)
def b_X_X10_define__0_0  (t : fw_S) (x1 : Int32) : Option (Int32 × fw_S) := fb_b (f_X_X10_isCell t x1.toInt64) fun v_2 t_1 => (if v_2 = 0 then b_X_X10_define__0_8 t_1 else b_X_X10_define__0_10 t_1 x1)
def f_X_X10_define__0 (t : fw_S) (x1 : Int32) : Option (Int32 × fw_S) := b_X_X10_define__0_0 t x1
set_option maxRecDepth 20000 in
theorem w_X_X10_define__0_22 {p : Program} {l : Launch} {e : Env} {s : State} {m : MethodId} {args : Array Value} {below : List Frame} {meth : Method} {c : Code} {A : Nat → Prop} {Q : State → Prop} {D : va_G} {ca : Nat → ClassId} {a : Nat → Nat} {u : fw_S} {r : Int32}  (C : CX (WX ca a) D (tyv ca) p s m args c A prog_1_method_3_code 3 RX10) (hr : True → RX (WX ca a) D p l e rm_X_X10_define__0 s m args below meth c A prog_1_method_3_code Q .ireturn [.int r] u) {t : fw_S}  {H : Heap} {locs : List Loc} {ls : Array Slot} (hf : b_X_X10_define__0_22  t  = some (r, u)) (hP : va_P D classes (WX ca a t) H) (hS : va_S A s.heap H locs) (hl : lv_has ls 3 [(0, .ref (a 0))]) : W p l e rm_X_X10_define__0 s m args below meth c H locs 0 0 Q (F0 m 22 ls []) := by
  obtain ⟨hx, hb, hml, hown, hts, hN, hK, hD, hA⟩ := id C
  have hf : (fb_b (f_X_X5_fault__1 t) fun v_2 t_1 => (some (((-100 : Int32)) - v_2, t_1))) = some (r, u) := hf
  refine lv_bipush (v := (-100)) hx hb dX10_define_22 (by decide) ?_
  refine lv_aload_n hx hb dX10_define_24 rfl (lv_at hl 0 rfl) ?_
  refine va_get (D := D) (ci := 10) (v := .ref (a 1)) (C := RX10) (T := TX10) (N := 13) hx hb hts inX10 hown hK hP 0 (heX_0 ca a t) rfl 0 (by decide) (hts _ kw_354) (fun _ h9 => h9) rfl dX10_define_25 ?_
  obtain ⟨v_2, t_1, g_28, hf⟩ := fb_bs hf
  refine fw_V1 (As := []) (rest := [.int ((-100 : Int32))]) (n := 0) (q0 := 1) C (c_X_X5_fault__1 (l := l) (D := D) (ca := ca) (a := a) g_28) kw_787 kw_788 kw_93 kw_790 kw_789 hP hS hl (heX_1 ca a t) rfl rfl rfl (by decide) (by decide +kernel) ⟨Nat.le_of_ble_eq_true rfl, Nat.le_of_ble_eq_true rfl⟩ rfl rfl (Nat.le_of_ble_eq_true rfl) dX10_define_28 (fun H locs hP hS => ?_)
  refine W.eq (g2 := F0 m 31 ls [.int v_2, .int ((-100 : Int32))]) rfl ?_
  refine lv_isub hx hb dX10_define_31 ?_
  obtain ⟨e_32, e2_32⟩ := fb_e hf
  subst e_32; subst e2_32
  exact hr trivial _ _ _ _ hP hS dX10_define_32
set_option maxRecDepth 20000 in
theorem w_X_X10_define__0_10 {p : Program} {l : Launch} {e : Env} {s : State} {m : MethodId} {args : Array Value} {below : List Frame} {meth : Method} {c : Code} {A : Nat → Prop} {Q : State → Prop} {D : va_G} {ca : Nat → ClassId} {a : Nat → Nat} {u : fw_S} {r : Int32}  (C : CX (WX ca a) D (tyv ca) p s m args c A prog_1_method_3_code 3 RX10) (hr : True → RX (WX ca a) D p l e rm_X_X10_define__0 s m args below meth c A prog_1_method_3_code Q .ireturn [.int r] u) {t : fw_S} {x1 : Int32} {H : Heap} {locs : List Loc} {ls : Array Slot} (hf : b_X_X10_define__0_10  t x1 = some (r, u)) (hP : va_P D classes (WX ca a t) H) (hS : va_S A s.heap H locs) (hl : lv_has ls 3 [(0, .ref (a 0)), (1, .int x1)]) : W p l e rm_X_X10_define__0 s m args below meth c H locs 0 0 Q (F0 m 10 ls []) := by
  obtain ⟨hx, hb, hml, hown, hts, hN, hK, hD, hA⟩ := id C
  have hf : (fb_v (f_X_X5_take__1 t) fun t_1 => (b_X_X10_define__0_22 t_1)) = some (r, u) := hf
  refine lv_aload_n hx hb dX10_define_10 rfl (lv_at hl 0 rfl) ?_
  refine va_get (D := D) (ci := 10) (v := .ref (a 1)) (C := RX10) (T := TX10) (N := 13) hx hb hts inX10 hown hK hP 0 (heX_0 ca a t) rfl 0 (by decide) (hts _ kw_354) (fun _ h9 => h9) rfl dX10_define_11 ?_
  obtain ⟨t_1, g_14, hf⟩ := fb_vs hf
  refine fw_V1 (As := []) (rest := []) (n := 0) (q0 := 1) C (c_X_X5_take__1 (l := l) (D := D) (ca := ca) (a := a) g_14) kw_677 kw_678 kw_93 kw_680 kw_679 hP hS hl (heX_1 ca a t) rfl rfl rfl (by decide) (by decide +kernel) ⟨Nat.le_of_ble_eq_true rfl, Nat.le_of_ble_eq_true rfl⟩ rfl rfl (Nat.le_of_ble_eq_true rfl) dX10_define_14 (fun H locs hP hS => ?_)
  refine W.eq (g2 := F0 m 17 ls [.null]) rfl ?_
  refine lv_astore_nN (lv' := [(2, .null), (0, .ref (a 0)), (1, .int x1)]) hx hb dX10_define_17 rfl hl (by decide) rfl (fun ls hl => ?_)
  refine lv_aload_nN hx hb dX10_define_18 rfl (lv_at hl 0 rfl) ?_
  refine lv_ifnonnullN hx hb dX10_define_19 ?_
  exact w_X_X10_define__0_22 C hr hf hP hS (lv_sub hl [1] rfl)
set_option maxRecDepth 20000 in
theorem w_X_X10_define__0_8 {p : Program} {l : Launch} {e : Env} {s : State} {m : MethodId} {args : Array Value} {below : List Frame} {meth : Method} {c : Code} {A : Nat → Prop} {Q : State → Prop} {D : va_G} {ca : Nat → ClassId} {a : Nat → Nat} {u : fw_S} {r : Int32}  (C : CX (WX ca a) D (tyv ca) p s m args c A prog_1_method_3_code 3 RX10) (hr : True → RX (WX ca a) D p l e rm_X_X10_define__0 s m args below meth c A prog_1_method_3_code Q .ireturn [.int r] u) {t : fw_S}  {H : Heap} {locs : List Loc} {ls : Array Slot} (hf : b_X_X10_define__0_8  t  = some (r, u)) (hP : va_P D classes (WX ca a t) H) (hS : va_S A s.heap H locs) (hl : lv_has ls 3 []) : W p l e rm_X_X10_define__0 s m args below meth c H locs 0 0 Q (F0 m 8 ls []) := by
  obtain ⟨hx, hb, hml, hown, hts, hN, hK, hD, hA⟩ := id C
  have hf : (some ((-1 : Int32), t)) = some (r, u) := hf
  refine lv_iconst (v := (-1)) hx hb dX10_define_8 (by decide) ?_
  obtain ⟨e_9, e2_9⟩ := fb_e hf
  subst e_9; subst e2_9
  exact hr trivial _ _ _ _ hP hS dX10_define_9
set_option maxRecDepth 20000 in
theorem w_X_X10_define__0_0 {p : Program} {l : Launch} {e : Env} {s : State} {m : MethodId} {args : Array Value} {below : List Frame} {meth : Method} {c : Code} {A : Nat → Prop} {Q : State → Prop} {D : va_G} {ca : Nat → ClassId} {a : Nat → Nat} {u : fw_S} {r : Int32}  (C : CX (WX ca a) D (tyv ca) p s m args c A prog_1_method_3_code 3 RX10) (hr : True → RX (WX ca a) D p l e rm_X_X10_define__0 s m args below meth c A prog_1_method_3_code Q .ireturn [.int r] u) {t : fw_S} {x1 : Int32} {H : Heap} {locs : List Loc} {ls : Array Slot} (hf : b_X_X10_define__0_0  t x1 = some (r, u)) (hP : va_P D classes (WX ca a t) H) (hS : va_S A s.heap H locs) (hl : lv_has ls 3 [(0, .ref (a 0)), (1, .int x1)]) : W p l e rm_X_X10_define__0 s m args below meth c H locs 0 0 Q (F0 m 0 ls []) := by
  obtain ⟨hx, hb, hml, hown, hts, hN, hK, hD, hA⟩ := id C
  have hf : (fb_b (f_X_X10_isCell t x1.toInt64) fun v_2 t_1 => (if v_2 = 0 then b_X_X10_define__0_8 t_1 else b_X_X10_define__0_10 t_1 x1)) = some (r, u) := hf
  refine lv_iload_n hx hb dX10_define_0 rfl (lv_at hl 1 rfl) ?_
  refine lv_i2l hx hb dX10_define_1 rfl ?_
  obtain ⟨v_2, t_1, g_2, hf⟩ := fb_bs hf
  refine fw_S1 (As := [.long x1.toInt64]) (rest := []) (n := 1) C (c_X_X10_isCell (l := l) (D := D) (ca := ca) (a := a) g_2) kw_398 kw_399 kw_92 kw_400 hP hS hl rfl rfl (by decide) (by decide +kernel) ⟨Nat.le_of_ble_eq_true rfl, Nat.le_of_ble_eq_true rfl⟩ rfl rfl (Nat.le_of_ble_eq_true rfl) dX10_define_2 (fun H locs hP hS => ?_)
  refine W.eq (g2 := F0 m 5 ls [.int v_2]) rfl ?_
  refine lv_if_ne (tgt := 10) hx hb dX10_define_5 (by decide) (fun h_5 => ?_) (fun h_5 => ?_)
  · have hf := fb_f h_5 hf
    exact w_X_X10_define__0_10 C hr hf hP hS (lv_sub hl [0, 1] rfl)
  · have hf := fb_t h_5 hf
    exact w_X_X10_define__0_8 C hr hf hP hS (lv_sub hl [] rfl)
set_option maxRecDepth 20000 in
theorem c_X_X10_define__0 {l : Launch} {D : va_G} {ca : Nat → ClassId} {a : Nat → Nat} {t : fw_S} {x1 : Int32} {u : fw_S} {r : Int32} (hf : f_X_X10_define__0 t x1 = some (r, u)) : MC (WX ca a) D (tyv ca) l yX10_define (.code yX10_define prog_1_method_3_code 3 (some .int) :: lw_gd) rm_X_X10_define__0 [.ref (a 0), .int x1] (some (.int r)) t u := by
  refine fw_met (okX ca a) (by decide +kernel) rfl rfl (Nat.le_of_ble_eq_true rfl) ?_
  intro p e s m args below meth c A Q ls C hr hk hP hS hl hQ
  exact w_X_X10_define__0_0 C (fun _ => fw_ri C hr hk hQ) hf hP hS (lv_sub hl [0, 1] rfl)
/-! ReactiveSheet.drop(I)I ['x'] -/
abbrev rm_X_X10_drop__0 : Room := { frames := 6, cells := 0, slots := 0, locals := 187 }
def b_X_X10_drop__0_10  (t : fw_S) (x1 : Int32) : Option (Int32 × fw_S) := fb_v (f_X_X7_put__6_N t x1 ((0 : Int32)) ((0 : Int64))) fun t_1 => (fb_b (f_X_X10_surge__0 t_1) fun v_3 t_2 => (some (v_3, t_2)))
def b_X_X10_drop__0_8  (t : fw_S)  : Option (Int32 × fw_S) := some ((-1 : Int32), t)
def b_X_X10_drop__0_0  (t : fw_S) (x1 : Int32) : Option (Int32 × fw_S) := fb_b (f_X_X10_isCell t x1.toInt64) fun v_2 t_1 => (if v_2 = 0 then b_X_X10_drop__0_8 t_1 else b_X_X10_drop__0_10 t_1 x1)
def f_X_X10_drop__0 (t : fw_S) (x1 : Int32) : Option (Int32 × fw_S) := b_X_X10_drop__0_0 t x1
set_option maxRecDepth 20000 in
theorem w_X_X10_drop__0_10 {p : Program} {l : Launch} {e : Env} {s : State} {m : MethodId} {args : Array Value} {below : List Frame} {meth : Method} {c : Code} {A : Nat → Prop} {Q : State → Prop} {D : va_G} {ca : Nat → ClassId} {a : Nat → Nat} {u : fw_S} {r : Int32}  (C : CX (WX ca a) D (tyv ca) p s m args c A prog_1_method_4_code 2 RX10) (hr : True → RX (WX ca a) D p l e rm_X_X10_drop__0 s m args below meth c A prog_1_method_4_code Q .ireturn [.int r] u) {t : fw_S} {x1 : Int32} {H : Heap} {locs : List Loc} {ls : Array Slot} (hf : b_X_X10_drop__0_10  t x1 = some (r, u)) (hP : va_P D classes (WX ca a t) H) (hS : va_S A s.heap H locs) (hl : lv_has ls 2 [(0, .ref (a 0)), (1, .int x1)]) : W p l e rm_X_X10_drop__0 s m args below meth c H locs 0 0 Q (F0 m 10 ls []) := by
  obtain ⟨hx, hb, hml, hown, hts, hN, hK, hD, hA⟩ := id C
  have hf : (fb_v (f_X_X7_put__6_N t x1 ((0 : Int32)) ((0 : Int64))) fun t_1 => (fb_b (f_X_X10_surge__0 t_1) fun v_3 t_2 => (some (v_3, t_2)))) = some (r, u) := hf
  refine lv_aload_n hx hb dX10_drop_10 rfl (lv_at hl 0 rfl) ?_
  refine va_get (D := D) (ci := 10) (v := .ref (a 6)) (C := RX10) (T := TX10) (N := 13) hx hb hts inX10 hown hK hP 0 (heX_0 ca a t) rfl 3 (by decide) (hts _ kw_357) (fun _ h9 => h9) rfl dX10_drop_11 ?_
  refine lv_iload_n hx hb dX10_drop_14 rfl (lv_at hl 1 rfl) ?_
  refine lv_iconst (v := 0) hx hb dX10_drop_15 (by decide) ?_
  refine lv_lconst (v := 0) hx hb dX10_drop_16 (by decide) ?_
  refine lv_null hx hb dX10_drop_17 ?_
  obtain ⟨t_1, g_18, hf⟩ := fb_vs hf
  refine fw_V1 (As := [.int x1, .int ((0 : Int32)), .long ((0 : Int64)), .null]) (rest := []) (n := 4) (q0 := 6) C (c_X_X7_put__6_N (l := l) (D := D) (ca := ca) (a := a) g_18) kw_402 kw_403 kw_97 kw_405 kw_404 hP hS hl (heX_6 ca a t) rfl rfl rfl (by decide) (by decide +kernel) ⟨Nat.le_of_ble_eq_true rfl, Nat.le_of_ble_eq_true rfl⟩ rfl rfl (Nat.le_of_ble_eq_true rfl) dX10_drop_18 (fun H locs hP hS => ?_)
  refine W.eq (g2 := F0 m 21 ls []) rfl ?_
  refine lv_aload_n hx hb dX10_drop_21 rfl (lv_at hl 0 rfl) ?_
  obtain ⟨v_3, t_2, g_22, hf⟩ := fb_bs hf
  refine fw_V1 (As := []) (rest := []) (n := 0) (q0 := 0) C (c_X_X10_surge__0 (l := l) (D := D) (ca := ca) (a := a) g_22) kw_410 kw_412 kw_92 kw_413 kw_0 hP hS hl (heX_0 ca a t_1) rfl rfl rfl (by decide) (by decide +kernel) ⟨Nat.le_of_ble_eq_true rfl, Nat.le_of_ble_eq_true rfl⟩ rfl rfl (Nat.le_of_ble_eq_true rfl) dX10_drop_22 (fun H locs hP hS => ?_)
  refine W.eq (g2 := F0 m 25 ls [.int v_3]) rfl ?_
  obtain ⟨e_25, e2_25⟩ := fb_e hf
  subst e_25; subst e2_25
  exact hr trivial _ _ _ _ hP hS dX10_drop_25
set_option maxRecDepth 20000 in
theorem w_X_X10_drop__0_8 {p : Program} {l : Launch} {e : Env} {s : State} {m : MethodId} {args : Array Value} {below : List Frame} {meth : Method} {c : Code} {A : Nat → Prop} {Q : State → Prop} {D : va_G} {ca : Nat → ClassId} {a : Nat → Nat} {u : fw_S} {r : Int32}  (C : CX (WX ca a) D (tyv ca) p s m args c A prog_1_method_4_code 2 RX10) (hr : True → RX (WX ca a) D p l e rm_X_X10_drop__0 s m args below meth c A prog_1_method_4_code Q .ireturn [.int r] u) {t : fw_S}  {H : Heap} {locs : List Loc} {ls : Array Slot} (hf : b_X_X10_drop__0_8  t  = some (r, u)) (hP : va_P D classes (WX ca a t) H) (hS : va_S A s.heap H locs) (hl : lv_has ls 2 []) : W p l e rm_X_X10_drop__0 s m args below meth c H locs 0 0 Q (F0 m 8 ls []) := by
  obtain ⟨hx, hb, hml, hown, hts, hN, hK, hD, hA⟩ := id C
  have hf : (some ((-1 : Int32), t)) = some (r, u) := hf
  refine lv_iconst (v := (-1)) hx hb dX10_drop_8 (by decide) ?_
  obtain ⟨e_9, e2_9⟩ := fb_e hf
  subst e_9; subst e2_9
  exact hr trivial _ _ _ _ hP hS dX10_drop_9
set_option maxRecDepth 20000 in
theorem w_X_X10_drop__0_0 {p : Program} {l : Launch} {e : Env} {s : State} {m : MethodId} {args : Array Value} {below : List Frame} {meth : Method} {c : Code} {A : Nat → Prop} {Q : State → Prop} {D : va_G} {ca : Nat → ClassId} {a : Nat → Nat} {u : fw_S} {r : Int32}  (C : CX (WX ca a) D (tyv ca) p s m args c A prog_1_method_4_code 2 RX10) (hr : True → RX (WX ca a) D p l e rm_X_X10_drop__0 s m args below meth c A prog_1_method_4_code Q .ireturn [.int r] u) {t : fw_S} {x1 : Int32} {H : Heap} {locs : List Loc} {ls : Array Slot} (hf : b_X_X10_drop__0_0  t x1 = some (r, u)) (hP : va_P D classes (WX ca a t) H) (hS : va_S A s.heap H locs) (hl : lv_has ls 2 [(0, .ref (a 0)), (1, .int x1)]) : W p l e rm_X_X10_drop__0 s m args below meth c H locs 0 0 Q (F0 m 0 ls []) := by
  obtain ⟨hx, hb, hml, hown, hts, hN, hK, hD, hA⟩ := id C
  have hf : (fb_b (f_X_X10_isCell t x1.toInt64) fun v_2 t_1 => (if v_2 = 0 then b_X_X10_drop__0_8 t_1 else b_X_X10_drop__0_10 t_1 x1)) = some (r, u) := hf
  refine lv_iload_n hx hb dX10_drop_0 rfl (lv_at hl 1 rfl) ?_
  refine lv_i2l hx hb dX10_drop_1 rfl ?_
  obtain ⟨v_2, t_1, g_2, hf⟩ := fb_bs hf
  refine fw_S1 (As := [.long x1.toInt64]) (rest := []) (n := 1) C (c_X_X10_isCell (l := l) (D := D) (ca := ca) (a := a) g_2) kw_398 kw_399 kw_92 kw_400 hP hS hl rfl rfl (by decide) (by decide +kernel) ⟨Nat.le_of_ble_eq_true rfl, Nat.le_of_ble_eq_true rfl⟩ rfl rfl (Nat.le_of_ble_eq_true rfl) dX10_drop_2 (fun H locs hP hS => ?_)
  refine W.eq (g2 := F0 m 5 ls [.int v_2]) rfl ?_
  refine lv_if_ne (tgt := 10) hx hb dX10_drop_5 (by decide) (fun h_5 => ?_) (fun h_5 => ?_)
  · have hf := fb_f h_5 hf
    exact w_X_X10_drop__0_10 C hr hf hP hS (lv_sub hl [0, 1] rfl)
  · have hf := fb_t h_5 hf
    exact w_X_X10_drop__0_8 C hr hf hP hS (lv_sub hl [] rfl)
set_option maxRecDepth 20000 in
theorem c_X_X10_drop__0 {l : Launch} {D : va_G} {ca : Nat → ClassId} {a : Nat → Nat} {t : fw_S} {x1 : Int32} {u : fw_S} {r : Int32} (hf : f_X_X10_drop__0 t x1 = some (r, u)) : MC (WX ca a) D (tyv ca) l yX10_drop (.code yX10_drop prog_1_method_4_code 2 (some .int) :: lw_gd) rm_X_X10_drop__0 [.ref (a 0), .int x1] (some (.int r)) t u := by
  refine fw_met (okX ca a) (by decide +kernel) rfl rfl (Nat.le_of_ble_eq_true rfl) ?_
  intro p e s m args below meth c A Q ls C hr hk hP hS hl hQ
  exact w_X_X10_drop__0_0 C (fun _ => fw_ri C hr hk hQ) hf hP hS (lv_sub hl [0, 1] rfl)
/-! ReactiveSheet.copy(II)I ['x'] -/
abbrev rm_X_X10_copy__0 : Room := { frames := 2, cells := 0, slots := 0, locals := 42 }
def b_X_X10_copy__0_16  (t : fw_S)  : Option (Int32 × fw_S) := some ((-1 : Int32), t)
def b_X_X10_copy__0_34  (t : fw_S)  : Option (Int32 × fw_S) := some ((-3 : Int32), t)
def b_X_X10_copy__0_18  (t : fw_S) (x1 : Int32) (x2 : Int32) : Option (Int32 × fw_S) := fb_v (f_X_X1_now__3 t) fun t_1 => (fb_v (f_X_X0_formulaOf__4 t_1 x1) fun t_2 => (b_X_X10_copy__0_34 t_2))
def b_X_X10_copy__0_8  (t : fw_S) (x1 : Int32) (x2 : Int32) : Option (Int32 × fw_S) := fb_b (f_X_X10_isCell t x2.toInt64) fun v_2 t_1 => (if v_2 = 0 then b_X_X10_copy__0_16 t_1 else b_X_X10_copy__0_18 t_1 x1 x2)
def b_X_X10_copy__0_0  (t : fw_S) (x1 : Int32) (x2 : Int32) : Option (Int32 × fw_S) := fb_b (f_X_X10_isCell t x1.toInt64) fun v_2 t_1 => (if v_2 = 0 then b_X_X10_copy__0_16 t_1 else b_X_X10_copy__0_8 t_1 x1 x2)
def f_X_X10_copy__0 (t : fw_S) (x1 : Int32) (x2 : Int32) : Option (Int32 × fw_S) := b_X_X10_copy__0_0 t x1 x2
set_option maxRecDepth 20000 in
theorem w_X_X10_copy__0_16 {p : Program} {l : Launch} {e : Env} {s : State} {m : MethodId} {args : Array Value} {below : List Frame} {meth : Method} {c : Code} {A : Nat → Prop} {Q : State → Prop} {D : va_G} {ca : Nat → ClassId} {a : Nat → Nat} {u : fw_S} {r : Int32}  (C : CX (WX ca a) D (tyv ca) p s m args c A prog_1_method_5_code 5 RX10) (hr : True → RX (WX ca a) D p l e rm_X_X10_copy__0 s m args below meth c A prog_1_method_5_code Q .ireturn [.int r] u) {t : fw_S}  {H : Heap} {locs : List Loc} {ls : Array Slot} (hf : b_X_X10_copy__0_16  t  = some (r, u)) (hP : va_P D classes (WX ca a t) H) (hS : va_S A s.heap H locs) (hl : lv_has ls 5 []) : W p l e rm_X_X10_copy__0 s m args below meth c H locs 0 0 Q (F0 m 16 ls []) := by
  obtain ⟨hx, hb, hml, hown, hts, hN, hK, hD, hA⟩ := id C
  have hf : (some ((-1 : Int32), t)) = some (r, u) := hf
  refine lv_iconst (v := (-1)) hx hb dX10_copy_16 (by decide) ?_
  obtain ⟨e_17, e2_17⟩ := fb_e hf
  subst e_17; subst e2_17
  exact hr trivial _ _ _ _ hP hS dX10_copy_17
set_option maxRecDepth 20000 in
theorem w_X_X10_copy__0_34 {p : Program} {l : Launch} {e : Env} {s : State} {m : MethodId} {args : Array Value} {below : List Frame} {meth : Method} {c : Code} {A : Nat → Prop} {Q : State → Prop} {D : va_G} {ca : Nat → ClassId} {a : Nat → Nat} {u : fw_S} {r : Int32}  (C : CX (WX ca a) D (tyv ca) p s m args c A prog_1_method_5_code 5 RX10) (hr : True → RX (WX ca a) D p l e rm_X_X10_copy__0 s m args below meth c A prog_1_method_5_code Q .ireturn [.int r] u) {t : fw_S}  {H : Heap} {locs : List Loc} {ls : Array Slot} (hf : b_X_X10_copy__0_34  t  = some (r, u)) (hP : va_P D classes (WX ca a t) H) (hS : va_S A s.heap H locs) (hl : lv_has ls 5 []) : W p l e rm_X_X10_copy__0 s m args below meth c H locs 0 0 Q (F0 m 34 ls []) := by
  obtain ⟨hx, hb, hml, hown, hts, hN, hK, hD, hA⟩ := id C
  have hf : (some ((-3 : Int32), t)) = some (r, u) := hf
  refine lv_bipush (v := (-3)) hx hb dX10_copy_34 (by decide) ?_
  obtain ⟨e_36, e2_36⟩ := fb_e hf
  subst e_36; subst e2_36
  exact hr trivial _ _ _ _ hP hS dX10_copy_36
set_option maxRecDepth 20000 in
theorem w_X_X10_copy__0_18 {p : Program} {l : Launch} {e : Env} {s : State} {m : MethodId} {args : Array Value} {below : List Frame} {meth : Method} {c : Code} {A : Nat → Prop} {Q : State → Prop} {D : va_G} {ca : Nat → ClassId} {a : Nat → Nat} {u : fw_S} {r : Int32}  (C : CX (WX ca a) D (tyv ca) p s m args c A prog_1_method_5_code 5 RX10) (hr : True → RX (WX ca a) D p l e rm_X_X10_copy__0 s m args below meth c A prog_1_method_5_code Q .ireturn [.int r] u) {t : fw_S} {x1 : Int32} {x2 : Int32} {H : Heap} {locs : List Loc} {ls : Array Slot} (hf : b_X_X10_copy__0_18  t x1 x2 = some (r, u)) (hP : va_P D classes (WX ca a t) H) (hS : va_S A s.heap H locs) (hl : lv_has ls 5 [(0, .ref (a 0)), (1, .int x1), (2, .int x2)]) : W p l e rm_X_X10_copy__0 s m args below meth c H locs 0 0 Q (F0 m 18 ls []) := by
  obtain ⟨hx, hb, hml, hown, hts, hN, hK, hD, hA⟩ := id C
  have hf : (fb_v (f_X_X1_now__3 t) fun t_1 => (fb_v (f_X_X0_formulaOf__4 t_1 x1) fun t_2 => (b_X_X10_copy__0_34 t_2))) = some (r, u) := hf
  refine lv_aload_n hx hb dX10_copy_18 rfl (lv_at hl 0 rfl) ?_
  refine va_get (D := D) (ci := 10) (v := .ref (a 3)) (C := RX10) (T := TX10) (N := 13) hx hb hts inX10 hown hK hP 0 (heX_0 ca a t) rfl 2 (by decide) (hts _ kw_356) (fun _ h9 => h9) rfl dX10_copy_19 ?_
  obtain ⟨t_1, g_22, hf⟩ := fb_vs hf
  refine fw_V1 (As := []) (rest := []) (n := 0) (q0 := 3) C (c_X_X1_now__3 (l := l) (D := D) (ca := ca) (a := a) g_22) kw_626 kw_627 kw_95 kw_629 kw_628 hP hS hl (heX_3 ca a t) rfl rfl rfl (by decide) (by decide +kernel) ⟨Nat.le_of_ble_eq_true rfl, Nat.le_of_ble_eq_true rfl⟩ rfl rfl (Nat.le_of_ble_eq_true rfl) dX10_copy_22 (fun H locs hP hS => ?_)
  refine W.eq (g2 := F0 m 25 ls [.ref (a 4)]) rfl ?_
  refine lv_iload_n hx hb dX10_copy_25 rfl (lv_at hl 1 rfl) ?_
  obtain ⟨t_2, g_26, hf⟩ := fb_vs hf
  refine fw_V1 (As := [.int x1]) (rest := []) (n := 1) (q0 := 4) C (c_X_X0_formulaOf__4 (l := l) (D := D) (ca := ca) (a := a) g_26) kw_799 kw_490 kw_96 kw_492 kw_491 hP hS hl (heX_4 ca a t_1) rfl rfl rfl (by decide) (by decide +kernel) ⟨Nat.le_of_ble_eq_true rfl, Nat.le_of_ble_eq_true rfl⟩ rfl rfl (Nat.le_of_ble_eq_true rfl) dX10_copy_26 (fun H locs hP hS => ?_)
  refine W.eq (g2 := F0 m 29 ls [.null]) rfl ?_
  refine lv_astore_nN (lv' := [(3, .null), (0, .ref (a 0)), (1, .int x1), (2, .int x2)]) hx hb dX10_copy_29 rfl hl (by decide) rfl (fun ls hl => ?_)
  refine lv_aload_nN hx hb dX10_copy_30 rfl (lv_at hl 0 rfl) ?_
  refine lv_ifnonnullN hx hb dX10_copy_31 ?_
  exact w_X_X10_copy__0_34 C hr hf hP hS (lv_sub hl [] rfl)
set_option maxRecDepth 20000 in
theorem w_X_X10_copy__0_8 {p : Program} {l : Launch} {e : Env} {s : State} {m : MethodId} {args : Array Value} {below : List Frame} {meth : Method} {c : Code} {A : Nat → Prop} {Q : State → Prop} {D : va_G} {ca : Nat → ClassId} {a : Nat → Nat} {u : fw_S} {r : Int32}  (C : CX (WX ca a) D (tyv ca) p s m args c A prog_1_method_5_code 5 RX10) (hr : True → RX (WX ca a) D p l e rm_X_X10_copy__0 s m args below meth c A prog_1_method_5_code Q .ireturn [.int r] u) {t : fw_S} {x1 : Int32} {x2 : Int32} {H : Heap} {locs : List Loc} {ls : Array Slot} (hf : b_X_X10_copy__0_8  t x1 x2 = some (r, u)) (hP : va_P D classes (WX ca a t) H) (hS : va_S A s.heap H locs) (hl : lv_has ls 5 [(0, .ref (a 0)), (1, .int x1), (2, .int x2)]) : W p l e rm_X_X10_copy__0 s m args below meth c H locs 0 0 Q (F0 m 8 ls []) := by
  obtain ⟨hx, hb, hml, hown, hts, hN, hK, hD, hA⟩ := id C
  have hf : (fb_b (f_X_X10_isCell t x2.toInt64) fun v_2 t_1 => (if v_2 = 0 then b_X_X10_copy__0_16 t_1 else b_X_X10_copy__0_18 t_1 x1 x2)) = some (r, u) := hf
  refine lv_iload_n hx hb dX10_copy_8 rfl (lv_at hl 2 rfl) ?_
  refine lv_i2l hx hb dX10_copy_9 rfl ?_
  obtain ⟨v_2, t_1, g_10, hf⟩ := fb_bs hf
  refine fw_S1 (As := [.long x2.toInt64]) (rest := []) (n := 1) C (c_X_X10_isCell (l := l) (D := D) (ca := ca) (a := a) g_10) kw_398 kw_399 kw_92 kw_400 hP hS hl rfl rfl (by decide) (by decide +kernel) ⟨Nat.le_of_ble_eq_true rfl, Nat.le_of_ble_eq_true rfl⟩ rfl rfl (Nat.le_of_ble_eq_true rfl) dX10_copy_10 (fun H locs hP hS => ?_)
  refine W.eq (g2 := F0 m 13 ls [.int v_2]) rfl ?_
  refine lv_if_ne (tgt := 18) hx hb dX10_copy_13 (by decide) (fun h_13 => ?_) (fun h_13 => ?_)
  · have hf := fb_f h_13 hf
    exact w_X_X10_copy__0_18 C hr hf hP hS (lv_sub hl [0, 1, 2] rfl)
  · have hf := fb_t h_13 hf
    exact w_X_X10_copy__0_16 C hr hf hP hS (lv_sub hl [] rfl)
set_option maxRecDepth 20000 in
theorem w_X_X10_copy__0_0 {p : Program} {l : Launch} {e : Env} {s : State} {m : MethodId} {args : Array Value} {below : List Frame} {meth : Method} {c : Code} {A : Nat → Prop} {Q : State → Prop} {D : va_G} {ca : Nat → ClassId} {a : Nat → Nat} {u : fw_S} {r : Int32}  (C : CX (WX ca a) D (tyv ca) p s m args c A prog_1_method_5_code 5 RX10) (hr : True → RX (WX ca a) D p l e rm_X_X10_copy__0 s m args below meth c A prog_1_method_5_code Q .ireturn [.int r] u) {t : fw_S} {x1 : Int32} {x2 : Int32} {H : Heap} {locs : List Loc} {ls : Array Slot} (hf : b_X_X10_copy__0_0  t x1 x2 = some (r, u)) (hP : va_P D classes (WX ca a t) H) (hS : va_S A s.heap H locs) (hl : lv_has ls 5 [(0, .ref (a 0)), (1, .int x1), (2, .int x2)]) : W p l e rm_X_X10_copy__0 s m args below meth c H locs 0 0 Q (F0 m 0 ls []) := by
  obtain ⟨hx, hb, hml, hown, hts, hN, hK, hD, hA⟩ := id C
  have hf : (fb_b (f_X_X10_isCell t x1.toInt64) fun v_2 t_1 => (if v_2 = 0 then b_X_X10_copy__0_16 t_1 else b_X_X10_copy__0_8 t_1 x1 x2)) = some (r, u) := hf
  refine lv_iload_n hx hb dX10_copy_0 rfl (lv_at hl 1 rfl) ?_
  refine lv_i2l hx hb dX10_copy_1 rfl ?_
  obtain ⟨v_2, t_1, g_2, hf⟩ := fb_bs hf
  refine fw_S1 (As := [.long x1.toInt64]) (rest := []) (n := 1) C (c_X_X10_isCell (l := l) (D := D) (ca := ca) (a := a) g_2) kw_398 kw_399 kw_92 kw_400 hP hS hl rfl rfl (by decide) (by decide +kernel) ⟨Nat.le_of_ble_eq_true rfl, Nat.le_of_ble_eq_true rfl⟩ rfl rfl (Nat.le_of_ble_eq_true rfl) dX10_copy_2 (fun H locs hP hS => ?_)
  refine W.eq (g2 := F0 m 5 ls [.int v_2]) rfl ?_
  refine lv_if_eq (tgt := 16) hx hb dX10_copy_5 (by decide) (fun h_5 => ?_) (fun h_5 => ?_)
  · have hf := fb_t h_5 hf
    exact w_X_X10_copy__0_16 C hr hf hP hS (lv_sub hl [] rfl)
  · have hf := fb_f h_5 hf
    exact w_X_X10_copy__0_8 C hr hf hP hS (lv_sub hl [0, 1, 2] rfl)
set_option maxRecDepth 20000 in
theorem c_X_X10_copy__0 {l : Launch} {D : va_G} {ca : Nat → ClassId} {a : Nat → Nat} {t : fw_S} {x1 : Int32} {x2 : Int32} {u : fw_S} {r : Int32} (hf : f_X_X10_copy__0 t x1 x2 = some (r, u)) : MC (WX ca a) D (tyv ca) l yX10_copy (.code yX10_copy prog_1_method_5_code 5 (some .int) :: lw_gd) rm_X_X10_copy__0 [.ref (a 0), .int x1, .int x2] (some (.int r)) t u := by
  refine fw_met (okX ca a) (by decide +kernel) rfl rfl (Nat.le_of_ble_eq_true rfl) ?_
  intro p e s m args below meth c A Q ls C hr hk hP hS hl hQ
  exact w_X_X10_copy__0_0 C (fun _ => fw_ri C hr hk hQ) hf hP hS (lv_sub hl [0, 1, 2] rfl)
/-! ReactiveSheet.Cells.kindOf(I)I ['x.engine.now'] -/
abbrev rm_X_X0_kindOf__4 : Room := { frames := 1, cells := 0, slots := 0, locals := 21 }
def b_X_X0_kindOf__4_18  (t : fw_S) (z0 : Int32) : Option (Int32 × fw_S) := some (z0, t)
def b_X_X0_kindOf__4_17  (t : fw_S)  : Option (Int32 × fw_S) := b_X_X0_kindOf__4_18 t ((0 : Int32))
def b_X_X0_kindOf__4_8  (t : fw_S) (x1 : Int32) : Option (Int32 × fw_S) := fb_g (¬ (x1 < 0 ∨ 32 ≤ x1.toNatClampNeg)) (b_X_X0_kindOf__4_18 t (st_F t 8 x1.toNatClampNeg))
def b_X_X0_kindOf__4_0  (t : fw_S) (x1 : Int32) : Option (Int32 × fw_S) := fb_b (f_X_X10_isCell t x1.toInt64) fun v_2 t_1 => (if v_2 = 0 then b_X_X0_kindOf__4_17 t_1 else b_X_X0_kindOf__4_8 t_1 x1)
def f_X_X0_kindOf__4 (t : fw_S) (x1 : Int32) : Option (Int32 × fw_S) := b_X_X0_kindOf__4_0 t x1
set_option maxRecDepth 20000 in
theorem w_X_X0_kindOf__4_18 {p : Program} {l : Launch} {e : Env} {s : State} {m : MethodId} {args : Array Value} {below : List Frame} {meth : Method} {c : Code} {A : Nat → Prop} {Q : State → Prop} {D : va_G} {ca : Nat → ClassId} {a : Nat → Nat} {u : fw_S} {r : Int32}  (C : CX (WX ca a) D (tyv ca) p s m args c A prog_2_method_10_code 2 RX0) (hr : True → RX (WX ca a) D p l e rm_X_X0_kindOf__4 s m args below meth c A prog_2_method_10_code Q .ireturn [.int r] u) {t : fw_S} {z0 : Int32} {H : Heap} {locs : List Loc} {ls : Array Slot} (hf : b_X_X0_kindOf__4_18  t z0 = some (r, u)) (hP : va_P D classes (WX ca a t) H) (hS : va_S A s.heap H locs) (hl : lv_has ls 2 []) : W p l e rm_X_X0_kindOf__4 s m args below meth c H locs 0 0 Q (F0 m 18 ls [.int z0]) := by
  obtain ⟨hx, hb, hml, hown, hts, hN, hK, hD, hA⟩ := id C
  have hf : (some (z0, t)) = some (r, u) := hf
  obtain ⟨e_18, e2_18⟩ := fb_e hf
  subst e_18; subst e2_18
  exact hr trivial _ _ _ _ hP hS dX0_kindOf_18
set_option maxRecDepth 20000 in
theorem w_X_X0_kindOf__4_17 {p : Program} {l : Launch} {e : Env} {s : State} {m : MethodId} {args : Array Value} {below : List Frame} {meth : Method} {c : Code} {A : Nat → Prop} {Q : State → Prop} {D : va_G} {ca : Nat → ClassId} {a : Nat → Nat} {u : fw_S} {r : Int32}  (C : CX (WX ca a) D (tyv ca) p s m args c A prog_2_method_10_code 2 RX0) (hr : True → RX (WX ca a) D p l e rm_X_X0_kindOf__4 s m args below meth c A prog_2_method_10_code Q .ireturn [.int r] u) {t : fw_S}  {H : Heap} {locs : List Loc} {ls : Array Slot} (hf : b_X_X0_kindOf__4_17  t  = some (r, u)) (hP : va_P D classes (WX ca a t) H) (hS : va_S A s.heap H locs) (hl : lv_has ls 2 []) : W p l e rm_X_X0_kindOf__4 s m args below meth c H locs 0 0 Q (F0 m 17 ls []) := by
  obtain ⟨hx, hb, hml, hown, hts, hN, hK, hD, hA⟩ := id C
  have hf : (b_X_X0_kindOf__4_18 t ((0 : Int32))) = some (r, u) := hf
  refine lv_iconst (v := 0) hx hb dX0_kindOf_17 (by decide) ?_
  exact w_X_X0_kindOf__4_18 C hr hf hP hS (lv_sub hl [] rfl)
set_option maxRecDepth 20000 in
theorem w_X_X0_kindOf__4_8 {p : Program} {l : Launch} {e : Env} {s : State} {m : MethodId} {args : Array Value} {below : List Frame} {meth : Method} {c : Code} {A : Nat → Prop} {Q : State → Prop} {D : va_G} {ca : Nat → ClassId} {a : Nat → Nat} {u : fw_S} {r : Int32}  (C : CX (WX ca a) D (tyv ca) p s m args c A prog_2_method_10_code 2 RX0) (hr : True → RX (WX ca a) D p l e rm_X_X0_kindOf__4 s m args below meth c A prog_2_method_10_code Q .ireturn [.int r] u) {t : fw_S} {x1 : Int32} {H : Heap} {locs : List Loc} {ls : Array Slot} (hf : b_X_X0_kindOf__4_8  t x1 = some (r, u)) (hP : va_P D classes (WX ca a t) H) (hS : va_S A s.heap H locs) (hl : lv_has ls 2 [(0, .ref (a 4)), (1, .int x1)]) : W p l e rm_X_X0_kindOf__4 s m args below meth c H locs 0 0 Q (F0 m 8 ls []) := by
  obtain ⟨hx, hb, hml, hown, hts, hN, hK, hD, hA⟩ := id C
  have hf : (fb_g (¬ (x1 < 0 ∨ 32 ≤ x1.toNatClampNeg)) (b_X_X0_kindOf__4_18 t (st_F t 8 x1.toNatClampNeg))) = some (r, u) := hf
  refine lv_aload_n hx hb dX0_kindOf_8 rfl (lv_at hl 0 rfl) ?_
  refine va_get (D := D) (ci := 0) (v := .ref (a 22)) (C := RX0) (T := TX0) (N := 12) hx hb hts inX0 hown hK hP 4 (heX_4 ca a t) rfl 0 (by decide) (hts _ kw_187) (fun _ h9 => h9) rfl dX0_kindOf_9 ?_
  refine lv_iload_n hx hb dX0_kindOf_12 rfl (lv_at hl 1 rfl) ?_
  obtain ⟨h_13, hf⟩ := fb_if hf
  refine va_iald hx hb hK hP 22 0 (haX_22 ca a t) rfl h_13 dX0_kindOf_13 ?_
  refine lv_goto (tgt := 18) hx hb dX0_kindOf_14 (by decide) ?_
  exact w_X_X0_kindOf__4_18 C hr hf hP hS (lv_sub hl [] rfl)
set_option maxRecDepth 20000 in
theorem w_X_X0_kindOf__4_0 {p : Program} {l : Launch} {e : Env} {s : State} {m : MethodId} {args : Array Value} {below : List Frame} {meth : Method} {c : Code} {A : Nat → Prop} {Q : State → Prop} {D : va_G} {ca : Nat → ClassId} {a : Nat → Nat} {u : fw_S} {r : Int32}  (C : CX (WX ca a) D (tyv ca) p s m args c A prog_2_method_10_code 2 RX0) (hr : True → RX (WX ca a) D p l e rm_X_X0_kindOf__4 s m args below meth c A prog_2_method_10_code Q .ireturn [.int r] u) {t : fw_S} {x1 : Int32} {H : Heap} {locs : List Loc} {ls : Array Slot} (hf : b_X_X0_kindOf__4_0  t x1 = some (r, u)) (hP : va_P D classes (WX ca a t) H) (hS : va_S A s.heap H locs) (hl : lv_has ls 2 [(0, .ref (a 4)), (1, .int x1)]) : W p l e rm_X_X0_kindOf__4 s m args below meth c H locs 0 0 Q (F0 m 0 ls []) := by
  obtain ⟨hx, hb, hml, hown, hts, hN, hK, hD, hA⟩ := id C
  have hf : (fb_b (f_X_X10_isCell t x1.toInt64) fun v_2 t_1 => (if v_2 = 0 then b_X_X0_kindOf__4_17 t_1 else b_X_X0_kindOf__4_8 t_1 x1)) = some (r, u) := hf
  refine lv_iload_n hx hb dX0_kindOf_0 rfl (lv_at hl 1 rfl) ?_
  refine lv_i2l hx hb dX0_kindOf_1 rfl ?_
  obtain ⟨v_2, t_1, g_2, hf⟩ := fb_bs hf
  refine fw_S2 (As := [.long x1.toInt64]) (rest := []) (n := 1) C (c_X_X10_isCell (l := l) (D := D) (ca := ca) (a := a) g_2) kw_429 kw_399 kw_92 kw_400 hP hS hl rfl rfl (by decide) (by decide +kernel) ⟨Nat.le_of_ble_eq_true rfl, Nat.le_of_ble_eq_true rfl⟩ rfl rfl (Nat.le_of_ble_eq_true rfl) dX0_kindOf_2 (fun H locs hP hS => ?_)
  refine W.eq (g2 := F0 m 5 ls [.int v_2]) rfl ?_
  refine lv_if_eq (tgt := 17) hx hb dX0_kindOf_5 (by decide) (fun h_5 => ?_) (fun h_5 => ?_)
  · have hf := fb_t h_5 hf
    exact w_X_X0_kindOf__4_17 C hr hf hP hS (lv_sub hl [] rfl)
  · have hf := fb_f h_5 hf
    exact w_X_X0_kindOf__4_8 C hr hf hP hS (lv_sub hl [0, 1] rfl)
set_option maxRecDepth 20000 in
theorem c_X_X0_kindOf__4 {l : Launch} {D : va_G} {ca : Nat → ClassId} {a : Nat → Nat} {t : fw_S} {x1 : Int32} {u : fw_S} {r : Int32} (hf : f_X_X0_kindOf__4 t x1 = some (r, u)) : MC (WX ca a) D (tyv ca) l yX0_kindOf (.code yX0_kindOf prog_2_method_10_code 2 (some .int) :: lw_gd) rm_X_X0_kindOf__4 [.ref (a 4), .int x1] (some (.int r)) t u := by
  refine fw_met (okX ca a) (by decide +kernel) rfl rfl (Nat.le_of_ble_eq_true rfl) ?_
  intro p e s m args below meth c A Q ls C hr hk hP hS hl hQ
  exact w_X_X0_kindOf__4_0 C (fun _ => fw_ri C hr hk hQ) hf hP hS (lv_sub hl [0, 1] rfl)
/-! ReactiveSheet.freeze(I)I ['x'] -/
abbrev rm_X_X10_freeze__0 : Room := { frames := 6, cells := 0, slots := 0, locals := 187 }
def b_X_X10_freeze__0_35  (t : fw_S)  : Option (Int32 × fw_S) := some ((-3 : Int32), t)
def b_X_X10_freeze__0_38  (t : fw_S) (x1 : Int32) : Option (Int32 × fw_S) := fb_b (f_X_X0_numberOf__4 t x1) fun v_2 t_1 => (fb_v (f_X_X7_put__6_N t_1 x1 ((1 : Int32)) v_2) fun t_3 => (fb_b (f_X_X10_surge__0 t_3) fun v_5 t_4 => (some (v_5, t_4))))
def b_X_X10_freeze__0_27  (t : fw_S) (x1 : Int32) : Option (Int32 × fw_S) := fb_b (f_X_X0_errorOf__4 t x1) fun v_2 t_1 => (if v_2 = 0 then b_X_X10_freeze__0_38 t_1 x1 else b_X_X10_freeze__0_35 t_1)
def b_X_X10_freeze__0_10  (t : fw_S) (x1 : Int32) : Option (Int32 × fw_S) := fb_v (f_X_X1_now__3 t) fun t_1 => (fb_b (f_X_X0_kindOf__4 t_1 x1) fun v_3 t_2 => (if v_3 = ((2 : Int32)) then b_X_X10_freeze__0_27 t_2 x1 else b_X_X10_freeze__0_35 t_2))
def b_X_X10_freeze__0_8  (t : fw_S)  : Option (Int32 × fw_S) := some ((-1 : Int32), t)
def b_X_X10_freeze__0_0  (t : fw_S) (x1 : Int32) : Option (Int32 × fw_S) := fb_b (f_X_X10_isCell t x1.toInt64) fun v_2 t_1 => (if v_2 = 0 then b_X_X10_freeze__0_8 t_1 else b_X_X10_freeze__0_10 t_1 x1)
def f_X_X10_freeze__0 (t : fw_S) (x1 : Int32) : Option (Int32 × fw_S) := b_X_X10_freeze__0_0 t x1
set_option maxRecDepth 20000 in
theorem w_X_X10_freeze__0_35 {p : Program} {l : Launch} {e : Env} {s : State} {m : MethodId} {args : Array Value} {below : List Frame} {meth : Method} {c : Code} {A : Nat → Prop} {Q : State → Prop} {D : va_G} {ca : Nat → ClassId} {a : Nat → Nat} {u : fw_S} {r : Int32}  (C : CX (WX ca a) D (tyv ca) p s m args c A prog_1_method_6_code 3 RX10) (hr : True → RX (WX ca a) D p l e rm_X_X10_freeze__0 s m args below meth c A prog_1_method_6_code Q .ireturn [.int r] u) {t : fw_S}  {H : Heap} {locs : List Loc} {ls : Array Slot} (hf : b_X_X10_freeze__0_35  t  = some (r, u)) (hP : va_P D classes (WX ca a t) H) (hS : va_S A s.heap H locs) (hl : lv_has ls 3 []) : W p l e rm_X_X10_freeze__0 s m args below meth c H locs 0 0 Q (F0 m 35 ls []) := by
  obtain ⟨hx, hb, hml, hown, hts, hN, hK, hD, hA⟩ := id C
  have hf : (some ((-3 : Int32), t)) = some (r, u) := hf
  refine lv_bipush (v := (-3)) hx hb dX10_freeze_35 (by decide) ?_
  obtain ⟨e_37, e2_37⟩ := fb_e hf
  subst e_37; subst e2_37
  exact hr trivial _ _ _ _ hP hS dX10_freeze_37
set_option maxRecDepth 20000 in
theorem w_X_X10_freeze__0_38 {p : Program} {l : Launch} {e : Env} {s : State} {m : MethodId} {args : Array Value} {below : List Frame} {meth : Method} {c : Code} {A : Nat → Prop} {Q : State → Prop} {D : va_G} {ca : Nat → ClassId} {a : Nat → Nat} {u : fw_S} {r : Int32}  (C : CX (WX ca a) D (tyv ca) p s m args c A prog_1_method_6_code 3 RX10) (hr : True → RX (WX ca a) D p l e rm_X_X10_freeze__0 s m args below meth c A prog_1_method_6_code Q .ireturn [.int r] u) {t : fw_S} {x1 : Int32} {H : Heap} {locs : List Loc} {ls : Array Slot} (hf : b_X_X10_freeze__0_38  t x1 = some (r, u)) (hP : va_P D classes (WX ca a t) H) (hS : va_S A s.heap H locs) (hl : lv_has ls 3 [(0, .ref (a 0)), (1, .int x1), (2, .ref (a 4))]) : W p l e rm_X_X10_freeze__0 s m args below meth c H locs 0 0 Q (F0 m 38 ls []) := by
  obtain ⟨hx, hb, hml, hown, hts, hN, hK, hD, hA⟩ := id C
  have hf : (fb_b (f_X_X0_numberOf__4 t x1) fun v_2 t_1 => (fb_v (f_X_X7_put__6_N t_1 x1 ((1 : Int32)) v_2) fun t_3 => (fb_b (f_X_X10_surge__0 t_3) fun v_5 t_4 => (some (v_5, t_4))))) = some (r, u) := hf
  refine lv_aload_n hx hb dX10_freeze_38 rfl (lv_at hl 0 rfl) ?_
  refine va_get (D := D) (ci := 10) (v := .ref (a 6)) (C := RX10) (T := TX10) (N := 13) hx hb hts inX10 hown hK hP 0 (heX_0 ca a t) rfl 3 (by decide) (hts _ kw_357) (fun _ h9 => h9) rfl dX10_freeze_39 ?_
  refine lv_iload_n hx hb dX10_freeze_42 rfl (lv_at hl 1 rfl) ?_
  refine lv_iconst (v := 1) hx hb dX10_freeze_43 (by decide) ?_
  refine lv_aload_n hx hb dX10_freeze_44 rfl (lv_at hl 2 rfl) ?_
  refine lv_iload_n hx hb dX10_freeze_45 rfl (lv_at hl 1 rfl) ?_
  obtain ⟨v_2, t_1, g_46, hf⟩ := fb_bs hf
  refine fw_V1 (As := [.int x1]) (rest := [.int ((1 : Int32)), .int x1, .ref (a 6)]) (n := 1) (q0 := 4) C (c_X_X0_numberOf__4 (l := l) (D := D) (ca := ca) (a := a) g_46) kw_819 kw_530 kw_96 kw_532 kw_531 hP hS hl (heX_4 ca a t) rfl rfl rfl (by decide) (by decide +kernel) ⟨Nat.le_of_ble_eq_true rfl, Nat.le_of_ble_eq_true rfl⟩ rfl rfl (Nat.le_of_ble_eq_true rfl) dX10_freeze_46 (fun H locs hP hS => ?_)
  refine W.eq (g2 := F0 m 49 ls [.long v_2, .int ((1 : Int32)), .int x1, .ref (a 6)]) rfl ?_
  refine lv_null hx hb dX10_freeze_49 ?_
  obtain ⟨t_3, g_50, hf⟩ := fb_vs hf
  refine fw_V1 (As := [.int x1, .int ((1 : Int32)), .long v_2, .null]) (rest := []) (n := 4) (q0 := 6) C (c_X_X7_put__6_N (l := l) (D := D) (ca := ca) (a := a) g_50) kw_402 kw_403 kw_97 kw_405 kw_404 hP hS hl (heX_6 ca a t_1) rfl rfl rfl (by decide) (by decide +kernel) ⟨Nat.le_of_ble_eq_true rfl, Nat.le_of_ble_eq_true rfl⟩ rfl rfl (Nat.le_of_ble_eq_true rfl) dX10_freeze_50 (fun H locs hP hS => ?_)
  refine W.eq (g2 := F0 m 53 ls []) rfl ?_
  refine lv_aload_n hx hb dX10_freeze_53 rfl (lv_at hl 0 rfl) ?_
  obtain ⟨v_5, t_4, g_54, hf⟩ := fb_bs hf
  refine fw_V1 (As := []) (rest := []) (n := 0) (q0 := 0) C (c_X_X10_surge__0 (l := l) (D := D) (ca := ca) (a := a) g_54) kw_410 kw_412 kw_92 kw_413 kw_0 hP hS hl (heX_0 ca a t_3) rfl rfl rfl (by decide) (by decide +kernel) ⟨Nat.le_of_ble_eq_true rfl, Nat.le_of_ble_eq_true rfl⟩ rfl rfl (Nat.le_of_ble_eq_true rfl) dX10_freeze_54 (fun H locs hP hS => ?_)
  refine W.eq (g2 := F0 m 57 ls [.int v_5]) rfl ?_
  obtain ⟨e_57, e2_57⟩ := fb_e hf
  subst e_57; subst e2_57
  exact hr trivial _ _ _ _ hP hS dX10_freeze_57
set_option maxRecDepth 20000 in
theorem w_X_X10_freeze__0_27 {p : Program} {l : Launch} {e : Env} {s : State} {m : MethodId} {args : Array Value} {below : List Frame} {meth : Method} {c : Code} {A : Nat → Prop} {Q : State → Prop} {D : va_G} {ca : Nat → ClassId} {a : Nat → Nat} {u : fw_S} {r : Int32}  (C : CX (WX ca a) D (tyv ca) p s m args c A prog_1_method_6_code 3 RX10) (hr : True → RX (WX ca a) D p l e rm_X_X10_freeze__0 s m args below meth c A prog_1_method_6_code Q .ireturn [.int r] u) {t : fw_S} {x1 : Int32} {H : Heap} {locs : List Loc} {ls : Array Slot} (hf : b_X_X10_freeze__0_27  t x1 = some (r, u)) (hP : va_P D classes (WX ca a t) H) (hS : va_S A s.heap H locs) (hl : lv_has ls 3 [(0, .ref (a 0)), (1, .int x1), (2, .ref (a 4))]) : W p l e rm_X_X10_freeze__0 s m args below meth c H locs 0 0 Q (F0 m 27 ls []) := by
  obtain ⟨hx, hb, hml, hown, hts, hN, hK, hD, hA⟩ := id C
  have hf : (fb_b (f_X_X0_errorOf__4 t x1) fun v_2 t_1 => (if v_2 = 0 then b_X_X10_freeze__0_38 t_1 x1 else b_X_X10_freeze__0_35 t_1)) = some (r, u) := hf
  refine lv_aload_n hx hb dX10_freeze_27 rfl (lv_at hl 2 rfl) ?_
  refine lv_iload_n hx hb dX10_freeze_28 rfl (lv_at hl 1 rfl) ?_
  obtain ⟨v_2, t_1, g_29, hf⟩ := fb_bs hf
  refine fw_V1 (As := [.int x1]) (rest := []) (n := 1) (q0 := 4) C (c_X_X0_errorOf__4 (l := l) (D := D) (ca := ca) (a := a) g_29) kw_818 kw_534 kw_96 kw_536 kw_535 hP hS hl (heX_4 ca a t) rfl rfl rfl (by decide) (by decide +kernel) ⟨Nat.le_of_ble_eq_true rfl, Nat.le_of_ble_eq_true rfl⟩ rfl rfl (Nat.le_of_ble_eq_true rfl) dX10_freeze_29 (fun H locs hP hS => ?_)
  refine W.eq (g2 := F0 m 32 ls [.int v_2]) rfl ?_
  refine lv_if_eq (tgt := 38) hx hb dX10_freeze_32 (by decide) (fun h_32 => ?_) (fun h_32 => ?_)
  · have hf := fb_t h_32 hf
    exact w_X_X10_freeze__0_38 C hr hf hP hS (lv_sub hl [0, 1, 2] rfl)
  · have hf := fb_f h_32 hf
    exact w_X_X10_freeze__0_35 C hr hf hP hS (lv_sub hl [] rfl)
set_option maxRecDepth 20000 in
theorem w_X_X10_freeze__0_10 {p : Program} {l : Launch} {e : Env} {s : State} {m : MethodId} {args : Array Value} {below : List Frame} {meth : Method} {c : Code} {A : Nat → Prop} {Q : State → Prop} {D : va_G} {ca : Nat → ClassId} {a : Nat → Nat} {u : fw_S} {r : Int32}  (C : CX (WX ca a) D (tyv ca) p s m args c A prog_1_method_6_code 3 RX10) (hr : True → RX (WX ca a) D p l e rm_X_X10_freeze__0 s m args below meth c A prog_1_method_6_code Q .ireturn [.int r] u) {t : fw_S} {x1 : Int32} {H : Heap} {locs : List Loc} {ls : Array Slot} (hf : b_X_X10_freeze__0_10  t x1 = some (r, u)) (hP : va_P D classes (WX ca a t) H) (hS : va_S A s.heap H locs) (hl : lv_has ls 3 [(0, .ref (a 0)), (1, .int x1)]) : W p l e rm_X_X10_freeze__0 s m args below meth c H locs 0 0 Q (F0 m 10 ls []) := by
  obtain ⟨hx, hb, hml, hown, hts, hN, hK, hD, hA⟩ := id C
  have hf : (fb_v (f_X_X1_now__3 t) fun t_1 => (fb_b (f_X_X0_kindOf__4 t_1 x1) fun v_3 t_2 => (if v_3 = ((2 : Int32)) then b_X_X10_freeze__0_27 t_2 x1 else b_X_X10_freeze__0_35 t_2))) = some (r, u) := hf
  refine lv_aload_n hx hb dX10_freeze_10 rfl (lv_at hl 0 rfl) ?_
  refine va_get (D := D) (ci := 10) (v := .ref (a 3)) (C := RX10) (T := TX10) (N := 13) hx hb hts inX10 hown hK hP 0 (heX_0 ca a t) rfl 2 (by decide) (hts _ kw_356) (fun _ h9 => h9) rfl dX10_freeze_11 ?_
  obtain ⟨t_1, g_14, hf⟩ := fb_vs hf
  refine fw_V1 (As := []) (rest := []) (n := 0) (q0 := 3) C (c_X_X1_now__3 (l := l) (D := D) (ca := ca) (a := a) g_14) kw_626 kw_627 kw_95 kw_629 kw_628 hP hS hl (heX_3 ca a t) rfl rfl rfl (by decide) (by decide +kernel) ⟨Nat.le_of_ble_eq_true rfl, Nat.le_of_ble_eq_true rfl⟩ rfl rfl (Nat.le_of_ble_eq_true rfl) dX10_freeze_14 (fun H locs hP hS => ?_)
  refine W.eq (g2 := F0 m 17 ls [.ref (a 4)]) rfl ?_
  refine lv_astore_n (lv' := [(2, .ref (a 4)), (0, .ref (a 0)), (1, .int x1)]) hx hb dX10_freeze_17 rfl hl (by decide) rfl (fun ls hl => ?_)
  refine lv_aload_n hx hb dX10_freeze_18 rfl (lv_at hl 0 rfl) ?_
  refine lv_iload_n hx hb dX10_freeze_19 rfl (lv_at hl 2 rfl) ?_
  obtain ⟨v_3, t_2, g_20, hf⟩ := fb_bs hf
  refine fw_V1 (As := [.int x1]) (rest := []) (n := 1) (q0 := 4) C (c_X_X0_kindOf__4 (l := l) (D := D) (ca := ca) (a := a) g_20) kw_814 kw_815 kw_96 kw_817 kw_816 hP hS hl (heX_4 ca a t_1) rfl rfl rfl (by decide) (by decide +kernel) ⟨Nat.le_of_ble_eq_true rfl, Nat.le_of_ble_eq_true rfl⟩ rfl rfl (Nat.le_of_ble_eq_true rfl) dX10_freeze_20 (fun H locs hP hS => ?_)
  refine W.eq (g2 := F0 m 23 ls [.int v_3]) rfl ?_
  refine lv_iconst (v := 2) hx hb dX10_freeze_23 (by decide) ?_
  refine lv_icmp_ne (tgt := 35) hx hb dX10_freeze_24 (by decide) (fun h_24 => ?_) (fun h_24 => ?_)
  · have hf := fb_f h_24 hf
    exact w_X_X10_freeze__0_35 C hr hf hP hS (lv_sub hl [] rfl)
  · have hf := fb_t h_24 hf
    exact w_X_X10_freeze__0_27 C hr hf hP hS (lv_sub hl [1, 2, 0] rfl)
set_option maxRecDepth 20000 in
theorem w_X_X10_freeze__0_8 {p : Program} {l : Launch} {e : Env} {s : State} {m : MethodId} {args : Array Value} {below : List Frame} {meth : Method} {c : Code} {A : Nat → Prop} {Q : State → Prop} {D : va_G} {ca : Nat → ClassId} {a : Nat → Nat} {u : fw_S} {r : Int32}  (C : CX (WX ca a) D (tyv ca) p s m args c A prog_1_method_6_code 3 RX10) (hr : True → RX (WX ca a) D p l e rm_X_X10_freeze__0 s m args below meth c A prog_1_method_6_code Q .ireturn [.int r] u) {t : fw_S}  {H : Heap} {locs : List Loc} {ls : Array Slot} (hf : b_X_X10_freeze__0_8  t  = some (r, u)) (hP : va_P D classes (WX ca a t) H) (hS : va_S A s.heap H locs) (hl : lv_has ls 3 []) : W p l e rm_X_X10_freeze__0 s m args below meth c H locs 0 0 Q (F0 m 8 ls []) := by
  obtain ⟨hx, hb, hml, hown, hts, hN, hK, hD, hA⟩ := id C
  have hf : (some ((-1 : Int32), t)) = some (r, u) := hf
  refine lv_iconst (v := (-1)) hx hb dX10_freeze_8 (by decide) ?_
  obtain ⟨e_9, e2_9⟩ := fb_e hf
  subst e_9; subst e2_9
  exact hr trivial _ _ _ _ hP hS dX10_freeze_9
set_option maxRecDepth 20000 in
theorem w_X_X10_freeze__0_0 {p : Program} {l : Launch} {e : Env} {s : State} {m : MethodId} {args : Array Value} {below : List Frame} {meth : Method} {c : Code} {A : Nat → Prop} {Q : State → Prop} {D : va_G} {ca : Nat → ClassId} {a : Nat → Nat} {u : fw_S} {r : Int32}  (C : CX (WX ca a) D (tyv ca) p s m args c A prog_1_method_6_code 3 RX10) (hr : True → RX (WX ca a) D p l e rm_X_X10_freeze__0 s m args below meth c A prog_1_method_6_code Q .ireturn [.int r] u) {t : fw_S} {x1 : Int32} {H : Heap} {locs : List Loc} {ls : Array Slot} (hf : b_X_X10_freeze__0_0  t x1 = some (r, u)) (hP : va_P D classes (WX ca a t) H) (hS : va_S A s.heap H locs) (hl : lv_has ls 3 [(0, .ref (a 0)), (1, .int x1)]) : W p l e rm_X_X10_freeze__0 s m args below meth c H locs 0 0 Q (F0 m 0 ls []) := by
  obtain ⟨hx, hb, hml, hown, hts, hN, hK, hD, hA⟩ := id C
  have hf : (fb_b (f_X_X10_isCell t x1.toInt64) fun v_2 t_1 => (if v_2 = 0 then b_X_X10_freeze__0_8 t_1 else b_X_X10_freeze__0_10 t_1 x1)) = some (r, u) := hf
  refine lv_iload_n hx hb dX10_freeze_0 rfl (lv_at hl 1 rfl) ?_
  refine lv_i2l hx hb dX10_freeze_1 rfl ?_
  obtain ⟨v_2, t_1, g_2, hf⟩ := fb_bs hf
  refine fw_S1 (As := [.long x1.toInt64]) (rest := []) (n := 1) C (c_X_X10_isCell (l := l) (D := D) (ca := ca) (a := a) g_2) kw_398 kw_399 kw_92 kw_400 hP hS hl rfl rfl (by decide) (by decide +kernel) ⟨Nat.le_of_ble_eq_true rfl, Nat.le_of_ble_eq_true rfl⟩ rfl rfl (Nat.le_of_ble_eq_true rfl) dX10_freeze_2 (fun H locs hP hS => ?_)
  refine W.eq (g2 := F0 m 5 ls [.int v_2]) rfl ?_
  refine lv_if_ne (tgt := 10) hx hb dX10_freeze_5 (by decide) (fun h_5 => ?_) (fun h_5 => ?_)
  · have hf := fb_f h_5 hf
    exact w_X_X10_freeze__0_10 C hr hf hP hS (lv_sub hl [0, 1] rfl)
  · have hf := fb_t h_5 hf
    exact w_X_X10_freeze__0_8 C hr hf hP hS (lv_sub hl [] rfl)
set_option maxRecDepth 20000 in
theorem c_X_X10_freeze__0 {l : Launch} {D : va_G} {ca : Nat → ClassId} {a : Nat → Nat} {t : fw_S} {x1 : Int32} {u : fw_S} {r : Int32} (hf : f_X_X10_freeze__0 t x1 = some (r, u)) : MC (WX ca a) D (tyv ca) l yX10_freeze (.code yX10_freeze prog_1_method_6_code 3 (some .int) :: lw_gd) rm_X_X10_freeze__0 [.ref (a 0), .int x1] (some (.int r)) t u := by
  refine fw_met (okX ca a) (by decide +kernel) rfl rfl (Nat.le_of_ble_eq_true rfl) ?_
  intro p e s m args below meth c A Q ls C hr hk hP hS hl hQ
  exact w_X_X10_freeze__0_0 C (fun _ => fw_ri C hr hk hQ) hf hP hS (lv_sub hl [0, 1] rfl)
/-! ReactiveSheet.begin()I ['x'] -/
abbrev rm_X_X10_begin__0 : Room := { frames := 0, cells := 0, slots := 0, locals := 0 }
def b_X_X10_begin__0_10  (t : fw_S)  : Option (Int32 × fw_S) := fb_g (((1 : Int32)) = 0 ∨ ((1 : Int32)) = 1) (fb_l (up_I t 0 ((1 : Int32))) fun t_1 => (some ((1 : Int32), t_1)))
def b_X_X10_begin__0_7  (t : fw_S)  : Option (Int32 × fw_S) := some ((-3 : Int32), t)
def b_X_X10_begin__0_0  (t : fw_S)  : Option (Int32 × fw_S) := if (st_I t 0) = 0 then b_X_X10_begin__0_10 t else b_X_X10_begin__0_7 t
def f_X_X10_begin__0 (t : fw_S)  : Option (Int32 × fw_S) := b_X_X10_begin__0_0 t 
set_option maxRecDepth 20000 in
theorem w_X_X10_begin__0_10 {p : Program} {l : Launch} {e : Env} {s : State} {m : MethodId} {args : Array Value} {below : List Frame} {meth : Method} {c : Code} {A : Nat → Prop} {Q : State → Prop} {D : va_G} {ca : Nat → ClassId} {a : Nat → Nat} {u : fw_S} {r : Int32}  (C : CX (WX ca a) D (tyv ca) p s m args c A prog_1_method_7_code 1 RX10) (hr : True → RX (WX ca a) D p l e rm_X_X10_begin__0 s m args below meth c A prog_1_method_7_code Q .ireturn [.int r] u) {t : fw_S}  {H : Heap} {locs : List Loc} {ls : Array Slot} (hf : b_X_X10_begin__0_10  t  = some (r, u)) (hP : va_P D classes (WX ca a t) H) (hS : va_S A s.heap H locs) (hl : lv_has ls 1 [(0, .ref (a 0))]) : W p l e rm_X_X10_begin__0 s m args below meth c H locs 0 0 Q (F0 m 10 ls []) := by
  obtain ⟨hx, hb, hml, hown, hts, hN, hK, hD, hA⟩ := id C
  have hf : (fb_g (((1 : Int32)) = 0 ∨ ((1 : Int32)) = 1) (fb_l (up_I t 0 ((1 : Int32))) fun t_1 => (some ((1 : Int32), t_1)))) = some (r, u) := hf
  refine lv_aload_n hx hb dX10_begin_10 rfl (lv_at hl 0 rfl) ?_
  refine lv_iconst (v := 1) hx hb dX10_begin_11 (by decide) ?_
  obtain ⟨h_12, hf⟩ := fb_if hf
  refine va_put (D := D) (ci := 10) (v := .int ((1 : Int32))) (ty := .boolean) (C := RX10) (T := TX10) (N := 13) hx hb hts inX10 tyX10 tyX10_ok nmX10 hown hK hP (hD t) hS 0 (heX_0 ca a t) rfl 11 (by decide) (hts _ kw_365) (fun _ h9 => h9) rfl (by decide +kernel) (fb_z h_12).1 (fb_z h_12).2 (Nat.le_of_ble_eq_true rfl) dX10_begin_12 (fun H locs hP _ hS => ?_)
  rw [suX_0_11] at hP
  obtain ⟨t_1, e_12, hf⟩ := fb_ls hf
  rw [← e_12] at hP
  refine lv_iconst (v := 1) hx hb dX10_begin_15 (by decide) ?_
  obtain ⟨e_16, e2_16⟩ := fb_e hf
  subst e_16; subst e2_16
  exact hr trivial _ _ _ _ hP hS dX10_begin_16
set_option maxRecDepth 20000 in
theorem w_X_X10_begin__0_7 {p : Program} {l : Launch} {e : Env} {s : State} {m : MethodId} {args : Array Value} {below : List Frame} {meth : Method} {c : Code} {A : Nat → Prop} {Q : State → Prop} {D : va_G} {ca : Nat → ClassId} {a : Nat → Nat} {u : fw_S} {r : Int32}  (C : CX (WX ca a) D (tyv ca) p s m args c A prog_1_method_7_code 1 RX10) (hr : True → RX (WX ca a) D p l e rm_X_X10_begin__0 s m args below meth c A prog_1_method_7_code Q .ireturn [.int r] u) {t : fw_S}  {H : Heap} {locs : List Loc} {ls : Array Slot} (hf : b_X_X10_begin__0_7  t  = some (r, u)) (hP : va_P D classes (WX ca a t) H) (hS : va_S A s.heap H locs) (hl : lv_has ls 1 []) : W p l e rm_X_X10_begin__0 s m args below meth c H locs 0 0 Q (F0 m 7 ls []) := by
  obtain ⟨hx, hb, hml, hown, hts, hN, hK, hD, hA⟩ := id C
  have hf : (some ((-3 : Int32), t)) = some (r, u) := hf
  refine lv_bipush (v := (-3)) hx hb dX10_begin_7 (by decide) ?_
  obtain ⟨e_9, e2_9⟩ := fb_e hf
  subst e_9; subst e2_9
  exact hr trivial _ _ _ _ hP hS dX10_begin_9
set_option maxRecDepth 20000 in
theorem w_X_X10_begin__0_0 {p : Program} {l : Launch} {e : Env} {s : State} {m : MethodId} {args : Array Value} {below : List Frame} {meth : Method} {c : Code} {A : Nat → Prop} {Q : State → Prop} {D : va_G} {ca : Nat → ClassId} {a : Nat → Nat} {u : fw_S} {r : Int32}  (C : CX (WX ca a) D (tyv ca) p s m args c A prog_1_method_7_code 1 RX10) (hr : True → RX (WX ca a) D p l e rm_X_X10_begin__0 s m args below meth c A prog_1_method_7_code Q .ireturn [.int r] u) {t : fw_S}  {H : Heap} {locs : List Loc} {ls : Array Slot} (hf : b_X_X10_begin__0_0  t  = some (r, u)) (hP : va_P D classes (WX ca a t) H) (hS : va_S A s.heap H locs) (hl : lv_has ls 1 [(0, .ref (a 0))]) : W p l e rm_X_X10_begin__0 s m args below meth c H locs 0 0 Q (F0 m 0 ls []) := by
  obtain ⟨hx, hb, hml, hown, hts, hN, hK, hD, hA⟩ := id C
  have hf : (if (st_I t 0) = 0 then b_X_X10_begin__0_10 t else b_X_X10_begin__0_7 t) = some (r, u) := hf
  refine lv_aload_n hx hb dX10_begin_0 rfl (lv_at hl 0 rfl) ?_
  refine va_get (D := D) (ci := 10) (v := .int (st_I t 0)) (C := RX10) (T := TX10) (N := 13) hx hb hts inX10 hown hK hP 0 (heX_0 ca a t) rfl 11 (by decide) (hts _ kw_365) (fun _ h9 => h9) rfl dX10_begin_1 ?_
  refine lv_if_eq (tgt := 10) hx hb dX10_begin_4 (by decide) (fun h_4 => ?_) (fun h_4 => ?_)
  · have hf := fb_t h_4 hf
    exact w_X_X10_begin__0_10 C hr hf hP hS (lv_sub hl [0] rfl)
  · have hf := fb_f h_4 hf
    exact w_X_X10_begin__0_7 C hr hf hP hS (lv_sub hl [] rfl)
set_option maxRecDepth 20000 in
theorem c_X_X10_begin__0 {l : Launch} {D : va_G} {ca : Nat → ClassId} {a : Nat → Nat} {t : fw_S}  {u : fw_S} {r : Int32} (hf : f_X_X10_begin__0 t  = some (r, u)) : MC (WX ca a) D (tyv ca) l yX10_begin (.code yX10_begin prog_1_method_7_code 1 (some .int) :: lw_gd) rm_X_X10_begin__0 [.ref (a 0)] (some (.int r)) t u := by
  refine fw_met (okX ca a) (by decide +kernel) rfl rfl (Nat.le_of_ble_eq_true rfl) ?_
  intro p e s m args below meth c A Q ls C hr hk hP hS hl hQ
  exact w_X_X10_begin__0_0 C (fun _ => fw_ri C hr hk hQ) hf hP hS (lv_sub hl [0] rfl)
/-! ReactiveSheet.end()I ['x'] -/
abbrev rm_X_X10_end__0 : Room := { frames := 6, cells := 0, slots := 0, locals := 187 }
def b_X_X10_end__0_10  (t : fw_S)  : Option (Int32 × fw_S) := fb_g (((0 : Int32)) = 0 ∨ ((0 : Int32)) = 1) (fb_l (up_I t 0 ((0 : Int32))) fun t_1 => (fb_b (f_X_X10_surge__0 t_1) fun v_3 t_2 => (some (v_3, t_2))))
def b_X_X10_end__0_7  (t : fw_S)  : Option (Int32 × fw_S) := some ((-3 : Int32), t)
def b_X_X10_end__0_0  (t : fw_S)  : Option (Int32 × fw_S) := if (st_I t 0) = 0 then b_X_X10_end__0_7 t else b_X_X10_end__0_10 t
def f_X_X10_end__0 (t : fw_S)  : Option (Int32 × fw_S) := b_X_X10_end__0_0 t 
set_option maxRecDepth 20000 in
theorem w_X_X10_end__0_10 {p : Program} {l : Launch} {e : Env} {s : State} {m : MethodId} {args : Array Value} {below : List Frame} {meth : Method} {c : Code} {A : Nat → Prop} {Q : State → Prop} {D : va_G} {ca : Nat → ClassId} {a : Nat → Nat} {u : fw_S} {r : Int32}  (C : CX (WX ca a) D (tyv ca) p s m args c A prog_1_method_8_code 1 RX10) (hr : True → RX (WX ca a) D p l e rm_X_X10_end__0 s m args below meth c A prog_1_method_8_code Q .ireturn [.int r] u) {t : fw_S}  {H : Heap} {locs : List Loc} {ls : Array Slot} (hf : b_X_X10_end__0_10  t  = some (r, u)) (hP : va_P D classes (WX ca a t) H) (hS : va_S A s.heap H locs) (hl : lv_has ls 1 [(0, .ref (a 0))]) : W p l e rm_X_X10_end__0 s m args below meth c H locs 0 0 Q (F0 m 10 ls []) := by
  obtain ⟨hx, hb, hml, hown, hts, hN, hK, hD, hA⟩ := id C
  have hf : (fb_g (((0 : Int32)) = 0 ∨ ((0 : Int32)) = 1) (fb_l (up_I t 0 ((0 : Int32))) fun t_1 => (fb_b (f_X_X10_surge__0 t_1) fun v_3 t_2 => (some (v_3, t_2))))) = some (r, u) := hf
  refine lv_aload_n hx hb dX10_end_10 rfl (lv_at hl 0 rfl) ?_
  refine lv_iconst (v := 0) hx hb dX10_end_11 (by decide) ?_
  obtain ⟨h_12, hf⟩ := fb_if hf
  refine va_put (D := D) (ci := 10) (v := .int ((0 : Int32))) (ty := .boolean) (C := RX10) (T := TX10) (N := 13) hx hb hts inX10 tyX10 tyX10_ok nmX10 hown hK hP (hD t) hS 0 (heX_0 ca a t) rfl 11 (by decide) (hts _ kw_365) (fun _ h9 => h9) rfl (by decide +kernel) (fb_z h_12).1 (fb_z h_12).2 (Nat.le_of_ble_eq_true rfl) dX10_end_12 (fun H locs hP _ hS => ?_)
  rw [suX_0_11] at hP
  obtain ⟨t_1, e_12, hf⟩ := fb_ls hf
  rw [← e_12] at hP
  refine lv_aload_n hx hb dX10_end_15 rfl (lv_at hl 0 rfl) ?_
  obtain ⟨v_3, t_2, g_16, hf⟩ := fb_bs hf
  refine fw_V1 (As := []) (rest := []) (n := 0) (q0 := 0) C (c_X_X10_surge__0 (l := l) (D := D) (ca := ca) (a := a) g_16) kw_410 kw_412 kw_92 kw_413 kw_0 hP hS hl (heX_0 ca a t_1) rfl rfl rfl (by decide) (by decide +kernel) ⟨Nat.le_of_ble_eq_true rfl, Nat.le_of_ble_eq_true rfl⟩ rfl rfl (Nat.le_of_ble_eq_true rfl) dX10_end_16 (fun H locs hP hS => ?_)
  refine W.eq (g2 := F0 m 19 ls [.int v_3]) rfl ?_
  obtain ⟨e_19, e2_19⟩ := fb_e hf
  subst e_19; subst e2_19
  exact hr trivial _ _ _ _ hP hS dX10_end_19
set_option maxRecDepth 20000 in
theorem w_X_X10_end__0_7 {p : Program} {l : Launch} {e : Env} {s : State} {m : MethodId} {args : Array Value} {below : List Frame} {meth : Method} {c : Code} {A : Nat → Prop} {Q : State → Prop} {D : va_G} {ca : Nat → ClassId} {a : Nat → Nat} {u : fw_S} {r : Int32}  (C : CX (WX ca a) D (tyv ca) p s m args c A prog_1_method_8_code 1 RX10) (hr : True → RX (WX ca a) D p l e rm_X_X10_end__0 s m args below meth c A prog_1_method_8_code Q .ireturn [.int r] u) {t : fw_S}  {H : Heap} {locs : List Loc} {ls : Array Slot} (hf : b_X_X10_end__0_7  t  = some (r, u)) (hP : va_P D classes (WX ca a t) H) (hS : va_S A s.heap H locs) (hl : lv_has ls 1 []) : W p l e rm_X_X10_end__0 s m args below meth c H locs 0 0 Q (F0 m 7 ls []) := by
  obtain ⟨hx, hb, hml, hown, hts, hN, hK, hD, hA⟩ := id C
  have hf : (some ((-3 : Int32), t)) = some (r, u) := hf
  refine lv_bipush (v := (-3)) hx hb dX10_end_7 (by decide) ?_
  obtain ⟨e_9, e2_9⟩ := fb_e hf
  subst e_9; subst e2_9
  exact hr trivial _ _ _ _ hP hS dX10_end_9
set_option maxRecDepth 20000 in
theorem w_X_X10_end__0_0 {p : Program} {l : Launch} {e : Env} {s : State} {m : MethodId} {args : Array Value} {below : List Frame} {meth : Method} {c : Code} {A : Nat → Prop} {Q : State → Prop} {D : va_G} {ca : Nat → ClassId} {a : Nat → Nat} {u : fw_S} {r : Int32}  (C : CX (WX ca a) D (tyv ca) p s m args c A prog_1_method_8_code 1 RX10) (hr : True → RX (WX ca a) D p l e rm_X_X10_end__0 s m args below meth c A prog_1_method_8_code Q .ireturn [.int r] u) {t : fw_S}  {H : Heap} {locs : List Loc} {ls : Array Slot} (hf : b_X_X10_end__0_0  t  = some (r, u)) (hP : va_P D classes (WX ca a t) H) (hS : va_S A s.heap H locs) (hl : lv_has ls 1 [(0, .ref (a 0))]) : W p l e rm_X_X10_end__0 s m args below meth c H locs 0 0 Q (F0 m 0 ls []) := by
  obtain ⟨hx, hb, hml, hown, hts, hN, hK, hD, hA⟩ := id C
  have hf : (if (st_I t 0) = 0 then b_X_X10_end__0_7 t else b_X_X10_end__0_10 t) = some (r, u) := hf
  refine lv_aload_n hx hb dX10_end_0 rfl (lv_at hl 0 rfl) ?_
  refine va_get (D := D) (ci := 10) (v := .int (st_I t 0)) (C := RX10) (T := TX10) (N := 13) hx hb hts inX10 hown hK hP 0 (heX_0 ca a t) rfl 11 (by decide) (hts _ kw_365) (fun _ h9 => h9) rfl dX10_end_1 ?_
  refine lv_if_ne (tgt := 10) hx hb dX10_end_4 (by decide) (fun h_4 => ?_) (fun h_4 => ?_)
  · have hf := fb_f h_4 hf
    exact w_X_X10_end__0_10 C hr hf hP hS (lv_sub hl [0] rfl)
  · have hf := fb_t h_4 hf
    exact w_X_X10_end__0_7 C hr hf hP hS (lv_sub hl [] rfl)
set_option maxRecDepth 20000 in
theorem c_X_X10_end__0 {l : Launch} {D : va_G} {ca : Nat → ClassId} {a : Nat → Nat} {t : fw_S}  {u : fw_S} {r : Int32} (hf : f_X_X10_end__0 t  = some (r, u)) : MC (WX ca a) D (tyv ca) l yX10_end (.code yX10_end prog_1_method_8_code 1 (some .int) :: lw_gd) rm_X_X10_end__0 [.ref (a 0)] (some (.int r)) t u := by
  refine fw_met (okX ca a) (by decide +kernel) rfl rfl (Nat.le_of_ble_eq_true rfl) ?_
  intro p e s m args below meth c A Q ls C hr hk hP hS hl hQ
  exact w_X_X10_end__0_0 C (fun _ => fw_ri C hr hk hQ) hf hP hS (lv_sub hl [0] rfl)
/-! ReactiveSheet.cancel()I ['x'] -/
abbrev rm_X_X10_cancel__0 : Room := { frames := 2, cells := 0, slots := 0, locals := 41 }
def b_X_X10_cancel__0_10  (t : fw_S)  : Option (Int32 × fw_S) := fb_g (((0 : Int32)) = 0 ∨ ((0 : Int32)) = 1) (fb_l (up_I t 0 ((0 : Int32))) fun t_1 => (fb_b (f_X_X7_count__6 t_1) fun v_3 t_2 => (fb_v (f_X_X7_forget__6 t_2) fun t_4 => (some (v_3, t_4)))))
def b_X_X10_cancel__0_7  (t : fw_S)  : Option (Int32 × fw_S) := some ((-3 : Int32), t)
def b_X_X10_cancel__0_0  (t : fw_S)  : Option (Int32 × fw_S) := if (st_I t 0) = 0 then b_X_X10_cancel__0_7 t else b_X_X10_cancel__0_10 t
def f_X_X10_cancel__0 (t : fw_S)  : Option (Int32 × fw_S) := b_X_X10_cancel__0_0 t 
set_option maxRecDepth 20000 in
theorem w_X_X10_cancel__0_10 {p : Program} {l : Launch} {e : Env} {s : State} {m : MethodId} {args : Array Value} {below : List Frame} {meth : Method} {c : Code} {A : Nat → Prop} {Q : State → Prop} {D : va_G} {ca : Nat → ClassId} {a : Nat → Nat} {u : fw_S} {r : Int32}  (C : CX (WX ca a) D (tyv ca) p s m args c A prog_1_method_9_code 2 RX10) (hr : True → RX (WX ca a) D p l e rm_X_X10_cancel__0 s m args below meth c A prog_1_method_9_code Q .ireturn [.int r] u) {t : fw_S}  {H : Heap} {locs : List Loc} {ls : Array Slot} (hf : b_X_X10_cancel__0_10  t  = some (r, u)) (hP : va_P D classes (WX ca a t) H) (hS : va_S A s.heap H locs) (hl : lv_has ls 2 [(0, .ref (a 0))]) : W p l e rm_X_X10_cancel__0 s m args below meth c H locs 0 0 Q (F0 m 10 ls []) := by
  obtain ⟨hx, hb, hml, hown, hts, hN, hK, hD, hA⟩ := id C
  have hf : (fb_g (((0 : Int32)) = 0 ∨ ((0 : Int32)) = 1) (fb_l (up_I t 0 ((0 : Int32))) fun t_1 => (fb_b (f_X_X7_count__6 t_1) fun v_3 t_2 => (fb_v (f_X_X7_forget__6 t_2) fun t_4 => (some (v_3, t_4)))))) = some (r, u) := hf
  refine lv_aload_n hx hb dX10_cancel_10 rfl (lv_at hl 0 rfl) ?_
  refine lv_iconst (v := 0) hx hb dX10_cancel_11 (by decide) ?_
  obtain ⟨h_12, hf⟩ := fb_if hf
  refine va_put (D := D) (ci := 10) (v := .int ((0 : Int32))) (ty := .boolean) (C := RX10) (T := TX10) (N := 13) hx hb hts inX10 tyX10 tyX10_ok nmX10 hown hK hP (hD t) hS 0 (heX_0 ca a t) rfl 11 (by decide) (hts _ kw_365) (fun _ h9 => h9) rfl (by decide +kernel) (fb_z h_12).1 (fb_z h_12).2 (Nat.le_of_ble_eq_true rfl) dX10_cancel_12 (fun H locs hP _ hS => ?_)
  rw [suX_0_11] at hP
  obtain ⟨t_1, e_12, hf⟩ := fb_ls hf
  rw [← e_12] at hP
  refine lv_aload_n hx hb dX10_cancel_15 rfl (lv_at hl 0 rfl) ?_
  refine va_get (D := D) (ci := 10) (v := .ref (a 6)) (C := RX10) (T := TX10) (N := 13) hx hb hts inX10 hown hK hP 0 (heX_0 ca a t_1) rfl 3 (by decide) (hts _ kw_357) (fun _ h9 => h9) rfl dX10_cancel_16 ?_
  obtain ⟨v_3, t_2, g_19, hf⟩ := fb_bs hf
  refine fw_V1 (As := []) (rest := []) (n := 0) (q0 := 6) C (c_X_X7_count__6 (l := l) (D := D) (ca := ca) (a := a) g_19) kw_653 kw_654 kw_97 kw_656 kw_655 hP hS hl (heX_6 ca a t_1) rfl rfl rfl (by decide) (by decide +kernel) ⟨Nat.le_of_ble_eq_true rfl, Nat.le_of_ble_eq_true rfl⟩ rfl rfl (Nat.le_of_ble_eq_true rfl) dX10_cancel_19 (fun H locs hP hS => ?_)
  refine W.eq (g2 := F0 m 22 ls [.int v_3]) rfl ?_
  refine lv_istore_n (lv' := [(1, .int v_3), (0, .ref (a 0))]) hx hb dX10_cancel_22 rfl hl (by decide) rfl (fun ls hl => ?_)
  refine lv_aload_n hx hb dX10_cancel_23 rfl (lv_at hl 1 rfl) ?_
  refine va_get (D := D) (ci := 10) (v := .ref (a 6)) (C := RX10) (T := TX10) (N := 13) hx hb hts inX10 hown hK hP 0 (heX_0 ca a t_2) rfl 3 (by decide) (hts _ kw_357) (fun _ h9 => h9) rfl dX10_cancel_24 ?_
  obtain ⟨t_4, g_27, hf⟩ := fb_vs hf
  refine fw_V1 (As := []) (rest := []) (n := 0) (q0 := 6) C (c_X_X7_forget__6 (l := l) (D := D) (ca := ca) (a := a) g_27) kw_669 kw_670 kw_97 kw_672 kw_671 hP hS hl (heX_6 ca a t_2) rfl rfl rfl (by decide) (by decide +kernel) ⟨Nat.le_of_ble_eq_true rfl, Nat.le_of_ble_eq_true rfl⟩ rfl rfl (Nat.le_of_ble_eq_true rfl) dX10_cancel_27 (fun H locs hP hS => ?_)
  refine W.eq (g2 := F0 m 30 ls []) rfl ?_
  refine lv_iload_n hx hb dX10_cancel_30 rfl (lv_at hl 0 rfl) ?_
  obtain ⟨e_31, e2_31⟩ := fb_e hf
  subst e_31; subst e2_31
  exact hr trivial _ _ _ _ hP hS dX10_cancel_31
set_option maxRecDepth 20000 in
theorem w_X_X10_cancel__0_7 {p : Program} {l : Launch} {e : Env} {s : State} {m : MethodId} {args : Array Value} {below : List Frame} {meth : Method} {c : Code} {A : Nat → Prop} {Q : State → Prop} {D : va_G} {ca : Nat → ClassId} {a : Nat → Nat} {u : fw_S} {r : Int32}  (C : CX (WX ca a) D (tyv ca) p s m args c A prog_1_method_9_code 2 RX10) (hr : True → RX (WX ca a) D p l e rm_X_X10_cancel__0 s m args below meth c A prog_1_method_9_code Q .ireturn [.int r] u) {t : fw_S}  {H : Heap} {locs : List Loc} {ls : Array Slot} (hf : b_X_X10_cancel__0_7  t  = some (r, u)) (hP : va_P D classes (WX ca a t) H) (hS : va_S A s.heap H locs) (hl : lv_has ls 2 []) : W p l e rm_X_X10_cancel__0 s m args below meth c H locs 0 0 Q (F0 m 7 ls []) := by
  obtain ⟨hx, hb, hml, hown, hts, hN, hK, hD, hA⟩ := id C
  have hf : (some ((-3 : Int32), t)) = some (r, u) := hf
  refine lv_bipush (v := (-3)) hx hb dX10_cancel_7 (by decide) ?_
  obtain ⟨e_9, e2_9⟩ := fb_e hf
  subst e_9; subst e2_9
  exact hr trivial _ _ _ _ hP hS dX10_cancel_9
set_option maxRecDepth 20000 in
theorem w_X_X10_cancel__0_0 {p : Program} {l : Launch} {e : Env} {s : State} {m : MethodId} {args : Array Value} {below : List Frame} {meth : Method} {c : Code} {A : Nat → Prop} {Q : State → Prop} {D : va_G} {ca : Nat → ClassId} {a : Nat → Nat} {u : fw_S} {r : Int32}  (C : CX (WX ca a) D (tyv ca) p s m args c A prog_1_method_9_code 2 RX10) (hr : True → RX (WX ca a) D p l e rm_X_X10_cancel__0 s m args below meth c A prog_1_method_9_code Q .ireturn [.int r] u) {t : fw_S}  {H : Heap} {locs : List Loc} {ls : Array Slot} (hf : b_X_X10_cancel__0_0  t  = some (r, u)) (hP : va_P D classes (WX ca a t) H) (hS : va_S A s.heap H locs) (hl : lv_has ls 2 [(0, .ref (a 0))]) : W p l e rm_X_X10_cancel__0 s m args below meth c H locs 0 0 Q (F0 m 0 ls []) := by
  obtain ⟨hx, hb, hml, hown, hts, hN, hK, hD, hA⟩ := id C
  have hf : (if (st_I t 0) = 0 then b_X_X10_cancel__0_7 t else b_X_X10_cancel__0_10 t) = some (r, u) := hf
  refine lv_aload_n hx hb dX10_cancel_0 rfl (lv_at hl 0 rfl) ?_
  refine va_get (D := D) (ci := 10) (v := .int (st_I t 0)) (C := RX10) (T := TX10) (N := 13) hx hb hts inX10 hown hK hP 0 (heX_0 ca a t) rfl 11 (by decide) (hts _ kw_365) (fun _ h9 => h9) rfl dX10_cancel_1 ?_
  refine lv_if_ne (tgt := 10) hx hb dX10_cancel_4 (by decide) (fun h_4 => ?_) (fun h_4 => ?_)
  · have hf := fb_f h_4 hf
    exact w_X_X10_cancel__0_10 C hr hf hP hS (lv_sub hl [0] rfl)
  · have hf := fb_t h_4 hf
    exact w_X_X10_cancel__0_7 C hr hf hP hS (lv_sub hl [] rfl)
set_option maxRecDepth 20000 in
theorem c_X_X10_cancel__0 {l : Launch} {D : va_G} {ca : Nat → ClassId} {a : Nat → Nat} {t : fw_S}  {u : fw_S} {r : Int32} (hf : f_X_X10_cancel__0 t  = some (r, u)) : MC (WX ca a) D (tyv ca) l yX10_cancel (.code yX10_cancel prog_1_method_9_code 2 (some .int) :: lw_gd) rm_X_X10_cancel__0 [.ref (a 0)] (some (.int r)) t u := by
  refine fw_met (okX ca a) (by decide +kernel) rfl rfl (Nat.le_of_ble_eq_true rfl) ?_
  intro p e s m args below meth c A Q ls C hr hk hP hS hl hQ
  exact w_X_X10_cancel__0_0 C (fun _ => fw_ri C hr hk hQ) hf hP hS (lv_sub hl [0] rfl)
/-! ReactiveSheet.Parser.add(I)Z ['x.parser'] -/
abbrev rm_X_X5_add__1 : Room := { frames := 0, cells := 0, slots := 0, locals := 0 }
def b_X_X5_add__1_11  (t : fw_S) (x1 : Int32) : Option (Int32 × fw_S) := fb_g (¬ ((st_I t 2) < 0 ∨ 120 ≤ (st_I t 2).toNatClampNeg)) (fb_l (up_F t 0 (upd (st_F t 0) (st_I t 2).toNatClampNeg x1)) fun t_1 => (fb_l (up_I t_1 2 ((st_I t_1 2) + ((1 : Int32)))) fun t_2 => (fb_g (((1 : Int32)) = 0 ∨ ((1 : Int32)) = 1) (some ((1 : Int32), t_2)))))
def b_X_X5_add__1_9  (t : fw_S)  : Option (Int32 × fw_S) := fb_g (((0 : Int32)) = 0 ∨ ((0 : Int32)) = 1) (some ((0 : Int32), t))
def b_X_X5_add__1_0  (t : fw_S) (x1 : Int32) : Option (Int32 × fw_S) := if (st_I t 2) < ((120 : Int32)) then b_X_X5_add__1_11 t x1 else b_X_X5_add__1_9 t
def f_X_X5_add__1 (t : fw_S) (x1 : Int32) : Option (Int32 × fw_S) := b_X_X5_add__1_0 t x1
set_option maxRecDepth 20000 in
theorem w_X_X5_add__1_11 {p : Program} {l : Launch} {e : Env} {s : State} {m : MethodId} {args : Array Value} {below : List Frame} {meth : Method} {c : Code} {A : Nat → Prop} {Q : State → Prop} {D : va_G} {ca : Nat → ClassId} {a : Nat → Nat} {u : fw_S} {r : Int32}  (C : CX (WX ca a) D (tyv ca) p s m args c A prog_7_method_2_code 2 RX5) (hr : (r = 0 ∨ r = 1) → RX (WX ca a) D p l e rm_X_X5_add__1 s m args below meth c A prog_7_method_2_code Q .ireturn [.int r] u) {t : fw_S} {x1 : Int32} {H : Heap} {locs : List Loc} {ls : Array Slot} (hf : b_X_X5_add__1_11  t x1 = some (r, u)) (hP : va_P D classes (WX ca a t) H) (hS : va_S A s.heap H locs) (hl : lv_has ls 2 [(0, .ref (a 1)), (1, .int x1)]) : W p l e rm_X_X5_add__1 s m args below meth c H locs 0 0 Q (F0 m 11 ls []) := by
  obtain ⟨hx, hb, hml, hown, hts, hN, hK, hD, hA⟩ := id C
  have hf : (fb_g (¬ ((st_I t 2) < 0 ∨ 120 ≤ (st_I t 2).toNatClampNeg)) (fb_l (up_F t 0 (upd (st_F t 0) (st_I t 2).toNatClampNeg x1)) fun t_1 => (fb_l (up_I t_1 2 ((st_I t_1 2) + ((1 : Int32)))) fun t_2 => (fb_g (((1 : Int32)) = 0 ∨ ((1 : Int32)) = 1) (some ((1 : Int32), t_2)))))) = some (r, u) := hf
  refine lv_aload_n hx hb dX5_add_11 rfl (lv_at hl 0 rfl) ?_
  refine va_get (D := D) (ci := 5) (v := .ref (a 14)) (C := RX5) (T := TX5) (N := 10) hx hb hts inX5 hown hK hP 1 (heX_1 ca a t) rfl 0 (by decide) (hts _ kw_122) (fun _ h9 => h9) rfl dX5_add_12 ?_
  refine lv_aload_n hx hb dX5_add_15 rfl (lv_at hl 0 rfl) ?_
  refine va_get (D := D) (ci := 5) (v := .int (st_I t 2)) (C := RX5) (T := TX5) (N := 10) hx hb hts inX5 hown hK hP 1 (heX_1 ca a t) rfl 6 (by decide) (hts _ kw_128) (fun _ h9 => h9) rfl dX5_add_16 ?_
  refine lv_iload_n hx hb dX5_add_19 rfl (lv_at hl 1 rfl) ?_
  obtain ⟨h_20, hf⟩ := fb_if hf
  refine va_iast hx hb hK hP (hD t) hS 14 0 (haX_14 ca a t) rfl h_20 dX5_add_20 (fun H locs hP _ hS => ?_)
  rw [saX_14] at hP
  obtain ⟨t_1, e_20, hf⟩ := fb_ls hf
  rw [← e_20] at hP
  refine lv_aload_n hx hb dX5_add_21 rfl (lv_at hl 0 rfl) ?_
  refine lv_dup hx hb dX5_add_22 rfl ?_
  refine va_get (D := D) (ci := 5) (v := .int (st_I t_1 2)) (C := RX5) (T := TX5) (N := 10) hx hb hts inX5 hown hK hP 1 (heX_1 ca a t_1) rfl 6 (by decide) (hts _ kw_128) (fun _ h9 => h9) rfl dX5_add_23 ?_
  refine lv_iconst (v := 1) hx hb dX5_add_26 (by decide) ?_
  refine lv_iadd hx hb dX5_add_27 ?_
  refine va_put (D := D) (ci := 5) (v := .int ((st_I t_1 2) + ((1 : Int32)))) (ty := .int) (C := RX5) (T := TX5) (N := 10) hx hb hts inX5 tyX5 tyX5_ok nmX5 hown hK hP (hD t_1) hS 1 (heX_1 ca a t_1) rfl 6 (by decide) (hts _ kw_128) (fun _ h9 => h9) rfl (by decide +kernel) rfl rfl (Nat.le_of_ble_eq_true rfl) dX5_add_28 (fun H locs hP _ hS => ?_)
  rw [suX_1_6] at hP
  obtain ⟨t_2, e_28, hf⟩ := fb_ls hf
  rw [← e_28] at hP
  refine lv_iconst (v := 1) hx hb dX5_add_31 (by decide) ?_
  obtain ⟨h_32, hf⟩ := fb_if hf
  obtain ⟨e_32, e2_32⟩ := fb_e hf
  subst e_32; subst e2_32
  exact hr h_32 _ _ _ _ hP hS dX5_add_32
set_option maxRecDepth 20000 in
theorem w_X_X5_add__1_9 {p : Program} {l : Launch} {e : Env} {s : State} {m : MethodId} {args : Array Value} {below : List Frame} {meth : Method} {c : Code} {A : Nat → Prop} {Q : State → Prop} {D : va_G} {ca : Nat → ClassId} {a : Nat → Nat} {u : fw_S} {r : Int32}  (C : CX (WX ca a) D (tyv ca) p s m args c A prog_7_method_2_code 2 RX5) (hr : (r = 0 ∨ r = 1) → RX (WX ca a) D p l e rm_X_X5_add__1 s m args below meth c A prog_7_method_2_code Q .ireturn [.int r] u) {t : fw_S}  {H : Heap} {locs : List Loc} {ls : Array Slot} (hf : b_X_X5_add__1_9  t  = some (r, u)) (hP : va_P D classes (WX ca a t) H) (hS : va_S A s.heap H locs) (hl : lv_has ls 2 []) : W p l e rm_X_X5_add__1 s m args below meth c H locs 0 0 Q (F0 m 9 ls []) := by
  obtain ⟨hx, hb, hml, hown, hts, hN, hK, hD, hA⟩ := id C
  have hf : (fb_g (((0 : Int32)) = 0 ∨ ((0 : Int32)) = 1) (some ((0 : Int32), t))) = some (r, u) := hf
  refine lv_iconst (v := 0) hx hb dX5_add_9 (by decide) ?_
  obtain ⟨h_10, hf⟩ := fb_if hf
  obtain ⟨e_10, e2_10⟩ := fb_e hf
  subst e_10; subst e2_10
  exact hr h_10 _ _ _ _ hP hS dX5_add_10
set_option maxRecDepth 20000 in
theorem w_X_X5_add__1_0 {p : Program} {l : Launch} {e : Env} {s : State} {m : MethodId} {args : Array Value} {below : List Frame} {meth : Method} {c : Code} {A : Nat → Prop} {Q : State → Prop} {D : va_G} {ca : Nat → ClassId} {a : Nat → Nat} {u : fw_S} {r : Int32}  (C : CX (WX ca a) D (tyv ca) p s m args c A prog_7_method_2_code 2 RX5) (hr : (r = 0 ∨ r = 1) → RX (WX ca a) D p l e rm_X_X5_add__1 s m args below meth c A prog_7_method_2_code Q .ireturn [.int r] u) {t : fw_S} {x1 : Int32} {H : Heap} {locs : List Loc} {ls : Array Slot} (hf : b_X_X5_add__1_0  t x1 = some (r, u)) (hP : va_P D classes (WX ca a t) H) (hS : va_S A s.heap H locs) (hl : lv_has ls 2 [(0, .ref (a 1)), (1, .int x1)]) : W p l e rm_X_X5_add__1 s m args below meth c H locs 0 0 Q (F0 m 0 ls []) := by
  obtain ⟨hx, hb, hml, hown, hts, hN, hK, hD, hA⟩ := id C
  have hf : (if (st_I t 2) < ((120 : Int32)) then b_X_X5_add__1_11 t x1 else b_X_X5_add__1_9 t) = some (r, u) := hf
  refine lv_aload_n hx hb dX5_add_0 rfl (lv_at hl 0 rfl) ?_
  refine va_get (D := D) (ci := 5) (v := .int (st_I t 2)) (C := RX5) (T := TX5) (N := 10) hx hb hts inX5 hown hK hP 1 (heX_1 ca a t) rfl 6 (by decide) (hts _ kw_128) (fun _ h9 => h9) rfl dX5_add_1 ?_
  refine lv_bipush (v := 120) hx hb dX5_add_4 (by decide) ?_
  refine lv_icmp_lt (tgt := 11) hx hb dX5_add_6 (by decide) (fun h_6 => ?_) (fun h_6 => ?_)
  · have hf := fb_t h_6 hf
    exact w_X_X5_add__1_11 C hr hf hP hS (lv_sub hl [0, 1] rfl)
  · have hf := fb_f h_6 hf
    exact w_X_X5_add__1_9 C hr hf hP hS (lv_sub hl [] rfl)
set_option maxRecDepth 20000 in
theorem c_X_X5_add__1 {l : Launch} {D : va_G} {ca : Nat → ClassId} {a : Nat → Nat} {t : fw_S} {x1 : Int32} {u : fw_S} {r : Int32} (hf : f_X_X5_add__1 t x1 = some (r, u)) : MC (WX ca a) D (tyv ca) l yX5_add (.code yX5_add prog_7_method_2_code 2 (some .boolean) :: lw_gd) rm_X_X5_add__1 [.ref (a 1), .int x1] (some (.int r)) t u := by
  refine fw_met (okX ca a) (by decide +kernel) rfl rfl (Nat.le_of_ble_eq_true rfl) ?_
  intro p e s m args below meth c A Q ls C hr hk hP hS hl hQ
  exact w_X_X5_add__1_0 C (fun hz => fw_rz C hr hk hz hQ) hf hP hS (lv_sub hl [0, 1] rfl)
/-! ReactiveSheet.Parser.length()I ['x.parser'] -/
abbrev rm_X_X5_length__1 : Room := { frames := 0, cells := 0, slots := 0, locals := 0 }
def b_X_X5_length__1_0  (t : fw_S)  : Option (Int32 × fw_S) := some (st_I t 2, t)
def f_X_X5_length__1 (t : fw_S)  : Option (Int32 × fw_S) := b_X_X5_length__1_0 t 
set_option maxRecDepth 20000 in
theorem w_X_X5_length__1_0 {p : Program} {l : Launch} {e : Env} {s : State} {m : MethodId} {args : Array Value} {below : List Frame} {meth : Method} {c : Code} {A : Nat → Prop} {Q : State → Prop} {D : va_G} {ca : Nat → ClassId} {a : Nat → Nat} {u : fw_S} {r : Int32}  (C : CX (WX ca a) D (tyv ca) p s m args c A prog_7_method_4_code 1 RX5) (hr : True → RX (WX ca a) D p l e rm_X_X5_length__1 s m args below meth c A prog_7_method_4_code Q .ireturn [.int r] u) {t : fw_S}  {H : Heap} {locs : List Loc} {ls : Array Slot} (hf : b_X_X5_length__1_0  t  = some (r, u)) (hP : va_P D classes (WX ca a t) H) (hS : va_S A s.heap H locs) (hl : lv_has ls 1 [(0, .ref (a 1))]) : W p l e rm_X_X5_length__1 s m args below meth c H locs 0 0 Q (F0 m 0 ls []) := by
  obtain ⟨hx, hb, hml, hown, hts, hN, hK, hD, hA⟩ := id C
  have hf : (some (st_I t 2, t)) = some (r, u) := hf
  refine lv_aload_n hx hb dX5_length_0 rfl (lv_at hl 0 rfl) ?_
  refine va_get (D := D) (ci := 5) (v := .int (st_I t 2)) (C := RX5) (T := TX5) (N := 10) hx hb hts inX5 hown hK hP 1 (heX_1 ca a t) rfl 6 (by decide) (hts _ kw_128) (fun _ h9 => h9) rfl dX5_length_1 ?_
  obtain ⟨e_4, e2_4⟩ := fb_e hf
  subst e_4; subst e2_4
  exact hr trivial _ _ _ _ hP hS dX5_length_4
set_option maxRecDepth 20000 in
theorem c_X_X5_length__1 {l : Launch} {D : va_G} {ca : Nat → ClassId} {a : Nat → Nat} {t : fw_S}  {u : fw_S} {r : Int32} (hf : f_X_X5_length__1 t  = some (r, u)) : MC (WX ca a) D (tyv ca) l yX5_length (.code yX5_length prog_7_method_4_code 1 (some .int) :: lw_gd) rm_X_X5_length__1 [.ref (a 1)] (some (.int r)) t u := by
  refine fw_met (okX ca a) (by decide +kernel) rfl rfl (Nat.le_of_ble_eq_true rfl) ?_
  intro p e s m args below meth c A Q ls C hr hk hP hS hl hQ
  exact w_X_X5_length__1_0 C (fun _ => fw_ri C hr hk hQ) hf hP hS (lv_sub hl [0] rfl)
/-! ReactiveSheet.feed(I)I ['x'] -/
abbrev rm_X_X10_feed__0 : Room := { frames := 1, cells := 0, slots := 0, locals := 21 }
def b_X_X10_feed__0_11  (t : fw_S)  : Option (Int32 × fw_S) := some ((-2 : Int32), t)
def b_X_X10_feed__0_37  (t : fw_S) (z0 : Int32) : Option (Int32 × fw_S) := some (z0, t)
def b_X_X10_feed__0_35  (t : fw_S)  : Option (Int32 × fw_S) := b_X_X10_feed__0_37 t ((-4 : Int32))
def b_X_X10_feed__0_25  (t : fw_S)  : Option (Int32 × fw_S) := fb_b (f_X_X5_length__1 t) fun v_2 t_1 => (b_X_X10_feed__0_37 t_1 v_2)
def b_X_X10_feed__0_14  (t : fw_S) (x1 : Int32) : Option (Int32 × fw_S) := fb_b (f_X_X5_add__1 t x1) fun v_2 t_1 => (if v_2 = 0 then b_X_X10_feed__0_35 t_1 else b_X_X10_feed__0_25 t_1)
def b_X_X10_feed__0_5  (t : fw_S) (x1 : Int32) : Option (Int32 × fw_S) := if x1 ≤ ((127 : Int32)) then b_X_X10_feed__0_14 t x1 else b_X_X10_feed__0_11 t
def b_X_X10_feed__0_0  (t : fw_S) (x1 : Int32) : Option (Int32 × fw_S) := if x1 < ((1 : Int32)) then b_X_X10_feed__0_11 t else b_X_X10_feed__0_5 t x1
def f_X_X10_feed__0 (t : fw_S) (x1 : Int32) : Option (Int32 × fw_S) := b_X_X10_feed__0_0 t x1
set_option maxRecDepth 20000 in
theorem w_X_X10_feed__0_11 {p : Program} {l : Launch} {e : Env} {s : State} {m : MethodId} {args : Array Value} {below : List Frame} {meth : Method} {c : Code} {A : Nat → Prop} {Q : State → Prop} {D : va_G} {ca : Nat → ClassId} {a : Nat → Nat} {u : fw_S} {r : Int32}  (C : CX (WX ca a) D (tyv ca) p s m args c A prog_1_method_10_code 2 RX10) (hr : True → RX (WX ca a) D p l e rm_X_X10_feed__0 s m args below meth c A prog_1_method_10_code Q .ireturn [.int r] u) {t : fw_S}  {H : Heap} {locs : List Loc} {ls : Array Slot} (hf : b_X_X10_feed__0_11  t  = some (r, u)) (hP : va_P D classes (WX ca a t) H) (hS : va_S A s.heap H locs) (hl : lv_has ls 2 []) : W p l e rm_X_X10_feed__0 s m args below meth c H locs 0 0 Q (F0 m 11 ls []) := by
  obtain ⟨hx, hb, hml, hown, hts, hN, hK, hD, hA⟩ := id C
  have hf : (some ((-2 : Int32), t)) = some (r, u) := hf
  refine lv_bipush (v := (-2)) hx hb dX10_feed_11 (by decide) ?_
  obtain ⟨e_13, e2_13⟩ := fb_e hf
  subst e_13; subst e2_13
  exact hr trivial _ _ _ _ hP hS dX10_feed_13
set_option maxRecDepth 20000 in
theorem w_X_X10_feed__0_37 {p : Program} {l : Launch} {e : Env} {s : State} {m : MethodId} {args : Array Value} {below : List Frame} {meth : Method} {c : Code} {A : Nat → Prop} {Q : State → Prop} {D : va_G} {ca : Nat → ClassId} {a : Nat → Nat} {u : fw_S} {r : Int32}  (C : CX (WX ca a) D (tyv ca) p s m args c A prog_1_method_10_code 2 RX10) (hr : True → RX (WX ca a) D p l e rm_X_X10_feed__0 s m args below meth c A prog_1_method_10_code Q .ireturn [.int r] u) {t : fw_S} {z0 : Int32} {H : Heap} {locs : List Loc} {ls : Array Slot} (hf : b_X_X10_feed__0_37  t z0 = some (r, u)) (hP : va_P D classes (WX ca a t) H) (hS : va_S A s.heap H locs) (hl : lv_has ls 2 []) : W p l e rm_X_X10_feed__0 s m args below meth c H locs 0 0 Q (F0 m 37 ls [.int z0]) := by
  obtain ⟨hx, hb, hml, hown, hts, hN, hK, hD, hA⟩ := id C
  have hf : (some (z0, t)) = some (r, u) := hf
  obtain ⟨e_37, e2_37⟩ := fb_e hf
  subst e_37; subst e2_37
  exact hr trivial _ _ _ _ hP hS dX10_feed_37
set_option maxRecDepth 20000 in
theorem w_X_X10_feed__0_35 {p : Program} {l : Launch} {e : Env} {s : State} {m : MethodId} {args : Array Value} {below : List Frame} {meth : Method} {c : Code} {A : Nat → Prop} {Q : State → Prop} {D : va_G} {ca : Nat → ClassId} {a : Nat → Nat} {u : fw_S} {r : Int32}  (C : CX (WX ca a) D (tyv ca) p s m args c A prog_1_method_10_code 2 RX10) (hr : True → RX (WX ca a) D p l e rm_X_X10_feed__0 s m args below meth c A prog_1_method_10_code Q .ireturn [.int r] u) {t : fw_S}  {H : Heap} {locs : List Loc} {ls : Array Slot} (hf : b_X_X10_feed__0_35  t  = some (r, u)) (hP : va_P D classes (WX ca a t) H) (hS : va_S A s.heap H locs) (hl : lv_has ls 2 []) : W p l e rm_X_X10_feed__0 s m args below meth c H locs 0 0 Q (F0 m 35 ls []) := by
  obtain ⟨hx, hb, hml, hown, hts, hN, hK, hD, hA⟩ := id C
  have hf : (b_X_X10_feed__0_37 t ((-4 : Int32))) = some (r, u) := hf
  refine lv_bipush (v := (-4)) hx hb dX10_feed_35 (by decide) ?_
  exact w_X_X10_feed__0_37 C hr hf hP hS (lv_sub hl [] rfl)
set_option maxRecDepth 20000 in
theorem w_X_X10_feed__0_25 {p : Program} {l : Launch} {e : Env} {s : State} {m : MethodId} {args : Array Value} {below : List Frame} {meth : Method} {c : Code} {A : Nat → Prop} {Q : State → Prop} {D : va_G} {ca : Nat → ClassId} {a : Nat → Nat} {u : fw_S} {r : Int32}  (C : CX (WX ca a) D (tyv ca) p s m args c A prog_1_method_10_code 2 RX10) (hr : True → RX (WX ca a) D p l e rm_X_X10_feed__0 s m args below meth c A prog_1_method_10_code Q .ireturn [.int r] u) {t : fw_S}  {H : Heap} {locs : List Loc} {ls : Array Slot} (hf : b_X_X10_feed__0_25  t  = some (r, u)) (hP : va_P D classes (WX ca a t) H) (hS : va_S A s.heap H locs) (hl : lv_has ls 2 [(0, .ref (a 0))]) : W p l e rm_X_X10_feed__0 s m args below meth c H locs 0 0 Q (F0 m 25 ls []) := by
  obtain ⟨hx, hb, hml, hown, hts, hN, hK, hD, hA⟩ := id C
  have hf : (fb_b (f_X_X5_length__1 t) fun v_2 t_1 => (b_X_X10_feed__0_37 t_1 v_2)) = some (r, u) := hf
  refine lv_aload_n hx hb dX10_feed_25 rfl (lv_at hl 0 rfl) ?_
  refine va_get (D := D) (ci := 10) (v := .ref (a 1)) (C := RX10) (T := TX10) (N := 13) hx hb hts inX10 hown hK hP 0 (heX_0 ca a t) rfl 0 (by decide) (hts _ kw_354) (fun _ h9 => h9) rfl dX10_feed_26 ?_
  obtain ⟨v_2, t_1, g_29, hf⟩ := fb_bs hf
  refine fw_V1 (As := []) (rest := []) (n := 0) (q0 := 1) C (c_X_X5_length__1 (l := l) (D := D) (ca := ca) (a := a) g_29) kw_840 kw_841 kw_93 kw_843 kw_842 hP hS hl (heX_1 ca a t) rfl rfl rfl (by decide) (by decide +kernel) ⟨Nat.le_of_ble_eq_true rfl, Nat.le_of_ble_eq_true rfl⟩ rfl rfl (Nat.le_of_ble_eq_true rfl) dX10_feed_29 (fun H locs hP hS => ?_)
  refine W.eq (g2 := F0 m 32 ls [.int v_2]) rfl ?_
  refine lv_goto (tgt := 37) hx hb dX10_feed_32 (by decide) ?_
  exact w_X_X10_feed__0_37 C hr hf hP hS (lv_sub hl [] rfl)
set_option maxRecDepth 20000 in
theorem w_X_X10_feed__0_14 {p : Program} {l : Launch} {e : Env} {s : State} {m : MethodId} {args : Array Value} {below : List Frame} {meth : Method} {c : Code} {A : Nat → Prop} {Q : State → Prop} {D : va_G} {ca : Nat → ClassId} {a : Nat → Nat} {u : fw_S} {r : Int32}  (C : CX (WX ca a) D (tyv ca) p s m args c A prog_1_method_10_code 2 RX10) (hr : True → RX (WX ca a) D p l e rm_X_X10_feed__0 s m args below meth c A prog_1_method_10_code Q .ireturn [.int r] u) {t : fw_S} {x1 : Int32} {H : Heap} {locs : List Loc} {ls : Array Slot} (hf : b_X_X10_feed__0_14  t x1 = some (r, u)) (hP : va_P D classes (WX ca a t) H) (hS : va_S A s.heap H locs) (hl : lv_has ls 2 [(0, .ref (a 0)), (1, .int x1)]) : W p l e rm_X_X10_feed__0 s m args below meth c H locs 0 0 Q (F0 m 14 ls []) := by
  obtain ⟨hx, hb, hml, hown, hts, hN, hK, hD, hA⟩ := id C
  have hf : (fb_b (f_X_X5_add__1 t x1) fun v_2 t_1 => (if v_2 = 0 then b_X_X10_feed__0_35 t_1 else b_X_X10_feed__0_25 t_1)) = some (r, u) := hf
  refine lv_aload_n hx hb dX10_feed_14 rfl (lv_at hl 0 rfl) ?_
  refine va_get (D := D) (ci := 10) (v := .ref (a 1)) (C := RX10) (T := TX10) (N := 13) hx hb hts inX10 hown hK hP 0 (heX_0 ca a t) rfl 0 (by decide) (hts _ kw_354) (fun _ h9 => h9) rfl dX10_feed_15 ?_
  refine lv_iload_n hx hb dX10_feed_18 rfl (lv_at hl 1 rfl) ?_
  obtain ⟨v_2, t_1, g_19, hf⟩ := fb_bs hf
  refine fw_V1 (As := [.int x1]) (rest := []) (n := 1) (q0 := 1) C (c_X_X5_add__1 (l := l) (D := D) (ca := ca) (a := a) g_19) kw_836 kw_837 kw_93 kw_839 kw_838 hP hS hl (heX_1 ca a t) rfl rfl rfl (by decide) (by decide +kernel) ⟨Nat.le_of_ble_eq_true rfl, Nat.le_of_ble_eq_true rfl⟩ rfl rfl (Nat.le_of_ble_eq_true rfl) dX10_feed_19 (fun H locs hP hS => ?_)
  refine W.eq (g2 := F0 m 22 ls [.int v_2]) rfl ?_
  refine lv_if_eq (tgt := 35) hx hb dX10_feed_22 (by decide) (fun h_22 => ?_) (fun h_22 => ?_)
  · have hf := fb_t h_22 hf
    exact w_X_X10_feed__0_35 C hr hf hP hS (lv_sub hl [] rfl)
  · have hf := fb_f h_22 hf
    exact w_X_X10_feed__0_25 C hr hf hP hS (lv_sub hl [0] rfl)
set_option maxRecDepth 20000 in
theorem w_X_X10_feed__0_5 {p : Program} {l : Launch} {e : Env} {s : State} {m : MethodId} {args : Array Value} {below : List Frame} {meth : Method} {c : Code} {A : Nat → Prop} {Q : State → Prop} {D : va_G} {ca : Nat → ClassId} {a : Nat → Nat} {u : fw_S} {r : Int32}  (C : CX (WX ca a) D (tyv ca) p s m args c A prog_1_method_10_code 2 RX10) (hr : True → RX (WX ca a) D p l e rm_X_X10_feed__0 s m args below meth c A prog_1_method_10_code Q .ireturn [.int r] u) {t : fw_S} {x1 : Int32} {H : Heap} {locs : List Loc} {ls : Array Slot} (hf : b_X_X10_feed__0_5  t x1 = some (r, u)) (hP : va_P D classes (WX ca a t) H) (hS : va_S A s.heap H locs) (hl : lv_has ls 2 [(0, .ref (a 0)), (1, .int x1)]) : W p l e rm_X_X10_feed__0 s m args below meth c H locs 0 0 Q (F0 m 5 ls []) := by
  obtain ⟨hx, hb, hml, hown, hts, hN, hK, hD, hA⟩ := id C
  have hf : (if x1 ≤ ((127 : Int32)) then b_X_X10_feed__0_14 t x1 else b_X_X10_feed__0_11 t) = some (r, u) := hf
  refine lv_iload_n hx hb dX10_feed_5 rfl (lv_at hl 1 rfl) ?_
  refine lv_bipush (v := 127) hx hb dX10_feed_6 (by decide) ?_
  refine lv_icmp_le (tgt := 14) hx hb dX10_feed_8 (by decide) (fun h_8 => ?_) (fun h_8 => ?_)
  · have hf := fb_t h_8 hf
    exact w_X_X10_feed__0_14 C hr hf hP hS (lv_sub hl [0, 1] rfl)
  · have hf := fb_f h_8 hf
    exact w_X_X10_feed__0_11 C hr hf hP hS (lv_sub hl [] rfl)
set_option maxRecDepth 20000 in
theorem w_X_X10_feed__0_0 {p : Program} {l : Launch} {e : Env} {s : State} {m : MethodId} {args : Array Value} {below : List Frame} {meth : Method} {c : Code} {A : Nat → Prop} {Q : State → Prop} {D : va_G} {ca : Nat → ClassId} {a : Nat → Nat} {u : fw_S} {r : Int32}  (C : CX (WX ca a) D (tyv ca) p s m args c A prog_1_method_10_code 2 RX10) (hr : True → RX (WX ca a) D p l e rm_X_X10_feed__0 s m args below meth c A prog_1_method_10_code Q .ireturn [.int r] u) {t : fw_S} {x1 : Int32} {H : Heap} {locs : List Loc} {ls : Array Slot} (hf : b_X_X10_feed__0_0  t x1 = some (r, u)) (hP : va_P D classes (WX ca a t) H) (hS : va_S A s.heap H locs) (hl : lv_has ls 2 [(0, .ref (a 0)), (1, .int x1)]) : W p l e rm_X_X10_feed__0 s m args below meth c H locs 0 0 Q (F0 m 0 ls []) := by
  obtain ⟨hx, hb, hml, hown, hts, hN, hK, hD, hA⟩ := id C
  have hf : (if x1 < ((1 : Int32)) then b_X_X10_feed__0_11 t else b_X_X10_feed__0_5 t x1) = some (r, u) := hf
  refine lv_iload_n hx hb dX10_feed_0 rfl (lv_at hl 1 rfl) ?_
  refine lv_iconst (v := 1) hx hb dX10_feed_1 (by decide) ?_
  refine lv_icmp_lt (tgt := 11) hx hb dX10_feed_2 (by decide) (fun h_2 => ?_) (fun h_2 => ?_)
  · have hf := fb_t h_2 hf
    exact w_X_X10_feed__0_11 C hr hf hP hS (lv_sub hl [] rfl)
  · have hf := fb_f h_2 hf
    exact w_X_X10_feed__0_5 C hr hf hP hS (lv_sub hl [0, 1] rfl)
set_option maxRecDepth 20000 in
theorem c_X_X10_feed__0 {l : Launch} {D : va_G} {ca : Nat → ClassId} {a : Nat → Nat} {t : fw_S} {x1 : Int32} {u : fw_S} {r : Int32} (hf : f_X_X10_feed__0 t x1 = some (r, u)) : MC (WX ca a) D (tyv ca) l yX10_feed (.code yX10_feed prog_1_method_10_code 2 (some .int) :: lw_gd) rm_X_X10_feed__0 [.ref (a 0), .int x1] (some (.int r)) t u := by
  refine fw_met (okX ca a) (by decide +kernel) rfl rfl (Nat.le_of_ble_eq_true rfl) ?_
  intro p e s m args below meth c A Q ls C hr hk hP hS hl hQ
  exact w_X_X10_feed__0_0 C (fun _ => fw_ri C hr hk hQ) hf hP hS (lv_sub hl [0, 1] rfl)
/-! ReactiveSheet.Parser.wipe()I ['x.parser'] -/
abbrev rm_X_X5_wipe__1 : Room := { frames := 0, cells := 0, slots := 0, locals := 0 }
def b_X_X5_wipe__1_0  (t : fw_S)  : Option (Int32 × fw_S) := fb_l (up_I t 2 ((0 : Int32))) fun t_1 => (some (st_I t 2, t_1))
def f_X_X5_wipe__1 (t : fw_S)  : Option (Int32 × fw_S) := b_X_X5_wipe__1_0 t 
set_option maxRecDepth 20000 in
theorem w_X_X5_wipe__1_0 {p : Program} {l : Launch} {e : Env} {s : State} {m : MethodId} {args : Array Value} {below : List Frame} {meth : Method} {c : Code} {A : Nat → Prop} {Q : State → Prop} {D : va_G} {ca : Nat → ClassId} {a : Nat → Nat} {u : fw_S} {r : Int32}  (C : CX (WX ca a) D (tyv ca) p s m args c A prog_7_method_3_code 2 RX5) (hr : True → RX (WX ca a) D p l e rm_X_X5_wipe__1 s m args below meth c A prog_7_method_3_code Q .ireturn [.int r] u) {t : fw_S}  {H : Heap} {locs : List Loc} {ls : Array Slot} (hf : b_X_X5_wipe__1_0  t  = some (r, u)) (hP : va_P D classes (WX ca a t) H) (hS : va_S A s.heap H locs) (hl : lv_has ls 2 [(0, .ref (a 1))]) : W p l e rm_X_X5_wipe__1 s m args below meth c H locs 0 0 Q (F0 m 0 ls []) := by
  obtain ⟨hx, hb, hml, hown, hts, hN, hK, hD, hA⟩ := id C
  have hf : (fb_l (up_I t 2 ((0 : Int32))) fun t_1 => (some (st_I t 2, t_1))) = some (r, u) := hf
  refine lv_aload_n hx hb dX5_wipe_0 rfl (lv_at hl 0 rfl) ?_
  refine va_get (D := D) (ci := 5) (v := .int (st_I t 2)) (C := RX5) (T := TX5) (N := 10) hx hb hts inX5 hown hK hP 1 (heX_1 ca a t) rfl 6 (by decide) (hts _ kw_128) (fun _ h9 => h9) rfl dX5_wipe_1 ?_
  refine lv_istore_n (lv' := [(1, .int (st_I t 2)), (0, .ref (a 1))]) hx hb dX5_wipe_4 rfl hl (by decide) rfl (fun ls hl => ?_)
  refine lv_aload_n hx hb dX5_wipe_5 rfl (lv_at hl 1 rfl) ?_
  refine lv_iconst (v := 0) hx hb dX5_wipe_6 (by decide) ?_
  refine va_put (D := D) (ci := 5) (v := .int ((0 : Int32))) (ty := .int) (C := RX5) (T := TX5) (N := 10) hx hb hts inX5 tyX5 tyX5_ok nmX5 hown hK hP (hD t) hS 1 (heX_1 ca a t) rfl 6 (by decide) (hts _ kw_128) (fun _ h9 => h9) rfl (by decide +kernel) rfl rfl (Nat.le_of_ble_eq_true rfl) dX5_wipe_7 (fun H locs hP _ hS => ?_)
  rw [suX_1_6] at hP
  obtain ⟨t_1, e_7, hf⟩ := fb_ls hf
  rw [← e_7] at hP
  refine lv_iload_n hx hb dX5_wipe_10 rfl (lv_at hl 0 rfl) ?_
  obtain ⟨e_11, e2_11⟩ := fb_e hf
  subst e_11; subst e2_11
  exact hr trivial _ _ _ _ hP hS dX5_wipe_11
set_option maxRecDepth 20000 in
theorem c_X_X5_wipe__1 {l : Launch} {D : va_G} {ca : Nat → ClassId} {a : Nat → Nat} {t : fw_S}  {u : fw_S} {r : Int32} (hf : f_X_X5_wipe__1 t  = some (r, u)) : MC (WX ca a) D (tyv ca) l yX5_wipe (.code yX5_wipe prog_7_method_3_code 2 (some .int) :: lw_gd) rm_X_X5_wipe__1 [.ref (a 1)] (some (.int r)) t u := by
  refine fw_met (okX ca a) (by decide +kernel) rfl rfl (Nat.le_of_ble_eq_true rfl) ?_
  intro p e s m args below meth c A Q ls C hr hk hP hS hl hQ
  exact w_X_X5_wipe__1_0 C (fun _ => fw_ri C hr hk hQ) hf hP hS (lv_sub hl [0] rfl)
/-! ReactiveSheet.clear()I ['x'] -/
abbrev rm_X_X10_clear__0 : Room := { frames := 1, cells := 0, slots := 0, locals := 21 }
def b_X_X10_clear__0_0  (t : fw_S)  : Option (Int32 × fw_S) := fb_b (f_X_X5_wipe__1 t) fun v_2 t_1 => (some (v_2, t_1))
def f_X_X10_clear__0 (t : fw_S)  : Option (Int32 × fw_S) := b_X_X10_clear__0_0 t 
set_option maxRecDepth 20000 in
theorem w_X_X10_clear__0_0 {p : Program} {l : Launch} {e : Env} {s : State} {m : MethodId} {args : Array Value} {below : List Frame} {meth : Method} {c : Code} {A : Nat → Prop} {Q : State → Prop} {D : va_G} {ca : Nat → ClassId} {a : Nat → Nat} {u : fw_S} {r : Int32}  (C : CX (WX ca a) D (tyv ca) p s m args c A prog_1_method_11_code 1 RX10) (hr : True → RX (WX ca a) D p l e rm_X_X10_clear__0 s m args below meth c A prog_1_method_11_code Q .ireturn [.int r] u) {t : fw_S}  {H : Heap} {locs : List Loc} {ls : Array Slot} (hf : b_X_X10_clear__0_0  t  = some (r, u)) (hP : va_P D classes (WX ca a t) H) (hS : va_S A s.heap H locs) (hl : lv_has ls 1 [(0, .ref (a 0))]) : W p l e rm_X_X10_clear__0 s m args below meth c H locs 0 0 Q (F0 m 0 ls []) := by
  obtain ⟨hx, hb, hml, hown, hts, hN, hK, hD, hA⟩ := id C
  have hf : (fb_b (f_X_X5_wipe__1 t) fun v_2 t_1 => (some (v_2, t_1))) = some (r, u) := hf
  refine lv_aload_n hx hb dX10_clear_0 rfl (lv_at hl 0 rfl) ?_
  refine va_get (D := D) (ci := 10) (v := .ref (a 1)) (C := RX10) (T := TX10) (N := 13) hx hb hts inX10 hown hK hP 0 (heX_0 ca a t) rfl 0 (by decide) (hts _ kw_354) (fun _ h9 => h9) rfl dX10_clear_1 ?_
  obtain ⟨v_2, t_1, g_4, hf⟩ := fb_bs hf
  refine fw_V1 (As := []) (rest := []) (n := 0) (q0 := 1) C (c_X_X5_wipe__1 (l := l) (D := D) (ca := ca) (a := a) g_4) kw_848 kw_849 kw_93 kw_851 kw_850 hP hS hl (heX_1 ca a t) rfl rfl rfl (by decide) (by decide +kernel) ⟨Nat.le_of_ble_eq_true rfl, Nat.le_of_ble_eq_true rfl⟩ rfl rfl (Nat.le_of_ble_eq_true rfl) dX10_clear_4 (fun H locs hP hS => ?_)
  refine W.eq (g2 := F0 m 7 ls [.int v_2]) rfl ?_
  obtain ⟨e_7, e2_7⟩ := fb_e hf
  subst e_7; subst e2_7
  exact hr trivial _ _ _ _ hP hS dX10_clear_7
set_option maxRecDepth 20000 in
theorem c_X_X10_clear__0 {l : Launch} {D : va_G} {ca : Nat → ClassId} {a : Nat → Nat} {t : fw_S}  {u : fw_S} {r : Int32} (hf : f_X_X10_clear__0 t  = some (r, u)) : MC (WX ca a) D (tyv ca) l yX10_clear (.code yX10_clear prog_1_method_11_code 1 (some .int) :: lw_gd) rm_X_X10_clear__0 [.ref (a 0)] (some (.int r)) t u := by
  refine fw_met (okX ca a) (by decide +kernel) rfl rfl (Nat.le_of_ble_eq_true rfl) ?_
  intro p e s m args below meth c A Q ls C hr hk hP hS hl hQ
  exact w_X_X10_clear__0_0 C (fun _ => fw_ri C hr hk hQ) hf hP hS (lv_sub hl [0] rfl)
/-! ReactiveSheet.value(I)J ['x'] -/
abbrev rm_X_X10_value__0 : Room := { frames := 3, cells := 0, slots := 0, locals := 63 }
def b_X_X10_value__0_0  (t : fw_S) (x1 : Int32) : Option (Int64 × fw_S) := fb_v (f_X_X1_now__3 t) fun t_1 => (fb_b (f_X_X0_known__4 t_1 x1) fun v_3 t_2 => (some (v_3, t_2)))
def f_X_X10_value__0 (t : fw_S) (x1 : Int32) : Option (Int64 × fw_S) := b_X_X10_value__0_0 t x1
set_option maxRecDepth 20000 in
theorem w_X_X10_value__0_0 {p : Program} {l : Launch} {e : Env} {s : State} {m : MethodId} {args : Array Value} {below : List Frame} {meth : Method} {c : Code} {A : Nat → Prop} {Q : State → Prop} {D : va_G} {ca : Nat → ClassId} {a : Nat → Nat} {u : fw_S} {r : Int64}  (C : CX (WX ca a) D (tyv ca) p s m args c A prog_1_method_12_code 2 RX10) (hr : True → RX (WX ca a) D p l e rm_X_X10_value__0 s m args below meth c A prog_1_method_12_code Q .lreturn [.long r] u) {t : fw_S} {x1 : Int32} {H : Heap} {locs : List Loc} {ls : Array Slot} (hf : b_X_X10_value__0_0  t x1 = some (r, u)) (hP : va_P D classes (WX ca a t) H) (hS : va_S A s.heap H locs) (hl : lv_has ls 2 [(0, .ref (a 0)), (1, .int x1)]) : W p l e rm_X_X10_value__0 s m args below meth c H locs 0 0 Q (F0 m 0 ls []) := by
  obtain ⟨hx, hb, hml, hown, hts, hN, hK, hD, hA⟩ := id C
  have hf : (fb_v (f_X_X1_now__3 t) fun t_1 => (fb_b (f_X_X0_known__4 t_1 x1) fun v_3 t_2 => (some (v_3, t_2)))) = some (r, u) := hf
  refine lv_aload_n hx hb dX10_value_0 rfl (lv_at hl 0 rfl) ?_
  refine va_get (D := D) (ci := 10) (v := .ref (a 3)) (C := RX10) (T := TX10) (N := 13) hx hb hts inX10 hown hK hP 0 (heX_0 ca a t) rfl 2 (by decide) (hts _ kw_356) (fun _ h9 => h9) rfl dX10_value_1 ?_
  obtain ⟨t_1, g_4, hf⟩ := fb_vs hf
  refine fw_V1 (As := []) (rest := []) (n := 0) (q0 := 3) C (c_X_X1_now__3 (l := l) (D := D) (ca := ca) (a := a) g_4) kw_626 kw_627 kw_95 kw_629 kw_628 hP hS hl (heX_3 ca a t) rfl rfl rfl (by decide) (by decide +kernel) ⟨Nat.le_of_ble_eq_true rfl, Nat.le_of_ble_eq_true rfl⟩ rfl rfl (Nat.le_of_ble_eq_true rfl) dX10_value_4 (fun H locs hP hS => ?_)
  refine W.eq (g2 := F0 m 7 ls [.ref (a 4)]) rfl ?_
  refine lv_iload_n hx hb dX10_value_7 rfl (lv_at hl 1 rfl) ?_
  obtain ⟨v_3, t_2, g_8, hf⟩ := fb_bs hf
  refine fw_V1 (As := [.int x1]) (rest := []) (n := 1) (q0 := 4) C (c_X_X0_known__4 (l := l) (D := D) (ca := ca) (a := a) g_8) kw_856 kw_647 kw_96 kw_649 kw_648 hP hS hl (heX_4 ca a t_1) rfl rfl rfl (by decide) (by decide +kernel) ⟨Nat.le_of_ble_eq_true rfl, Nat.le_of_ble_eq_true rfl⟩ rfl rfl (Nat.le_of_ble_eq_true rfl) dX10_value_8 (fun H locs hP hS => ?_)
  refine W.eq (g2 := F0 m 11 ls [.long v_3]) rfl ?_
  obtain ⟨e_11, e2_11⟩ := fb_e hf
  subst e_11; subst e2_11
  exact hr trivial _ _ _ _ hP hS dX10_value_11
set_option maxRecDepth 20000 in
theorem c_X_X10_value__0 {l : Launch} {D : va_G} {ca : Nat → ClassId} {a : Nat → Nat} {t : fw_S} {x1 : Int32} {u : fw_S} {r : Int64} (hf : f_X_X10_value__0 t x1 = some (r, u)) : MC (WX ca a) D (tyv ca) l yX10_value (.code yX10_value prog_1_method_12_code 2 (some .long) :: lw_gd) rm_X_X10_value__0 [.ref (a 0), .int x1] (some (.long r)) t u := by
  refine fw_met (okX ca a) (by decide +kernel) rfl rfl (Nat.le_of_ble_eq_true rfl) ?_
  intro p e s m args below meth c A Q ls C hr hk hP hS hl hQ
  exact w_X_X10_value__0_0 C (fun _ => fw_rl C hr hk hQ) hf hP hS (lv_sub hl [0, 1] rfl)
/-! ReactiveSheet.Cells.readersOf(I)J ['x.engine.now'] -/
abbrev rm_X_X0_readersOf__4 : Room := { frames := 1, cells := 0, slots := 0, locals := 22 }
def b_X_X0_readersOf__4_48  (t : fw_S) (y2 : Int64) : Option (Int64 × fw_S) := some (y2, t)
def b_X_X0_readersOf__4_42 (k5 : fw_S → Int32 → Int64 → Int32 → Option (Int64 × fw_S)) (t : fw_S) (x1 : Int32) (y2 : Int64) (x4 : Int32) : Option (Int64 × fw_S) := k5 t x1 y2 (x4 + 1)
def b_X_X0_readersOf__4_34 (k5 : fw_S → Int32 → Int64 → Int32 → Option (Int64 × fw_S)) (t : fw_S) (x1 : Int32) (y2 : Int64) (x4 : Int32) : Option (Int64 × fw_S) := fb_b (f_X_X10_bit t x4) fun v_2 t_1 => (b_X_X0_readersOf__4_42 k5 t_1 x1 (y2 ||| v_2) x4)
def b_X_X0_readersOf__4_20 (k5 : fw_S → Int32 → Int64 → Int32 → Option (Int64 × fw_S)) (t : fw_S) (x1 : Int32) (y2 : Int64) (x4 : Int32) : Option (Int64 × fw_S) := fb_g (¬ (x4 < 0 ∨ 32 ≤ x4.toNatClampNeg)) (fb_b (f_X_X10_has t (st_G t 1 x4.toNatClampNeg) x1) fun v_2 t_1 => (if v_2 = 0 then b_X_X0_readersOf__4_42 k5 t_1 x1 y2 x4 else b_X_X0_readersOf__4_34 k5 t_1 x1 y2 x4))
def b_X_X0_readersOf__4_13 (k5 : fw_S → Int32 → Int64 → Int32 → Option (Int64 × fw_S)) (t : fw_S) (x1 : Int32) (y2 : Int64) (x4 : Int32) : Option (Int64 × fw_S) := if ((32 : Int32)) ≤ x4 then b_X_X0_readersOf__4_48 t y2 else b_X_X0_readersOf__4_20 k5 t x1 y2 x4
def b_X_X0_readersOf__4_5  : Nat → (fw_S → Int32 → Int64 → Int32 → Option (Int64 × fw_S))
  | 0 => fun _ _ _ _ => none
  | n + 1 => fun t x1 y2 x4 => fb_b (f_X_X10_isCell t x1.toInt64) fun v_2 t_1 => (if v_2 = 0 then b_X_X0_readersOf__4_48 t_1 y2 else b_X_X0_readersOf__4_13 (b_X_X0_readersOf__4_5 n) t_1 x1 y2 x4)
def b_X_X0_readersOf__4_0  (t : fw_S) (x1 : Int32) : Option (Int64 × fw_S) := b_X_X0_readersOf__4_5 3000 t x1 ((0 : Int64)) ((0 : Int32))
def f_X_X0_readersOf__4 (t : fw_S) (x1 : Int32) : Option (Int64 × fw_S) := b_X_X0_readersOf__4_0 t x1
set_option maxRecDepth 20000 in
theorem w_X_X0_readersOf__4_48 {p : Program} {l : Launch} {e : Env} {s : State} {m : MethodId} {args : Array Value} {below : List Frame} {meth : Method} {c : Code} {A : Nat → Prop} {Q : State → Prop} {D : va_G} {ca : Nat → ClassId} {a : Nat → Nat} {u : fw_S} {r : Int64}  (C : CX (WX ca a) D (tyv ca) p s m args c A prog_2_method_24_code 5 RX0) (hr : True → RX (WX ca a) D p l e rm_X_X0_readersOf__4 s m args below meth c A prog_2_method_24_code Q .lreturn [.long r] u) {t : fw_S} {y2 : Int64} {H : Heap} {locs : List Loc} {ls : Array Slot} (hf : b_X_X0_readersOf__4_48  t y2 = some (r, u)) (hP : va_P D classes (WX ca a t) H) (hS : va_S A s.heap H locs) (hl : lv_has ls 5 [(2, .long y2)]) : W p l e rm_X_X0_readersOf__4 s m args below meth c H locs 0 0 Q (F0 m 48 ls []) := by
  obtain ⟨hx, hb, hml, hown, hts, hN, hK, hD, hA⟩ := id C
  have hf : (some (y2, t)) = some (r, u) := hf
  refine lv_lload_n hx hb dX0_readersOf_48 rfl (lv_at hl 0 rfl) ?_
  obtain ⟨e_49, e2_49⟩ := fb_e hf
  subst e_49; subst e2_49
  exact hr trivial _ _ _ _ hP hS dX0_readersOf_49
set_option maxRecDepth 20000 in
theorem w_X_X0_readersOf__4_42 {p : Program} {l : Launch} {e : Env} {s : State} {m : MethodId} {args : Array Value} {below : List Frame} {meth : Method} {c : Code} {A : Nat → Prop} {Q : State → Prop} {D : va_G} {ca : Nat → ClassId} {a : Nat → Nat} {u : fw_S} {r : Int64} {k5 : fw_S → Int32 → Int64 → Int32 → Option (Int64 × fw_S)} (C : CX (WX ca a) D (tyv ca) p s m args c A prog_2_method_24_code 5 RX0) (hr : True → RX (WX ca a) D p l e rm_X_X0_readersOf__4 s m args below meth c A prog_2_method_24_code Q .lreturn [.long r] u) (hk5 : ∀ (t : fw_S) (x1 : Int32) (y2 : Int64) (x4 : Int32) (H : Heap) (locs : List Loc) (ls : Array Slot), k5 t x1 y2 x4 = some (r, u) → va_P D classes (WX ca a t) H → va_S A s.heap H locs → lv_has ls 5 [(0, .ref (a 4)), (1, .int x1), (2, .long y2), (4, .int x4)] → W p l e rm_X_X0_readersOf__4 s m args below meth c H locs 0 0 Q (F0 m 5 ls [])) {t : fw_S} {x1 : Int32} {y2 : Int64} {x4 : Int32} {H : Heap} {locs : List Loc} {ls : Array Slot} (hf : b_X_X0_readersOf__4_42 k5 t x1 y2 x4 = some (r, u)) (hP : va_P D classes (WX ca a t) H) (hS : va_S A s.heap H locs) (hl : lv_has ls 5 [(0, .ref (a 4)), (1, .int x1), (2, .long y2), (4, .int x4)]) : W p l e rm_X_X0_readersOf__4 s m args below meth c H locs 0 0 Q (F0 m 42 ls []) := by
  obtain ⟨hx, hb, hml, hown, hts, hN, hK, hD, hA⟩ := id C
  have hf : (k5 t x1 y2 (x4 + 1)) = some (r, u) := hf
  refine lv_iinc (v := x4 + 1) (lv' := [(4, .int (x4 + 1)), (0, .ref (a 4)), (1, .int x1), (2, .long y2)]) hx hb dX0_readersOf_42 hl (k := 3) rfl rfl (by decide) rfl (fun ls hl => ?_)
  refine lv_goto (tgt := 5) hx hb dX0_readersOf_45 (by decide) ?_
  exact hk5 t x1 y2 (x4 + 1) _ _ _ hf hP hS (lv_sub hl [1, 2, 3, 0] rfl)
set_option maxRecDepth 20000 in
theorem w_X_X0_readersOf__4_34 {p : Program} {l : Launch} {e : Env} {s : State} {m : MethodId} {args : Array Value} {below : List Frame} {meth : Method} {c : Code} {A : Nat → Prop} {Q : State → Prop} {D : va_G} {ca : Nat → ClassId} {a : Nat → Nat} {u : fw_S} {r : Int64} {k5 : fw_S → Int32 → Int64 → Int32 → Option (Int64 × fw_S)} (C : CX (WX ca a) D (tyv ca) p s m args c A prog_2_method_24_code 5 RX0) (hr : True → RX (WX ca a) D p l e rm_X_X0_readersOf__4 s m args below meth c A prog_2_method_24_code Q .lreturn [.long r] u) (hk5 : ∀ (t : fw_S) (x1 : Int32) (y2 : Int64) (x4 : Int32) (H : Heap) (locs : List Loc) (ls : Array Slot), k5 t x1 y2 x4 = some (r, u) → va_P D classes (WX ca a t) H → va_S A s.heap H locs → lv_has ls 5 [(0, .ref (a 4)), (1, .int x1), (2, .long y2), (4, .int x4)] → W p l e rm_X_X0_readersOf__4 s m args below meth c H locs 0 0 Q (F0 m 5 ls [])) {t : fw_S} {x1 : Int32} {y2 : Int64} {x4 : Int32} {H : Heap} {locs : List Loc} {ls : Array Slot} (hf : b_X_X0_readersOf__4_34 k5 t x1 y2 x4 = some (r, u)) (hP : va_P D classes (WX ca a t) H) (hS : va_S A s.heap H locs) (hl : lv_has ls 5 [(0, .ref (a 4)), (1, .int x1), (2, .long y2), (4, .int x4)]) : W p l e rm_X_X0_readersOf__4 s m args below meth c H locs 0 0 Q (F0 m 34 ls []) := by
  obtain ⟨hx, hb, hml, hown, hts, hN, hK, hD, hA⟩ := id C
  have hf : (fb_b (f_X_X10_bit t x4) fun v_2 t_1 => (b_X_X0_readersOf__4_42 k5 t_1 x1 (y2 ||| v_2) x4)) = some (r, u) := hf
  refine lv_lload_n hx hb dX0_readersOf_34 rfl (lv_at hl 2 rfl) ?_
  refine lv_iload hx hb dX0_readersOf_35 (lv_at hl 3 rfl) ?_
  obtain ⟨v_2, t_1, g_37, hf⟩ := fb_bs hf
  refine fw_S2 (As := [.int x4]) (rest := [.long y2]) (n := 1) C (c_X_X10_bit (l := l) (D := D) (ca := ca) (a := a) g_37) kw_456 kw_408 kw_92 kw_409 hP hS hl rfl rfl (by decide) (by decide +kernel) ⟨Nat.le_of_ble_eq_true rfl, Nat.le_of_ble_eq_true rfl⟩ rfl rfl (Nat.le_of_ble_eq_true rfl) dX0_readersOf_37 (fun H locs hP hS => ?_)
  refine W.eq (g2 := F0 m 40 ls [.long v_2, .long y2]) rfl ?_
  refine lv_lor hx hb dX0_readersOf_40 ?_
  refine lv_lstore_n (lv' := [(2, .long (y2 ||| v_2)), (0, .ref (a 4)), (1, .int x1), (4, .int x4)]) hx hb dX0_readersOf_41 rfl hl (by decide) rfl (fun ls hl => ?_)
  exact w_X_X0_readersOf__4_42 C hr hk5 hf hP hS (lv_sub hl [1, 2, 0, 3] rfl)
set_option maxRecDepth 20000 in
theorem w_X_X0_readersOf__4_20 {p : Program} {l : Launch} {e : Env} {s : State} {m : MethodId} {args : Array Value} {below : List Frame} {meth : Method} {c : Code} {A : Nat → Prop} {Q : State → Prop} {D : va_G} {ca : Nat → ClassId} {a : Nat → Nat} {u : fw_S} {r : Int64} {k5 : fw_S → Int32 → Int64 → Int32 → Option (Int64 × fw_S)} (C : CX (WX ca a) D (tyv ca) p s m args c A prog_2_method_24_code 5 RX0) (hr : True → RX (WX ca a) D p l e rm_X_X0_readersOf__4 s m args below meth c A prog_2_method_24_code Q .lreturn [.long r] u) (hk5 : ∀ (t : fw_S) (x1 : Int32) (y2 : Int64) (x4 : Int32) (H : Heap) (locs : List Loc) (ls : Array Slot), k5 t x1 y2 x4 = some (r, u) → va_P D classes (WX ca a t) H → va_S A s.heap H locs → lv_has ls 5 [(0, .ref (a 4)), (1, .int x1), (2, .long y2), (4, .int x4)] → W p l e rm_X_X0_readersOf__4 s m args below meth c H locs 0 0 Q (F0 m 5 ls [])) {t : fw_S} {x1 : Int32} {y2 : Int64} {x4 : Int32} {H : Heap} {locs : List Loc} {ls : Array Slot} (hf : b_X_X0_readersOf__4_20 k5 t x1 y2 x4 = some (r, u)) (hP : va_P D classes (WX ca a t) H) (hS : va_S A s.heap H locs) (hl : lv_has ls 5 [(0, .ref (a 4)), (1, .int x1), (2, .long y2), (4, .int x4)]) : W p l e rm_X_X0_readersOf__4 s m args below meth c H locs 0 0 Q (F0 m 20 ls []) := by
  obtain ⟨hx, hb, hml, hown, hts, hN, hK, hD, hA⟩ := id C
  have hf : (fb_g (¬ (x4 < 0 ∨ 32 ≤ x4.toNatClampNeg)) (fb_b (f_X_X10_has t (st_G t 1 x4.toNatClampNeg) x1) fun v_2 t_1 => (if v_2 = 0 then b_X_X0_readersOf__4_42 k5 t_1 x1 y2 x4 else b_X_X0_readersOf__4_34 k5 t_1 x1 y2 x4))) = some (r, u) := hf
  refine lv_aload_n hx hb dX0_readersOf_20 rfl (lv_at hl 0 rfl) ?_
  refine va_get (D := D) (ci := 0) (v := .ref (a 31)) (C := RX0) (T := TX0) (N := 12) hx hb hts inX0 hown hK hP 4 (heX_4 ca a t) rfl 9 (by decide) (hts _ kw_196) (fun _ h9 => h9) rfl dX0_readersOf_21 ?_
  refine lv_iload hx hb dX0_readersOf_24 (lv_at hl 3 rfl) ?_
  obtain ⟨h_26, hf⟩ := fb_if hf
  refine va_lald hx hb hK hP 31 1 (haX_31 ca a t) rfl h_26 dX0_readersOf_26 ?_
  refine lv_iload_n hx hb dX0_readersOf_27 rfl (lv_at hl 1 rfl) ?_
  obtain ⟨v_2, t_1, g_28, hf⟩ := fb_bs hf
  refine fw_S2 (As := [.long (st_G t 1 x4.toNatClampNeg), .int x1]) (rest := []) (n := 2) C (c_X_X10_has (l := l) (D := D) (ca := ca) (a := a) g_28) kw_480 kw_442 kw_92 kw_443 hP hS hl rfl rfl (by decide) (by decide +kernel) ⟨Nat.le_of_ble_eq_true rfl, Nat.le_of_ble_eq_true rfl⟩ rfl rfl (Nat.le_of_ble_eq_true rfl) dX0_readersOf_28 (fun H locs hP hS => ?_)
  refine W.eq (g2 := F0 m 31 ls [.int v_2]) rfl ?_
  refine lv_if_eq (tgt := 42) hx hb dX0_readersOf_31 (by decide) (fun h_31 => ?_) (fun h_31 => ?_)
  · have hf := fb_t h_31 hf
    exact w_X_X0_readersOf__4_42 C hr hk5 hf hP hS (lv_sub hl [0, 1, 2, 3] rfl)
  · have hf := fb_f h_31 hf
    exact w_X_X0_readersOf__4_34 C hr hk5 hf hP hS (lv_sub hl [0, 1, 2, 3] rfl)
set_option maxRecDepth 20000 in
theorem w_X_X0_readersOf__4_13 {p : Program} {l : Launch} {e : Env} {s : State} {m : MethodId} {args : Array Value} {below : List Frame} {meth : Method} {c : Code} {A : Nat → Prop} {Q : State → Prop} {D : va_G} {ca : Nat → ClassId} {a : Nat → Nat} {u : fw_S} {r : Int64} {k5 : fw_S → Int32 → Int64 → Int32 → Option (Int64 × fw_S)} (C : CX (WX ca a) D (tyv ca) p s m args c A prog_2_method_24_code 5 RX0) (hr : True → RX (WX ca a) D p l e rm_X_X0_readersOf__4 s m args below meth c A prog_2_method_24_code Q .lreturn [.long r] u) (hk5 : ∀ (t : fw_S) (x1 : Int32) (y2 : Int64) (x4 : Int32) (H : Heap) (locs : List Loc) (ls : Array Slot), k5 t x1 y2 x4 = some (r, u) → va_P D classes (WX ca a t) H → va_S A s.heap H locs → lv_has ls 5 [(0, .ref (a 4)), (1, .int x1), (2, .long y2), (4, .int x4)] → W p l e rm_X_X0_readersOf__4 s m args below meth c H locs 0 0 Q (F0 m 5 ls [])) {t : fw_S} {x1 : Int32} {y2 : Int64} {x4 : Int32} {H : Heap} {locs : List Loc} {ls : Array Slot} (hf : b_X_X0_readersOf__4_13 k5 t x1 y2 x4 = some (r, u)) (hP : va_P D classes (WX ca a t) H) (hS : va_S A s.heap H locs) (hl : lv_has ls 5 [(0, .ref (a 4)), (1, .int x1), (2, .long y2), (4, .int x4)]) : W p l e rm_X_X0_readersOf__4 s m args below meth c H locs 0 0 Q (F0 m 13 ls []) := by
  obtain ⟨hx, hb, hml, hown, hts, hN, hK, hD, hA⟩ := id C
  have hf : (if ((32 : Int32)) ≤ x4 then b_X_X0_readersOf__4_48 t y2 else b_X_X0_readersOf__4_20 k5 t x1 y2 x4) = some (r, u) := hf
  refine lv_iload hx hb dX0_readersOf_13 (lv_at hl 3 rfl) ?_
  refine lv_bipush (v := 32) hx hb dX0_readersOf_15 (by decide) ?_
  refine lv_icmp_ge (tgt := 48) hx hb dX0_readersOf_17 (by decide) (fun h_17 => ?_) (fun h_17 => ?_)
  · have hf := fb_t h_17 hf
    exact w_X_X0_readersOf__4_48 C hr hf hP hS (lv_sub hl [2] rfl)
  · have hf := fb_f h_17 hf
    exact w_X_X0_readersOf__4_20 C hr hk5 hf hP hS (lv_sub hl [0, 1, 2, 3] rfl)
set_option maxRecDepth 20000 in
theorem w_X_X0_readersOf__4_5 {p : Program} {l : Launch} {e : Env} {s : State} {m : MethodId} {args : Array Value} {below : List Frame} {meth : Method} {c : Code} {A : Nat → Prop} {Q : State → Prop} {D : va_G} {ca : Nat → ClassId} {a : Nat → Nat} {u : fw_S} {r : Int64}  (C : CX (WX ca a) D (tyv ca) p s m args c A prog_2_method_24_code 5 RX0) (hr : True → RX (WX ca a) D p l e rm_X_X0_readersOf__4 s m args below meth c A prog_2_method_24_code Q .lreturn [.long r] u) : ∀ (n : Nat) (t : fw_S) (x1 : Int32) (y2 : Int64) (x4 : Int32) (H : Heap) (locs : List Loc) (ls : Array Slot), b_X_X0_readersOf__4_5  n t x1 y2 x4 = some (r, u) → va_P D classes (WX ca a t) H → va_S A s.heap H locs → lv_has ls 5 [(0, .ref (a 4)), (1, .int x1), (2, .long y2), (4, .int x4)] → W p l e rm_X_X0_readersOf__4 s m args below meth c H locs 0 0 Q (F0 m 5 ls []) := by
  obtain ⟨hx, hb, hml, hown, hts, hN, hK, hD, hA⟩ := id C
  intro n
  induction n with
  | zero => intro t x1 y2 x4 H locs ls hf; cases hf
  | succ n hk5 =>
    intro t x1 y2 x4 H locs ls hf hP hS hl
    have hf : (fb_b (f_X_X10_isCell t x1.toInt64) fun v_2 t_1 => (if v_2 = 0 then b_X_X0_readersOf__4_48 t_1 y2 else b_X_X0_readersOf__4_13 (b_X_X0_readersOf__4_5 n) t_1 x1 y2 x4)) = some (r, u) := hf
    refine lv_iload_n hx hb dX0_readersOf_5 rfl (lv_at hl 1 rfl) ?_
    refine lv_i2l hx hb dX0_readersOf_6 rfl ?_
    obtain ⟨v_2, t_1, g_7, hf⟩ := fb_bs hf
    refine fw_S2 (As := [.long x1.toInt64]) (rest := []) (n := 1) C (c_X_X10_isCell (l := l) (D := D) (ca := ca) (a := a) g_7) kw_429 kw_399 kw_92 kw_400 hP hS hl rfl rfl (by decide) (by decide +kernel) ⟨Nat.le_of_ble_eq_true rfl, Nat.le_of_ble_eq_true rfl⟩ rfl rfl (Nat.le_of_ble_eq_true rfl) dX0_readersOf_7 (fun H locs hP hS => ?_)
    refine W.eq (g2 := F0 m 10 ls [.int v_2]) rfl ?_
    refine lv_if_eq (tgt := 48) hx hb dX0_readersOf_10 (by decide) (fun h_10 => ?_) (fun h_10 => ?_)
    · have hf := fb_t h_10 hf
      exact w_X_X0_readersOf__4_48 C hr hf hP hS (lv_sub hl [2] rfl)
    · have hf := fb_f h_10 hf
      exact w_X_X0_readersOf__4_13 C hr hk5 hf hP hS (lv_sub hl [0, 1, 2, 3] rfl)
set_option maxRecDepth 20000 in
theorem w_X_X0_readersOf__4_0 {p : Program} {l : Launch} {e : Env} {s : State} {m : MethodId} {args : Array Value} {below : List Frame} {meth : Method} {c : Code} {A : Nat → Prop} {Q : State → Prop} {D : va_G} {ca : Nat → ClassId} {a : Nat → Nat} {u : fw_S} {r : Int64}  (C : CX (WX ca a) D (tyv ca) p s m args c A prog_2_method_24_code 5 RX0) (hr : True → RX (WX ca a) D p l e rm_X_X0_readersOf__4 s m args below meth c A prog_2_method_24_code Q .lreturn [.long r] u) {t : fw_S} {x1 : Int32} {H : Heap} {locs : List Loc} {ls : Array Slot} (hf : b_X_X0_readersOf__4_0  t x1 = some (r, u)) (hP : va_P D classes (WX ca a t) H) (hS : va_S A s.heap H locs) (hl : lv_has ls 5 [(0, .ref (a 4)), (1, .int x1)]) : W p l e rm_X_X0_readersOf__4 s m args below meth c H locs 0 0 Q (F0 m 0 ls []) := by
  obtain ⟨hx, hb, hml, hown, hts, hN, hK, hD, hA⟩ := id C
  have hf : (b_X_X0_readersOf__4_5 3000 t x1 ((0 : Int64)) ((0 : Int32))) = some (r, u) := hf
  refine lv_lconst (v := 0) hx hb dX0_readersOf_0 (by decide) ?_
  refine lv_lstore_n (lv' := [(2, .long ((0 : Int64))), (0, .ref (a 4)), (1, .int x1)]) hx hb dX0_readersOf_1 rfl hl (by decide) rfl (fun ls hl => ?_)
  refine lv_iconst (v := 0) hx hb dX0_readersOf_2 (by decide) ?_
  refine lv_istore (lv' := [(4, .int ((0 : Int32))), (2, .long ((0 : Int64))), (0, .ref (a 4)), (1, .int x1)]) hx hb dX0_readersOf_3 hl (by decide) rfl (fun ls hl => ?_)
  exact w_X_X0_readersOf__4_5 C hr 3000 t x1 ((0 : Int64)) ((0 : Int32)) _ _ _ hf hP hS (lv_sub hl [2, 3, 1, 0] rfl)
set_option maxRecDepth 20000 in
theorem c_X_X0_readersOf__4 {l : Launch} {D : va_G} {ca : Nat → ClassId} {a : Nat → Nat} {t : fw_S} {x1 : Int32} {u : fw_S} {r : Int64} (hf : f_X_X0_readersOf__4 t x1 = some (r, u)) : MC (WX ca a) D (tyv ca) l yX0_readersOf (.code yX0_readersOf prog_2_method_24_code 5 (some .long) :: lw_gd) rm_X_X0_readersOf__4 [.ref (a 4), .int x1] (some (.long r)) t u := by
  refine fw_met (okX ca a) (by decide +kernel) rfl rfl (Nat.le_of_ble_eq_true rfl) ?_
  intro p e s m args below meth c A Q ls C hr hk hP hS hl hQ
  exact w_X_X0_readersOf__4_0 C (fun _ => fw_rl C hr hk hQ) hf hP hS (lv_sub hl [0, 1] rfl)
/-! ReactiveSheet.Cells.below(I)J ['x.engine.now'] -/
abbrev rm_X_X0_below__4 : Room := { frames := 2, cells := 0, slots := 0, locals := 46 }
def b_X_X0_below__4_73  (t : fw_S) (y2 : Int64) : Option (Int64 × fw_S) := some (y2, t)
def b_X_X0_below__4_67 (k12 : fw_S → Int64 → Int64 → Int32 → Option (Int64 × fw_S)) (t : fw_S) (y2 : Int64) (y4 : Int64) (x6 : Int32) : Option (Int64 × fw_S) := k12 t y2 y4 (x6 + 1)
def b_X_X0_below__4_61 (k12 : fw_S → Int64 → Int64 → Int32 → Option (Int64 × fw_S)) (k32 : fw_S → Int64 → Int64 → Int32 → Int32 → Option (Int64 × fw_S)) (t : fw_S) (y2 : Int64) (y4 : Int64) (x6 : Int32) (x7 : Int32) : Option (Int64 × fw_S) := k32 t y2 y4 x6 (x7 + 1)
def b_X_X0_below__4_53 (k12 : fw_S → Int64 → Int64 → Int32 → Option (Int64 × fw_S)) (k32 : fw_S → Int64 → Int64 → Int32 → Int32 → Option (Int64 × fw_S)) (t : fw_S) (y2 : Int64) (y4 : Int64) (x6 : Int32) (x7 : Int32) : Option (Int64 × fw_S) := fb_b (f_X_X10_bit t x7) fun v_2 t_1 => (b_X_X0_below__4_61 k12 k32 t_1 (y2 ||| v_2) y4 x6 x7)
def b_X_X0_below__4_39 (k12 : fw_S → Int64 → Int64 → Int32 → Option (Int64 × fw_S)) (k32 : fw_S → Int64 → Int64 → Int32 → Int32 → Option (Int64 × fw_S)) (t : fw_S) (y2 : Int64) (y4 : Int64) (x6 : Int32) (x7 : Int32) : Option (Int64 × fw_S) := fb_g (¬ (x7 < 0 ∨ 32 ≤ x7.toNatClampNeg)) (if (lg_cmp ((st_G t 1 x7.toNatClampNeg) &&& y2) ((0 : Int64))) = 0 then b_X_X0_below__4_61 k12 k32 t y2 y4 x6 x7 else b_X_X0_below__4_53 k12 k32 t y2 y4 x6 x7)
def b_X_X0_below__4_32 (k12 : fw_S → Int64 → Int64 → Int32 → Option (Int64 × fw_S)) : Nat → (fw_S → Int64 → Int64 → Int32 → Int32 → Option (Int64 × fw_S))
  | 0 => fun _ _ _ _ _ => none
  | n + 1 => fun t y2 y4 x6 x7 => if ((32 : Int32)) ≤ x7 then b_X_X0_below__4_67 k12 t y2 y4 x6 else b_X_X0_below__4_39 k12 (b_X_X0_below__4_32 k12 n) t y2 y4 x6 x7
def b_X_X0_below__4_26 (k12 : fw_S → Int64 → Int64 → Int32 → Option (Int64 × fw_S)) (t : fw_S) (y2 : Int64) (x6 : Int32) : Option (Int64 × fw_S) := b_X_X0_below__4_32 k12 3000 t y2 y2 x6 ((0 : Int32))
def b_X_X0_below__4_19 (k12 : fw_S → Int64 → Int64 → Int32 → Option (Int64 × fw_S)) (t : fw_S) (y2 : Int64) (y4 : Int64) (x6 : Int32) : Option (Int64 × fw_S) := if (lg_cmp y2 y4) = 0 then b_X_X0_below__4_73 t y2 else b_X_X0_below__4_26 k12 t y2 x6
def b_X_X0_below__4_12  : Nat → (fw_S → Int64 → Int64 → Int32 → Option (Int64 × fw_S))
  | 0 => fun _ _ _ _ => none
  | n + 1 => fun t y2 y4 x6 => if ((32 : Int32)) ≤ x6 then b_X_X0_below__4_73 t y2 else b_X_X0_below__4_19 (b_X_X0_below__4_12 n) t y2 y4 x6
def b_X_X0_below__4_0  (t : fw_S) (x1 : Int32) : Option (Int64 × fw_S) := fb_b (f_X_X0_readersOf__4 t x1) fun v_2 t_1 => (b_X_X0_below__4_12 3000 t_1 v_2 ((0 : Int64)) ((0 : Int32)))
def f_X_X0_below__4 (t : fw_S) (x1 : Int32) : Option (Int64 × fw_S) := b_X_X0_below__4_0 t x1
set_option maxRecDepth 20000 in
theorem w_X_X0_below__4_73 {p : Program} {l : Launch} {e : Env} {s : State} {m : MethodId} {args : Array Value} {below : List Frame} {meth : Method} {c : Code} {A : Nat → Prop} {Q : State → Prop} {D : va_G} {ca : Nat → ClassId} {a : Nat → Nat} {u : fw_S} {r : Int64}  (C : CX (WX ca a) D (tyv ca) p s m args c A prog_2_method_25_code 8 RX0) (hr : True → RX (WX ca a) D p l e rm_X_X0_below__4 s m args below meth c A prog_2_method_25_code Q .lreturn [.long r] u) {t : fw_S} {y2 : Int64} {H : Heap} {locs : List Loc} {ls : Array Slot} (hf : b_X_X0_below__4_73  t y2 = some (r, u)) (hP : va_P D classes (WX ca a t) H) (hS : va_S A s.heap H locs) (hl : lv_has ls 8 [(2, .long y2)]) : W p l e rm_X_X0_below__4 s m args below meth c H locs 0 0 Q (F0 m 73 ls []) := by
  obtain ⟨hx, hb, hml, hown, hts, hN, hK, hD, hA⟩ := id C
  have hf : (some (y2, t)) = some (r, u) := hf
  refine lv_lload_n hx hb dX0_below_73 rfl (lv_at hl 0 rfl) ?_
  obtain ⟨e_74, e2_74⟩ := fb_e hf
  subst e_74; subst e2_74
  exact hr trivial _ _ _ _ hP hS dX0_below_74
set_option maxRecDepth 20000 in
theorem w_X_X0_below__4_67 {p : Program} {l : Launch} {e : Env} {s : State} {m : MethodId} {args : Array Value} {below : List Frame} {meth : Method} {c : Code} {A : Nat → Prop} {Q : State → Prop} {D : va_G} {ca : Nat → ClassId} {a : Nat → Nat} {u : fw_S} {r : Int64} {k12 : fw_S → Int64 → Int64 → Int32 → Option (Int64 × fw_S)} (C : CX (WX ca a) D (tyv ca) p s m args c A prog_2_method_25_code 8 RX0) (hr : True → RX (WX ca a) D p l e rm_X_X0_below__4 s m args below meth c A prog_2_method_25_code Q .lreturn [.long r] u) (hk12 : ∀ (t : fw_S) (y2 : Int64) (y4 : Int64) (x6 : Int32) (H : Heap) (locs : List Loc) (ls : Array Slot), k12 t y2 y4 x6 = some (r, u) → va_P D classes (WX ca a t) H → va_S A s.heap H locs → lv_has ls 8 [(0, .ref (a 4)), (2, .long y2), (4, .long y4), (6, .int x6)] → W p l e rm_X_X0_below__4 s m args below meth c H locs 0 0 Q (F0 m 12 ls [])) {t : fw_S} {y2 : Int64} {y4 : Int64} {x6 : Int32} {H : Heap} {locs : List Loc} {ls : Array Slot} (hf : b_X_X0_below__4_67 k12 t y2 y4 x6 = some (r, u)) (hP : va_P D classes (WX ca a t) H) (hS : va_S A s.heap H locs) (hl : lv_has ls 8 [(0, .ref (a 4)), (2, .long y2), (4, .long y4), (6, .int x6)]) : W p l e rm_X_X0_below__4 s m args below meth c H locs 0 0 Q (F0 m 67 ls []) := by
  obtain ⟨hx, hb, hml, hown, hts, hN, hK, hD, hA⟩ := id C
  have hf : (k12 t y2 y4 (x6 + 1)) = some (r, u) := hf
  refine lv_iinc (v := x6 + 1) (lv' := [(6, .int (x6 + 1)), (0, .ref (a 4)), (2, .long y2), (4, .long y4)]) hx hb dX0_below_67 hl (k := 3) rfl rfl (by decide) rfl (fun ls hl => ?_)
  refine lv_goto (tgt := 12) hx hb dX0_below_70 (by decide) ?_
  exact hk12 t y2 y4 (x6 + 1) _ _ _ hf hP hS (lv_sub hl [1, 2, 3, 0] rfl)
set_option maxRecDepth 20000 in
theorem w_X_X0_below__4_61 {p : Program} {l : Launch} {e : Env} {s : State} {m : MethodId} {args : Array Value} {below : List Frame} {meth : Method} {c : Code} {A : Nat → Prop} {Q : State → Prop} {D : va_G} {ca : Nat → ClassId} {a : Nat → Nat} {u : fw_S} {r : Int64} {k12 : fw_S → Int64 → Int64 → Int32 → Option (Int64 × fw_S)} {k32 : fw_S → Int64 → Int64 → Int32 → Int32 → Option (Int64 × fw_S)} (C : CX (WX ca a) D (tyv ca) p s m args c A prog_2_method_25_code 8 RX0) (hr : True → RX (WX ca a) D p l e rm_X_X0_below__4 s m args below meth c A prog_2_method_25_code Q .lreturn [.long r] u) (hk12 : ∀ (t : fw_S) (y2 : Int64) (y4 : Int64) (x6 : Int32) (H : Heap) (locs : List Loc) (ls : Array Slot), k12 t y2 y4 x6 = some (r, u) → va_P D classes (WX ca a t) H → va_S A s.heap H locs → lv_has ls 8 [(0, .ref (a 4)), (2, .long y2), (4, .long y4), (6, .int x6)] → W p l e rm_X_X0_below__4 s m args below meth c H locs 0 0 Q (F0 m 12 ls [])) (hk32 : ∀ (t : fw_S) (y2 : Int64) (y4 : Int64) (x6 : Int32) (x7 : Int32) (H : Heap) (locs : List Loc) (ls : Array Slot), k32 t y2 y4 x6 x7 = some (r, u) → va_P D classes (WX ca a t) H → va_S A s.heap H locs → lv_has ls 8 [(0, .ref (a 4)), (2, .long y2), (4, .long y4), (6, .int x6), (7, .int x7)] → W p l e rm_X_X0_below__4 s m args below meth c H locs 0 0 Q (F0 m 32 ls [])) {t : fw_S} {y2 : Int64} {y4 : Int64} {x6 : Int32} {x7 : Int32} {H : Heap} {locs : List Loc} {ls : Array Slot} (hf : b_X_X0_below__4_61 k12 k32 t y2 y4 x6 x7 = some (r, u)) (hP : va_P D classes (WX ca a t) H) (hS : va_S A s.heap H locs) (hl : lv_has ls 8 [(0, .ref (a 4)), (2, .long y2), (4, .long y4), (6, .int x6), (7, .int x7)]) : W p l e rm_X_X0_below__4 s m args below meth c H locs 0 0 Q (F0 m 61 ls []) := by
  obtain ⟨hx, hb, hml, hown, hts, hN, hK, hD, hA⟩ := id C
  have hf : (k32 t y2 y4 x6 (x7 + 1)) = some (r, u) := hf
  refine lv_iinc (v := x7 + 1) (lv' := [(7, .int (x7 + 1)), (0, .ref (a 4)), (2, .long y2), (4, .long y4), (6, .int x6)]) hx hb dX0_below_61 hl (k := 4) rfl rfl (by decide) rfl (fun ls hl => ?_)
  refine lv_goto (tgt := 32) hx hb dX0_below_64 (by decide) ?_
  exact hk32 t y2 y4 x6 (x7 + 1) _ _ _ hf hP hS (lv_sub hl [1, 2, 3, 4, 0] rfl)
set_option maxRecDepth 20000 in
theorem w_X_X0_below__4_53 {p : Program} {l : Launch} {e : Env} {s : State} {m : MethodId} {args : Array Value} {below : List Frame} {meth : Method} {c : Code} {A : Nat → Prop} {Q : State → Prop} {D : va_G} {ca : Nat → ClassId} {a : Nat → Nat} {u : fw_S} {r : Int64} {k12 : fw_S → Int64 → Int64 → Int32 → Option (Int64 × fw_S)} {k32 : fw_S → Int64 → Int64 → Int32 → Int32 → Option (Int64 × fw_S)} (C : CX (WX ca a) D (tyv ca) p s m args c A prog_2_method_25_code 8 RX0) (hr : True → RX (WX ca a) D p l e rm_X_X0_below__4 s m args below meth c A prog_2_method_25_code Q .lreturn [.long r] u) (hk12 : ∀ (t : fw_S) (y2 : Int64) (y4 : Int64) (x6 : Int32) (H : Heap) (locs : List Loc) (ls : Array Slot), k12 t y2 y4 x6 = some (r, u) → va_P D classes (WX ca a t) H → va_S A s.heap H locs → lv_has ls 8 [(0, .ref (a 4)), (2, .long y2), (4, .long y4), (6, .int x6)] → W p l e rm_X_X0_below__4 s m args below meth c H locs 0 0 Q (F0 m 12 ls [])) (hk32 : ∀ (t : fw_S) (y2 : Int64) (y4 : Int64) (x6 : Int32) (x7 : Int32) (H : Heap) (locs : List Loc) (ls : Array Slot), k32 t y2 y4 x6 x7 = some (r, u) → va_P D classes (WX ca a t) H → va_S A s.heap H locs → lv_has ls 8 [(0, .ref (a 4)), (2, .long y2), (4, .long y4), (6, .int x6), (7, .int x7)] → W p l e rm_X_X0_below__4 s m args below meth c H locs 0 0 Q (F0 m 32 ls [])) {t : fw_S} {y2 : Int64} {y4 : Int64} {x6 : Int32} {x7 : Int32} {H : Heap} {locs : List Loc} {ls : Array Slot} (hf : b_X_X0_below__4_53 k12 k32 t y2 y4 x6 x7 = some (r, u)) (hP : va_P D classes (WX ca a t) H) (hS : va_S A s.heap H locs) (hl : lv_has ls 8 [(0, .ref (a 4)), (2, .long y2), (4, .long y4), (6, .int x6), (7, .int x7)]) : W p l e rm_X_X0_below__4 s m args below meth c H locs 0 0 Q (F0 m 53 ls []) := by
  obtain ⟨hx, hb, hml, hown, hts, hN, hK, hD, hA⟩ := id C
  have hf : (fb_b (f_X_X10_bit t x7) fun v_2 t_1 => (b_X_X0_below__4_61 k12 k32 t_1 (y2 ||| v_2) y4 x6 x7)) = some (r, u) := hf
  refine lv_lload_n hx hb dX0_below_53 rfl (lv_at hl 1 rfl) ?_
  refine lv_iload hx hb dX0_below_54 (lv_at hl 4 rfl) ?_
  obtain ⟨v_2, t_1, g_56, hf⟩ := fb_bs hf
  refine fw_S2 (As := [.int x7]) (rest := [.long y2]) (n := 1) C (c_X_X10_bit (l := l) (D := D) (ca := ca) (a := a) g_56) kw_456 kw_408 kw_92 kw_409 hP hS hl rfl rfl (by decide) (by decide +kernel) ⟨Nat.le_of_ble_eq_true rfl, Nat.le_of_ble_eq_true rfl⟩ rfl rfl (Nat.le_of_ble_eq_true rfl) dX0_below_56 (fun H locs hP hS => ?_)
  refine W.eq (g2 := F0 m 59 ls [.long v_2, .long y2]) rfl ?_
  refine lv_lor hx hb dX0_below_59 ?_
  refine lv_lstore_n (lv' := [(2, .long (y2 ||| v_2)), (0, .ref (a 4)), (4, .long y4), (6, .int x6), (7, .int x7)]) hx hb dX0_below_60 rfl hl (by decide) rfl (fun ls hl => ?_)
  exact w_X_X0_below__4_61 C hr hk12 hk32 hf hP hS (lv_sub hl [1, 0, 2, 3, 4] rfl)
set_option maxRecDepth 20000 in
theorem w_X_X0_below__4_39 {p : Program} {l : Launch} {e : Env} {s : State} {m : MethodId} {args : Array Value} {below : List Frame} {meth : Method} {c : Code} {A : Nat → Prop} {Q : State → Prop} {D : va_G} {ca : Nat → ClassId} {a : Nat → Nat} {u : fw_S} {r : Int64} {k12 : fw_S → Int64 → Int64 → Int32 → Option (Int64 × fw_S)} {k32 : fw_S → Int64 → Int64 → Int32 → Int32 → Option (Int64 × fw_S)} (C : CX (WX ca a) D (tyv ca) p s m args c A prog_2_method_25_code 8 RX0) (hr : True → RX (WX ca a) D p l e rm_X_X0_below__4 s m args below meth c A prog_2_method_25_code Q .lreturn [.long r] u) (hk12 : ∀ (t : fw_S) (y2 : Int64) (y4 : Int64) (x6 : Int32) (H : Heap) (locs : List Loc) (ls : Array Slot), k12 t y2 y4 x6 = some (r, u) → va_P D classes (WX ca a t) H → va_S A s.heap H locs → lv_has ls 8 [(0, .ref (a 4)), (2, .long y2), (4, .long y4), (6, .int x6)] → W p l e rm_X_X0_below__4 s m args below meth c H locs 0 0 Q (F0 m 12 ls [])) (hk32 : ∀ (t : fw_S) (y2 : Int64) (y4 : Int64) (x6 : Int32) (x7 : Int32) (H : Heap) (locs : List Loc) (ls : Array Slot), k32 t y2 y4 x6 x7 = some (r, u) → va_P D classes (WX ca a t) H → va_S A s.heap H locs → lv_has ls 8 [(0, .ref (a 4)), (2, .long y2), (4, .long y4), (6, .int x6), (7, .int x7)] → W p l e rm_X_X0_below__4 s m args below meth c H locs 0 0 Q (F0 m 32 ls [])) {t : fw_S} {y2 : Int64} {y4 : Int64} {x6 : Int32} {x7 : Int32} {H : Heap} {locs : List Loc} {ls : Array Slot} (hf : b_X_X0_below__4_39 k12 k32 t y2 y4 x6 x7 = some (r, u)) (hP : va_P D classes (WX ca a t) H) (hS : va_S A s.heap H locs) (hl : lv_has ls 8 [(0, .ref (a 4)), (2, .long y2), (4, .long y4), (6, .int x6), (7, .int x7)]) : W p l e rm_X_X0_below__4 s m args below meth c H locs 0 0 Q (F0 m 39 ls []) := by
  obtain ⟨hx, hb, hml, hown, hts, hN, hK, hD, hA⟩ := id C
  have hf : (fb_g (¬ (x7 < 0 ∨ 32 ≤ x7.toNatClampNeg)) (if (lg_cmp ((st_G t 1 x7.toNatClampNeg) &&& y2) ((0 : Int64))) = 0 then b_X_X0_below__4_61 k12 k32 t y2 y4 x6 x7 else b_X_X0_below__4_53 k12 k32 t y2 y4 x6 x7)) = some (r, u) := hf
  refine lv_aload_n hx hb dX0_below_39 rfl (lv_at hl 0 rfl) ?_
  refine va_get (D := D) (ci := 0) (v := .ref (a 31)) (C := RX0) (T := TX0) (N := 12) hx hb hts inX0 hown hK hP 4 (heX_4 ca a t) rfl 9 (by decide) (hts _ kw_196) (fun _ h9 => h9) rfl dX0_below_40 ?_
  refine lv_iload hx hb dX0_below_43 (lv_at hl 4 rfl) ?_
  obtain ⟨h_45, hf⟩ := fb_if hf
  refine va_lald hx hb hK hP 31 1 (haX_31 ca a t) rfl h_45 dX0_below_45 ?_
  refine lv_lload_n hx hb dX0_below_46 rfl (lv_at hl 1 rfl) ?_
  refine lv_land hx hb dX0_below_47 ?_
  refine lv_lconst (v := 0) hx hb dX0_below_48 (by decide) ?_
  refine W.lcmp hx hb dX0_below_49 ?_
  refine lv_if_eq (tgt := 61) hx hb dX0_below_50 (by decide) (fun h_50 => ?_) (fun h_50 => ?_)
  · have hf := fb_t h_50 hf
    exact w_X_X0_below__4_61 C hr hk12 hk32 hf hP hS (lv_sub hl [0, 1, 2, 3, 4] rfl)
  · have hf := fb_f h_50 hf
    exact w_X_X0_below__4_53 C hr hk12 hk32 hf hP hS (lv_sub hl [0, 1, 2, 3, 4] rfl)
set_option maxRecDepth 20000 in
theorem w_X_X0_below__4_32 {p : Program} {l : Launch} {e : Env} {s : State} {m : MethodId} {args : Array Value} {below : List Frame} {meth : Method} {c : Code} {A : Nat → Prop} {Q : State → Prop} {D : va_G} {ca : Nat → ClassId} {a : Nat → Nat} {u : fw_S} {r : Int64} {k12 : fw_S → Int64 → Int64 → Int32 → Option (Int64 × fw_S)} (C : CX (WX ca a) D (tyv ca) p s m args c A prog_2_method_25_code 8 RX0) (hr : True → RX (WX ca a) D p l e rm_X_X0_below__4 s m args below meth c A prog_2_method_25_code Q .lreturn [.long r] u) (hk12 : ∀ (t : fw_S) (y2 : Int64) (y4 : Int64) (x6 : Int32) (H : Heap) (locs : List Loc) (ls : Array Slot), k12 t y2 y4 x6 = some (r, u) → va_P D classes (WX ca a t) H → va_S A s.heap H locs → lv_has ls 8 [(0, .ref (a 4)), (2, .long y2), (4, .long y4), (6, .int x6)] → W p l e rm_X_X0_below__4 s m args below meth c H locs 0 0 Q (F0 m 12 ls [])) : ∀ (n : Nat) (t : fw_S) (y2 : Int64) (y4 : Int64) (x6 : Int32) (x7 : Int32) (H : Heap) (locs : List Loc) (ls : Array Slot), b_X_X0_below__4_32 k12 n t y2 y4 x6 x7 = some (r, u) → va_P D classes (WX ca a t) H → va_S A s.heap H locs → lv_has ls 8 [(0, .ref (a 4)), (2, .long y2), (4, .long y4), (6, .int x6), (7, .int x7)] → W p l e rm_X_X0_below__4 s m args below meth c H locs 0 0 Q (F0 m 32 ls []) := by
  obtain ⟨hx, hb, hml, hown, hts, hN, hK, hD, hA⟩ := id C
  intro n
  induction n with
  | zero => intro t y2 y4 x6 x7 H locs ls hf; cases hf
  | succ n hk32 =>
    intro t y2 y4 x6 x7 H locs ls hf hP hS hl
    have hf : (if ((32 : Int32)) ≤ x7 then b_X_X0_below__4_67 k12 t y2 y4 x6 else b_X_X0_below__4_39 k12 (b_X_X0_below__4_32 k12 n) t y2 y4 x6 x7) = some (r, u) := hf
    refine lv_iload hx hb dX0_below_32 (lv_at hl 4 rfl) ?_
    refine lv_bipush (v := 32) hx hb dX0_below_34 (by decide) ?_
    refine lv_icmp_ge (tgt := 67) hx hb dX0_below_36 (by decide) (fun h_36 => ?_) (fun h_36 => ?_)
    · have hf := fb_t h_36 hf
      exact w_X_X0_below__4_67 C hr hk12 hf hP hS (lv_sub hl [0, 1, 2, 3] rfl)
    · have hf := fb_f h_36 hf
      exact w_X_X0_below__4_39 C hr hk12 hk32 hf hP hS (lv_sub hl [0, 1, 2, 3, 4] rfl)
set_option maxRecDepth 20000 in
theorem w_X_X0_below__4_26 {p : Program} {l : Launch} {e : Env} {s : State} {m : MethodId} {args : Array Value} {below : List Frame} {meth : Method} {c : Code} {A : Nat → Prop} {Q : State → Prop} {D : va_G} {ca : Nat → ClassId} {a : Nat → Nat} {u : fw_S} {r : Int64} {k12 : fw_S → Int64 → Int64 → Int32 → Option (Int64 × fw_S)} (C : CX (WX ca a) D (tyv ca) p s m args c A prog_2_method_25_code 8 RX0) (hr : True → RX (WX ca a) D p l e rm_X_X0_below__4 s m args below meth c A prog_2_method_25_code Q .lreturn [.long r] u) (hk12 : ∀ (t : fw_S) (y2 : Int64) (y4 : Int64) (x6 : Int32) (H : Heap) (locs : List Loc) (ls : Array Slot), k12 t y2 y4 x6 = some (r, u) → va_P D classes (WX ca a t) H → va_S A s.heap H locs → lv_has ls 8 [(0, .ref (a 4)), (2, .long y2), (4, .long y4), (6, .int x6)] → W p l e rm_X_X0_below__4 s m args below meth c H locs 0 0 Q (F0 m 12 ls [])) {t : fw_S} {y2 : Int64} {x6 : Int32} {H : Heap} {locs : List Loc} {ls : Array Slot} (hf : b_X_X0_below__4_26 k12 t y2 x6 = some (r, u)) (hP : va_P D classes (WX ca a t) H) (hS : va_S A s.heap H locs) (hl : lv_has ls 8 [(0, .ref (a 4)), (2, .long y2), (6, .int x6)]) : W p l e rm_X_X0_below__4 s m args below meth c H locs 0 0 Q (F0 m 26 ls []) := by
  obtain ⟨hx, hb, hml, hown, hts, hN, hK, hD, hA⟩ := id C
  have hf : (b_X_X0_below__4_32 k12 3000 t y2 y2 x6 ((0 : Int32))) = some (r, u) := hf
  refine lv_lload_n hx hb dX0_below_26 rfl (lv_at hl 1 rfl) ?_
  refine lv_lstore (lv' := [(4, .long y2), (0, .ref (a 4)), (2, .long y2), (6, .int x6)]) hx hb dX0_below_27 hl (by decide) rfl (fun ls hl => ?_)
  refine lv_iconst (v := 0) hx hb dX0_below_29 (by decide) ?_
  refine lv_istore (lv' := [(7, .int ((0 : Int32))), (4, .long y2), (0, .ref (a 4)), (2, .long y2), (6, .int x6)]) hx hb dX0_below_30 hl (by decide) rfl (fun ls hl => ?_)
  exact w_X_X0_below__4_32 C hr hk12 3000 t y2 y2 x6 ((0 : Int32)) _ _ _ hf hP hS (lv_sub hl [2, 3, 1, 4, 0] rfl)
set_option maxRecDepth 20000 in
theorem w_X_X0_below__4_19 {p : Program} {l : Launch} {e : Env} {s : State} {m : MethodId} {args : Array Value} {below : List Frame} {meth : Method} {c : Code} {A : Nat → Prop} {Q : State → Prop} {D : va_G} {ca : Nat → ClassId} {a : Nat → Nat} {u : fw_S} {r : Int64} {k12 : fw_S → Int64 → Int64 → Int32 → Option (Int64 × fw_S)} (C : CX (WX ca a) D (tyv ca) p s m args c A prog_2_method_25_code 8 RX0) (hr : True → RX (WX ca a) D p l e rm_X_X0_below__4 s m args below meth c A prog_2_method_25_code Q .lreturn [.long r] u) (hk12 : ∀ (t : fw_S) (y2 : Int64) (y4 : Int64) (x6 : Int32) (H : Heap) (locs : List Loc) (ls : Array Slot), k12 t y2 y4 x6 = some (r, u) → va_P D classes (WX ca a t) H → va_S A s.heap H locs → lv_has ls 8 [(0, .ref (a 4)), (2, .long y2), (4, .long y4), (6, .int x6)] → W p l e rm_X_X0_below__4 s m args below meth c H locs 0 0 Q (F0 m 12 ls [])) {t : fw_S} {y2 : Int64} {y4 : Int64} {x6 : Int32} {H : Heap} {locs : List Loc} {ls : Array Slot} (hf : b_X_X0_below__4_19 k12 t y2 y4 x6 = some (r, u)) (hP : va_P D classes (WX ca a t) H) (hS : va_S A s.heap H locs) (hl : lv_has ls 8 [(0, .ref (a 4)), (2, .long y2), (4, .long y4), (6, .int x6)]) : W p l e rm_X_X0_below__4 s m args below meth c H locs 0 0 Q (F0 m 19 ls []) := by
  obtain ⟨hx, hb, hml, hown, hts, hN, hK, hD, hA⟩ := id C
  have hf : (if (lg_cmp y2 y4) = 0 then b_X_X0_below__4_73 t y2 else b_X_X0_below__4_26 k12 t y2 x6) = some (r, u) := hf
  refine lv_lload_n hx hb dX0_below_19 rfl (lv_at hl 1 rfl) ?_
  refine lv_lload hx hb dX0_below_20 (lv_at hl 2 rfl) ?_
  refine W.lcmp hx hb dX0_below_22 ?_
  refine lv_if_eq (tgt := 73) hx hb dX0_below_23 (by decide) (fun h_23 => ?_) (fun h_23 => ?_)
  · have hf := fb_t h_23 hf
    exact w_X_X0_below__4_73 C hr hf hP hS (lv_sub hl [1] rfl)
  · have hf := fb_f h_23 hf
    exact w_X_X0_below__4_26 C hr hk12 hf hP hS (lv_sub hl [0, 1, 3] rfl)
set_option maxRecDepth 20000 in
theorem w_X_X0_below__4_12 {p : Program} {l : Launch} {e : Env} {s : State} {m : MethodId} {args : Array Value} {below : List Frame} {meth : Method} {c : Code} {A : Nat → Prop} {Q : State → Prop} {D : va_G} {ca : Nat → ClassId} {a : Nat → Nat} {u : fw_S} {r : Int64}  (C : CX (WX ca a) D (tyv ca) p s m args c A prog_2_method_25_code 8 RX0) (hr : True → RX (WX ca a) D p l e rm_X_X0_below__4 s m args below meth c A prog_2_method_25_code Q .lreturn [.long r] u) : ∀ (n : Nat) (t : fw_S) (y2 : Int64) (y4 : Int64) (x6 : Int32) (H : Heap) (locs : List Loc) (ls : Array Slot), b_X_X0_below__4_12  n t y2 y4 x6 = some (r, u) → va_P D classes (WX ca a t) H → va_S A s.heap H locs → lv_has ls 8 [(0, .ref (a 4)), (2, .long y2), (4, .long y4), (6, .int x6)] → W p l e rm_X_X0_below__4 s m args below meth c H locs 0 0 Q (F0 m 12 ls []) := by
  obtain ⟨hx, hb, hml, hown, hts, hN, hK, hD, hA⟩ := id C
  intro n
  induction n with
  | zero => intro t y2 y4 x6 H locs ls hf; cases hf
  | succ n hk12 =>
    intro t y2 y4 x6 H locs ls hf hP hS hl
    have hf : (if ((32 : Int32)) ≤ x6 then b_X_X0_below__4_73 t y2 else b_X_X0_below__4_19 (b_X_X0_below__4_12 n) t y2 y4 x6) = some (r, u) := hf
    refine lv_iload hx hb dX0_below_12 (lv_at hl 3 rfl) ?_
    refine lv_bipush (v := 32) hx hb dX0_below_14 (by decide) ?_
    refine lv_icmp_ge (tgt := 73) hx hb dX0_below_16 (by decide) (fun h_16 => ?_) (fun h_16 => ?_)
    · have hf := fb_t h_16 hf
      exact w_X_X0_below__4_73 C hr hf hP hS (lv_sub hl [1] rfl)
    · have hf := fb_f h_16 hf
      exact w_X_X0_below__4_19 C hr hk12 hf hP hS (lv_sub hl [0, 1, 2, 3] rfl)
set_option maxRecDepth 20000 in
theorem w_X_X0_below__4_0 {p : Program} {l : Launch} {e : Env} {s : State} {m : MethodId} {args : Array Value} {below : List Frame} {meth : Method} {c : Code} {A : Nat → Prop} {Q : State → Prop} {D : va_G} {ca : Nat → ClassId} {a : Nat → Nat} {u : fw_S} {r : Int64}  (C : CX (WX ca a) D (tyv ca) p s m args c A prog_2_method_25_code 8 RX0) (hr : True → RX (WX ca a) D p l e rm_X_X0_below__4 s m args below meth c A prog_2_method_25_code Q .lreturn [.long r] u) {t : fw_S} {x1 : Int32} {H : Heap} {locs : List Loc} {ls : Array Slot} (hf : b_X_X0_below__4_0  t x1 = some (r, u)) (hP : va_P D classes (WX ca a t) H) (hS : va_S A s.heap H locs) (hl : lv_has ls 8 [(0, .ref (a 4)), (1, .int x1)]) : W p l e rm_X_X0_below__4 s m args below meth c H locs 0 0 Q (F0 m 0 ls []) := by
  obtain ⟨hx, hb, hml, hown, hts, hN, hK, hD, hA⟩ := id C
  have hf : (fb_b (f_X_X0_readersOf__4 t x1) fun v_2 t_1 => (b_X_X0_below__4_12 3000 t_1 v_2 ((0 : Int64)) ((0 : Int32)))) = some (r, u) := hf
  refine lv_aload_n hx hb dX0_below_0 rfl (lv_at hl 0 rfl) ?_
  refine lv_iload_n hx hb dX0_below_1 rfl (lv_at hl 1 rfl) ?_
  obtain ⟨v_2, t_1, g_2, hf⟩ := fb_bs hf
  refine fw_V1 (As := [.int x1]) (rest := []) (n := 1) (q0 := 4) C (c_X_X0_readersOf__4 (l := l) (D := D) (ca := ca) (a := a) g_2) kw_885 kw_868 kw_96 kw_870 kw_869 hP hS hl (heX_4 ca a t) rfl rfl rfl (by decide) (by decide +kernel) ⟨Nat.le_of_ble_eq_true rfl, Nat.le_of_ble_eq_true rfl⟩ rfl rfl (Nat.le_of_ble_eq_true rfl) dX0_below_2 (fun H locs hP hS => ?_)
  refine W.eq (g2 := F0 m 5 ls [.long v_2]) rfl ?_
  refine lv_lstore_n (lv' := [(2, .long v_2), (0, .ref (a 4)), (1, .int x1)]) hx hb dX0_below_5 rfl hl (by decide) rfl (fun ls hl => ?_)
  refine lv_lconst (v := 0) hx hb dX0_below_6 (by decide) ?_
  refine lv_lstore (lv' := [(4, .long ((0 : Int64))), (2, .long v_2), (0, .ref (a 4)), (1, .int x1)]) hx hb dX0_below_7 hl (by decide) rfl (fun ls hl => ?_)
  refine lv_iconst (v := 0) hx hb dX0_below_9 (by decide) ?_
  refine lv_istore (lv' := [(6, .int ((0 : Int32))), (4, .long ((0 : Int64))), (2, .long v_2), (0, .ref (a 4)), (1, .int x1)]) hx hb dX0_below_10 hl (by decide) rfl (fun ls hl => ?_)
  exact w_X_X0_below__4_12 C hr 3000 t_1 v_2 ((0 : Int64)) ((0 : Int32)) _ _ _ hf hP hS (lv_sub hl [3, 2, 1, 0] rfl)
set_option maxRecDepth 20000 in
theorem c_X_X0_below__4 {l : Launch} {D : va_G} {ca : Nat → ClassId} {a : Nat → Nat} {t : fw_S} {x1 : Int32} {u : fw_S} {r : Int64} (hf : f_X_X0_below__4 t x1 = some (r, u)) : MC (WX ca a) D (tyv ca) l yX0_below (.code yX0_below prog_2_method_25_code 8 (some .long) :: lw_gd) rm_X_X0_below__4 [.ref (a 4), .int x1] (some (.long r)) t u := by
  refine fw_met (okX ca a) (by decide +kernel) rfl rfl (Nat.le_of_ble_eq_true rfl) ?_
  intro p e s m args below meth c A Q ls C hr hk hP hS hl hQ
  exact w_X_X0_below__4_0 C (fun _ => fw_rl C hr hk hQ) hf hP hS (lv_sub hl [0, 1] rfl)
/-! ReactiveSheet.Cells.causeOf(I)I ['x.engine.now'] -/
abbrev rm_X_X0_causeOf__4 : Room := { frames := 1, cells := 0, slots := 0, locals := 21 }
def b_X_X0_causeOf__4_19  (t : fw_S) (z0 : Int32) : Option (Int32 × fw_S) := some (z0, t)
def b_X_X0_causeOf__4_17  (t : fw_S)  : Option (Int32 × fw_S) := b_X_X0_causeOf__4_19 t ((-5 : Int32))
def b_X_X0_causeOf__4_8  (t : fw_S) (x1 : Int32) : Option (Int32 × fw_S) := fb_g (¬ (x1 < 0 ∨ 32 ≤ x1.toNatClampNeg)) (b_X_X0_causeOf__4_19 t (st_F t 12 x1.toNatClampNeg))
def b_X_X0_causeOf__4_0  (t : fw_S) (x1 : Int32) : Option (Int32 × fw_S) := fb_b (f_X_X10_isCell t x1.toInt64) fun v_2 t_1 => (if v_2 = 0 then b_X_X0_causeOf__4_17 t_1 else b_X_X0_causeOf__4_8 t_1 x1)
def f_X_X0_causeOf__4 (t : fw_S) (x1 : Int32) : Option (Int32 × fw_S) := b_X_X0_causeOf__4_0 t x1
set_option maxRecDepth 20000 in
theorem w_X_X0_causeOf__4_19 {p : Program} {l : Launch} {e : Env} {s : State} {m : MethodId} {args : Array Value} {below : List Frame} {meth : Method} {c : Code} {A : Nat → Prop} {Q : State → Prop} {D : va_G} {ca : Nat → ClassId} {a : Nat → Nat} {u : fw_S} {r : Int32}  (C : CX (WX ca a) D (tyv ca) p s m args c A prog_2_method_16_code 2 RX0) (hr : True → RX (WX ca a) D p l e rm_X_X0_causeOf__4 s m args below meth c A prog_2_method_16_code Q .ireturn [.int r] u) {t : fw_S} {z0 : Int32} {H : Heap} {locs : List Loc} {ls : Array Slot} (hf : b_X_X0_causeOf__4_19  t z0 = some (r, u)) (hP : va_P D classes (WX ca a t) H) (hS : va_S A s.heap H locs) (hl : lv_has ls 2 []) : W p l e rm_X_X0_causeOf__4 s m args below meth c H locs 0 0 Q (F0 m 19 ls [.int z0]) := by
  obtain ⟨hx, hb, hml, hown, hts, hN, hK, hD, hA⟩ := id C
  have hf : (some (z0, t)) = some (r, u) := hf
  obtain ⟨e_19, e2_19⟩ := fb_e hf
  subst e_19; subst e2_19
  exact hr trivial _ _ _ _ hP hS dX0_causeOf_19
set_option maxRecDepth 20000 in
theorem w_X_X0_causeOf__4_17 {p : Program} {l : Launch} {e : Env} {s : State} {m : MethodId} {args : Array Value} {below : List Frame} {meth : Method} {c : Code} {A : Nat → Prop} {Q : State → Prop} {D : va_G} {ca : Nat → ClassId} {a : Nat → Nat} {u : fw_S} {r : Int32}  (C : CX (WX ca a) D (tyv ca) p s m args c A prog_2_method_16_code 2 RX0) (hr : True → RX (WX ca a) D p l e rm_X_X0_causeOf__4 s m args below meth c A prog_2_method_16_code Q .ireturn [.int r] u) {t : fw_S}  {H : Heap} {locs : List Loc} {ls : Array Slot} (hf : b_X_X0_causeOf__4_17  t  = some (r, u)) (hP : va_P D classes (WX ca a t) H) (hS : va_S A s.heap H locs) (hl : lv_has ls 2 []) : W p l e rm_X_X0_causeOf__4 s m args below meth c H locs 0 0 Q (F0 m 17 ls []) := by
  obtain ⟨hx, hb, hml, hown, hts, hN, hK, hD, hA⟩ := id C
  have hf : (b_X_X0_causeOf__4_19 t ((-5 : Int32))) = some (r, u) := hf
  refine lv_bipush (v := (-5)) hx hb dX0_causeOf_17 (by decide) ?_
  exact w_X_X0_causeOf__4_19 C hr hf hP hS (lv_sub hl [] rfl)
set_option maxRecDepth 20000 in
theorem w_X_X0_causeOf__4_8 {p : Program} {l : Launch} {e : Env} {s : State} {m : MethodId} {args : Array Value} {below : List Frame} {meth : Method} {c : Code} {A : Nat → Prop} {Q : State → Prop} {D : va_G} {ca : Nat → ClassId} {a : Nat → Nat} {u : fw_S} {r : Int32}  (C : CX (WX ca a) D (tyv ca) p s m args c A prog_2_method_16_code 2 RX0) (hr : True → RX (WX ca a) D p l e rm_X_X0_causeOf__4 s m args below meth c A prog_2_method_16_code Q .ireturn [.int r] u) {t : fw_S} {x1 : Int32} {H : Heap} {locs : List Loc} {ls : Array Slot} (hf : b_X_X0_causeOf__4_8  t x1 = some (r, u)) (hP : va_P D classes (WX ca a t) H) (hS : va_S A s.heap H locs) (hl : lv_has ls 2 [(0, .ref (a 4)), (1, .int x1)]) : W p l e rm_X_X0_causeOf__4 s m args below meth c H locs 0 0 Q (F0 m 8 ls []) := by
  obtain ⟨hx, hb, hml, hown, hts, hN, hK, hD, hA⟩ := id C
  have hf : (fb_g (¬ (x1 < 0 ∨ 32 ≤ x1.toNatClampNeg)) (b_X_X0_causeOf__4_19 t (st_F t 12 x1.toNatClampNeg))) = some (r, u) := hf
  refine lv_aload_n hx hb dX0_causeOf_8 rfl (lv_at hl 0 rfl) ?_
  refine va_get (D := D) (ci := 0) (v := .ref (a 28)) (C := RX0) (T := TX0) (N := 12) hx hb hts inX0 hown hK hP 4 (heX_4 ca a t) rfl 6 (by decide) (hts _ kw_193) (fun _ h9 => h9) rfl dX0_causeOf_9 ?_
  refine lv_iload_n hx hb dX0_causeOf_12 rfl (lv_at hl 1 rfl) ?_
  obtain ⟨h_13, hf⟩ := fb_if hf
  refine va_iald hx hb hK hP 28 0 (haX_28 ca a t) rfl h_13 dX0_causeOf_13 ?_
  refine lv_goto (tgt := 19) hx hb dX0_causeOf_14 (by decide) ?_
  exact w_X_X0_causeOf__4_19 C hr hf hP hS (lv_sub hl [] rfl)
set_option maxRecDepth 20000 in
theorem w_X_X0_causeOf__4_0 {p : Program} {l : Launch} {e : Env} {s : State} {m : MethodId} {args : Array Value} {below : List Frame} {meth : Method} {c : Code} {A : Nat → Prop} {Q : State → Prop} {D : va_G} {ca : Nat → ClassId} {a : Nat → Nat} {u : fw_S} {r : Int32}  (C : CX (WX ca a) D (tyv ca) p s m args c A prog_2_method_16_code 2 RX0) (hr : True → RX (WX ca a) D p l e rm_X_X0_causeOf__4 s m args below meth c A prog_2_method_16_code Q .ireturn [.int r] u) {t : fw_S} {x1 : Int32} {H : Heap} {locs : List Loc} {ls : Array Slot} (hf : b_X_X0_causeOf__4_0  t x1 = some (r, u)) (hP : va_P D classes (WX ca a t) H) (hS : va_S A s.heap H locs) (hl : lv_has ls 2 [(0, .ref (a 4)), (1, .int x1)]) : W p l e rm_X_X0_causeOf__4 s m args below meth c H locs 0 0 Q (F0 m 0 ls []) := by
  obtain ⟨hx, hb, hml, hown, hts, hN, hK, hD, hA⟩ := id C
  have hf : (fb_b (f_X_X10_isCell t x1.toInt64) fun v_2 t_1 => (if v_2 = 0 then b_X_X0_causeOf__4_17 t_1 else b_X_X0_causeOf__4_8 t_1 x1)) = some (r, u) := hf
  refine lv_iload_n hx hb dX0_causeOf_0 rfl (lv_at hl 1 rfl) ?_
  refine lv_i2l hx hb dX0_causeOf_1 rfl ?_
  obtain ⟨v_2, t_1, g_2, hf⟩ := fb_bs hf
  refine fw_S2 (As := [.long x1.toInt64]) (rest := []) (n := 1) C (c_X_X10_isCell (l := l) (D := D) (ca := ca) (a := a) g_2) kw_429 kw_399 kw_92 kw_400 hP hS hl rfl rfl (by decide) (by decide +kernel) ⟨Nat.le_of_ble_eq_true rfl, Nat.le_of_ble_eq_true rfl⟩ rfl rfl (Nat.le_of_ble_eq_true rfl) dX0_causeOf_2 (fun H locs hP hS => ?_)
  refine W.eq (g2 := F0 m 5 ls [.int v_2]) rfl ?_
  refine lv_if_eq (tgt := 17) hx hb dX0_causeOf_5 (by decide) (fun h_5 => ?_) (fun h_5 => ?_)
  · have hf := fb_t h_5 hf
    exact w_X_X0_causeOf__4_17 C hr hf hP hS (lv_sub hl [] rfl)
  · have hf := fb_f h_5 hf
    exact w_X_X0_causeOf__4_8 C hr hf hP hS (lv_sub hl [0, 1] rfl)
set_option maxRecDepth 20000 in
theorem c_X_X0_causeOf__4 {l : Launch} {D : va_G} {ca : Nat → ClassId} {a : Nat → Nat} {t : fw_S} {x1 : Int32} {u : fw_S} {r : Int32} (hf : f_X_X0_causeOf__4 t x1 = some (r, u)) : MC (WX ca a) D (tyv ca) l yX0_causeOf (.code yX0_causeOf prog_2_method_16_code 2 (some .int) :: lw_gd) rm_X_X0_causeOf__4 [.ref (a 4), .int x1] (some (.int r)) t u := by
  refine fw_met (okX ca a) (by decide +kernel) rfl rfl (Nat.le_of_ble_eq_true rfl) ?_
  intro p e s m args below meth c A Q ls C hr hk hP hS hl hQ
  exact w_X_X0_causeOf__4_0 C (fun _ => fw_ri C hr hk hQ) hf hP hS (lv_sub hl [0, 1] rfl)
/-! ReactiveSheet.Cells.hasRun(I)Z ['x.engine.now'] -/
abbrev rm_X_X0_hasRun__4 : Room := { frames := 1, cells := 0, slots := 0, locals := 22 }
def b_X_X0_hasRun__4_24  (t : fw_S) (z0 : Int32) : Option (Int32 × fw_S) := fb_g (z0 = 0 ∨ z0 = 1) (some (z0, t))
def b_X_X0_hasRun__4_23  (t : fw_S)  : Option (Int32 × fw_S) := b_X_X0_hasRun__4_24 t ((0 : Int32))
def b_X_X0_hasRun__4_19  (t : fw_S)  : Option (Int32 × fw_S) := b_X_X0_hasRun__4_24 t ((1 : Int32))
def b_X_X0_hasRun__4_8  (t : fw_S) (x1 : Int32) : Option (Int32 × fw_S) := fb_b (f_X_X10_has t (st_J t 5) x1) fun v_2 t_1 => (if v_2 = 0 then b_X_X0_hasRun__4_23 t_1 else b_X_X0_hasRun__4_19 t_1)
def b_X_X0_hasRun__4_0  (t : fw_S) (x1 : Int32) : Option (Int32 × fw_S) := fb_b (f_X_X10_isCell t x1.toInt64) fun v_2 t_1 => (if v_2 = 0 then b_X_X0_hasRun__4_23 t_1 else b_X_X0_hasRun__4_8 t_1 x1)
def f_X_X0_hasRun__4 (t : fw_S) (x1 : Int32) : Option (Int32 × fw_S) := b_X_X0_hasRun__4_0 t x1
set_option maxRecDepth 20000 in
theorem w_X_X0_hasRun__4_24 {p : Program} {l : Launch} {e : Env} {s : State} {m : MethodId} {args : Array Value} {below : List Frame} {meth : Method} {c : Code} {A : Nat → Prop} {Q : State → Prop} {D : va_G} {ca : Nat → ClassId} {a : Nat → Nat} {u : fw_S} {r : Int32}  (C : CX (WX ca a) D (tyv ca) p s m args c A prog_2_method_18_code 2 RX0) (hr : (r = 0 ∨ r = 1) → RX (WX ca a) D p l e rm_X_X0_hasRun__4 s m args below meth c A prog_2_method_18_code Q .ireturn [.int r] u) {t : fw_S} {z0 : Int32} {H : Heap} {locs : List Loc} {ls : Array Slot} (hf : b_X_X0_hasRun__4_24  t z0 = some (r, u)) (hP : va_P D classes (WX ca a t) H) (hS : va_S A s.heap H locs) (hl : lv_has ls 2 []) : W p l e rm_X_X0_hasRun__4 s m args below meth c H locs 0 0 Q (F0 m 24 ls [.int z0]) := by
  obtain ⟨hx, hb, hml, hown, hts, hN, hK, hD, hA⟩ := id C
  have hf : (fb_g (z0 = 0 ∨ z0 = 1) (some (z0, t))) = some (r, u) := hf
  obtain ⟨h_24, hf⟩ := fb_if hf
  obtain ⟨e_24, e2_24⟩ := fb_e hf
  subst e_24; subst e2_24
  exact hr h_24 _ _ _ _ hP hS dX0_hasRun_24
set_option maxRecDepth 20000 in
theorem w_X_X0_hasRun__4_23 {p : Program} {l : Launch} {e : Env} {s : State} {m : MethodId} {args : Array Value} {below : List Frame} {meth : Method} {c : Code} {A : Nat → Prop} {Q : State → Prop} {D : va_G} {ca : Nat → ClassId} {a : Nat → Nat} {u : fw_S} {r : Int32}  (C : CX (WX ca a) D (tyv ca) p s m args c A prog_2_method_18_code 2 RX0) (hr : (r = 0 ∨ r = 1) → RX (WX ca a) D p l e rm_X_X0_hasRun__4 s m args below meth c A prog_2_method_18_code Q .ireturn [.int r] u) {t : fw_S}  {H : Heap} {locs : List Loc} {ls : Array Slot} (hf : b_X_X0_hasRun__4_23  t  = some (r, u)) (hP : va_P D classes (WX ca a t) H) (hS : va_S A s.heap H locs) (hl : lv_has ls 2 []) : W p l e rm_X_X0_hasRun__4 s m args below meth c H locs 0 0 Q (F0 m 23 ls []) := by
  obtain ⟨hx, hb, hml, hown, hts, hN, hK, hD, hA⟩ := id C
  have hf : (b_X_X0_hasRun__4_24 t ((0 : Int32))) = some (r, u) := hf
  refine lv_iconst (v := 0) hx hb dX0_hasRun_23 (by decide) ?_
  exact w_X_X0_hasRun__4_24 C hr hf hP hS (lv_sub hl [] rfl)
set_option maxRecDepth 20000 in
theorem w_X_X0_hasRun__4_19 {p : Program} {l : Launch} {e : Env} {s : State} {m : MethodId} {args : Array Value} {below : List Frame} {meth : Method} {c : Code} {A : Nat → Prop} {Q : State → Prop} {D : va_G} {ca : Nat → ClassId} {a : Nat → Nat} {u : fw_S} {r : Int32}  (C : CX (WX ca a) D (tyv ca) p s m args c A prog_2_method_18_code 2 RX0) (hr : (r = 0 ∨ r = 1) → RX (WX ca a) D p l e rm_X_X0_hasRun__4 s m args below meth c A prog_2_method_18_code Q .ireturn [.int r] u) {t : fw_S}  {H : Heap} {locs : List Loc} {ls : Array Slot} (hf : b_X_X0_hasRun__4_19  t  = some (r, u)) (hP : va_P D classes (WX ca a t) H) (hS : va_S A s.heap H locs) (hl : lv_has ls 2 []) : W p l e rm_X_X0_hasRun__4 s m args below meth c H locs 0 0 Q (F0 m 19 ls []) := by
  obtain ⟨hx, hb, hml, hown, hts, hN, hK, hD, hA⟩ := id C
  have hf : (b_X_X0_hasRun__4_24 t ((1 : Int32))) = some (r, u) := hf
  refine lv_iconst (v := 1) hx hb dX0_hasRun_19 (by decide) ?_
  refine lv_goto (tgt := 24) hx hb dX0_hasRun_20 (by decide) ?_
  exact w_X_X0_hasRun__4_24 C hr hf hP hS (lv_sub hl [] rfl)
set_option maxRecDepth 20000 in
theorem w_X_X0_hasRun__4_8 {p : Program} {l : Launch} {e : Env} {s : State} {m : MethodId} {args : Array Value} {below : List Frame} {meth : Method} {c : Code} {A : Nat → Prop} {Q : State → Prop} {D : va_G} {ca : Nat → ClassId} {a : Nat → Nat} {u : fw_S} {r : Int32}  (C : CX (WX ca a) D (tyv ca) p s m args c A prog_2_method_18_code 2 RX0) (hr : (r = 0 ∨ r = 1) → RX (WX ca a) D p l e rm_X_X0_hasRun__4 s m args below meth c A prog_2_method_18_code Q .ireturn [.int r] u) {t : fw_S} {x1 : Int32} {H : Heap} {locs : List Loc} {ls : Array Slot} (hf : b_X_X0_hasRun__4_8  t x1 = some (r, u)) (hP : va_P D classes (WX ca a t) H) (hS : va_S A s.heap H locs) (hl : lv_has ls 2 [(0, .ref (a 4)), (1, .int x1)]) : W p l e rm_X_X0_hasRun__4 s m args below meth c H locs 0 0 Q (F0 m 8 ls []) := by
  obtain ⟨hx, hb, hml, hown, hts, hN, hK, hD, hA⟩ := id C
  have hf : (fb_b (f_X_X10_has t (st_J t 5) x1) fun v_2 t_1 => (if v_2 = 0 then b_X_X0_hasRun__4_23 t_1 else b_X_X0_hasRun__4_19 t_1)) = some (r, u) := hf
  refine lv_aload_n hx hb dX0_hasRun_8 rfl (lv_at hl 0 rfl) ?_
  refine va_get (D := D) (ci := 0) (v := .long (st_J t 5)) (C := RX0) (T := TX0) (N := 12) hx hb hts inX0 hown hK hP 4 (heX_4 ca a t) rfl 11 (by decide) (hts _ kw_198) (fun _ h9 => h9) rfl dX0_hasRun_9 ?_
  refine lv_iload_n hx hb dX0_hasRun_12 rfl (lv_at hl 1 rfl) ?_
  obtain ⟨v_2, t_1, g_13, hf⟩ := fb_bs hf
  refine fw_S2 (As := [.long (st_J t 5), .int x1]) (rest := []) (n := 2) C (c_X_X10_has (l := l) (D := D) (ca := ca) (a := a) g_13) kw_480 kw_442 kw_92 kw_443 hP hS hl rfl rfl (by decide) (by decide +kernel) ⟨Nat.le_of_ble_eq_true rfl, Nat.le_of_ble_eq_true rfl⟩ rfl rfl (Nat.le_of_ble_eq_true rfl) dX0_hasRun_13 (fun H locs hP hS => ?_)
  refine W.eq (g2 := F0 m 16 ls [.int v_2]) rfl ?_
  refine lv_if_eq (tgt := 23) hx hb dX0_hasRun_16 (by decide) (fun h_16 => ?_) (fun h_16 => ?_)
  · have hf := fb_t h_16 hf
    exact w_X_X0_hasRun__4_23 C hr hf hP hS (lv_sub hl [] rfl)
  · have hf := fb_f h_16 hf
    exact w_X_X0_hasRun__4_19 C hr hf hP hS (lv_sub hl [] rfl)
set_option maxRecDepth 20000 in
theorem w_X_X0_hasRun__4_0 {p : Program} {l : Launch} {e : Env} {s : State} {m : MethodId} {args : Array Value} {below : List Frame} {meth : Method} {c : Code} {A : Nat → Prop} {Q : State → Prop} {D : va_G} {ca : Nat → ClassId} {a : Nat → Nat} {u : fw_S} {r : Int32}  (C : CX (WX ca a) D (tyv ca) p s m args c A prog_2_method_18_code 2 RX0) (hr : (r = 0 ∨ r = 1) → RX (WX ca a) D p l e rm_X_X0_hasRun__4 s m args below meth c A prog_2_method_18_code Q .ireturn [.int r] u) {t : fw_S} {x1 : Int32} {H : Heap} {locs : List Loc} {ls : Array Slot} (hf : b_X_X0_hasRun__4_0  t x1 = some (r, u)) (hP : va_P D classes (WX ca a t) H) (hS : va_S A s.heap H locs) (hl : lv_has ls 2 [(0, .ref (a 4)), (1, .int x1)]) : W p l e rm_X_X0_hasRun__4 s m args below meth c H locs 0 0 Q (F0 m 0 ls []) := by
  obtain ⟨hx, hb, hml, hown, hts, hN, hK, hD, hA⟩ := id C
  have hf : (fb_b (f_X_X10_isCell t x1.toInt64) fun v_2 t_1 => (if v_2 = 0 then b_X_X0_hasRun__4_23 t_1 else b_X_X0_hasRun__4_8 t_1 x1)) = some (r, u) := hf
  refine lv_iload_n hx hb dX0_hasRun_0 rfl (lv_at hl 1 rfl) ?_
  refine lv_i2l hx hb dX0_hasRun_1 rfl ?_
  obtain ⟨v_2, t_1, g_2, hf⟩ := fb_bs hf
  refine fw_S2 (As := [.long x1.toInt64]) (rest := []) (n := 1) C (c_X_X10_isCell (l := l) (D := D) (ca := ca) (a := a) g_2) kw_429 kw_399 kw_92 kw_400 hP hS hl rfl rfl (by decide) (by decide +kernel) ⟨Nat.le_of_ble_eq_true rfl, Nat.le_of_ble_eq_true rfl⟩ rfl rfl (Nat.le_of_ble_eq_true rfl) dX0_hasRun_2 (fun H locs hP hS => ?_)
  refine W.eq (g2 := F0 m 5 ls [.int v_2]) rfl ?_
  refine lv_if_eq (tgt := 23) hx hb dX0_hasRun_5 (by decide) (fun h_5 => ?_) (fun h_5 => ?_)
  · have hf := fb_t h_5 hf
    exact w_X_X0_hasRun__4_23 C hr hf hP hS (lv_sub hl [] rfl)
  · have hf := fb_f h_5 hf
    exact w_X_X0_hasRun__4_8 C hr hf hP hS (lv_sub hl [0, 1] rfl)
set_option maxRecDepth 20000 in
theorem c_X_X0_hasRun__4 {l : Launch} {D : va_G} {ca : Nat → ClassId} {a : Nat → Nat} {t : fw_S} {x1 : Int32} {u : fw_S} {r : Int32} (hf : f_X_X0_hasRun__4 t x1 = some (r, u)) : MC (WX ca a) D (tyv ca) l yX0_hasRun (.code yX0_hasRun prog_2_method_18_code 2 (some .boolean) :: lw_gd) rm_X_X0_hasRun__4 [.ref (a 4), .int x1] (some (.int r)) t u := by
  refine fw_met (okX ca a) (by decide +kernel) rfl rfl (Nat.le_of_ble_eq_true rfl) ?_
  intro p e s m args below meth c A Q ls C hr hk hP hS hl hQ
  exact w_X_X0_hasRun__4_0 C (fun hz => fw_rz C hr hk hz hQ) hf hP hS (lv_sub hl [0, 1] rfl)
/-! ReactiveSheet.Cells.runsOf(I)I ['x.engine.now'] -/
abbrev rm_X_X0_runsOf__4 : Room := { frames := 1, cells := 0, slots := 0, locals := 21 }
def b_X_X0_runsOf__4_18  (t : fw_S) (z0 : Int32) : Option (Int32 × fw_S) := some (z0, t)
def b_X_X0_runsOf__4_17  (t : fw_S)  : Option (Int32 × fw_S) := b_X_X0_runsOf__4_18 t ((0 : Int32))
def b_X_X0_runsOf__4_8  (t : fw_S) (x1 : Int32) : Option (Int32 × fw_S) := fb_g (¬ (x1 < 0 ∨ 32 ≤ x1.toNatClampNeg)) (b_X_X0_runsOf__4_18 t (st_F t 10 x1.toNatClampNeg))
def b_X_X0_runsOf__4_0  (t : fw_S) (x1 : Int32) : Option (Int32 × fw_S) := fb_b (f_X_X10_isCell t x1.toInt64) fun v_2 t_1 => (if v_2 = 0 then b_X_X0_runsOf__4_17 t_1 else b_X_X0_runsOf__4_8 t_1 x1)
def f_X_X0_runsOf__4 (t : fw_S) (x1 : Int32) : Option (Int32 × fw_S) := b_X_X0_runsOf__4_0 t x1
set_option maxRecDepth 20000 in
theorem w_X_X0_runsOf__4_18 {p : Program} {l : Launch} {e : Env} {s : State} {m : MethodId} {args : Array Value} {below : List Frame} {meth : Method} {c : Code} {A : Nat → Prop} {Q : State → Prop} {D : va_G} {ca : Nat → ClassId} {a : Nat → Nat} {u : fw_S} {r : Int32}  (C : CX (WX ca a) D (tyv ca) p s m args c A prog_2_method_15_code 2 RX0) (hr : True → RX (WX ca a) D p l e rm_X_X0_runsOf__4 s m args below meth c A prog_2_method_15_code Q .ireturn [.int r] u) {t : fw_S} {z0 : Int32} {H : Heap} {locs : List Loc} {ls : Array Slot} (hf : b_X_X0_runsOf__4_18  t z0 = some (r, u)) (hP : va_P D classes (WX ca a t) H) (hS : va_S A s.heap H locs) (hl : lv_has ls 2 []) : W p l e rm_X_X0_runsOf__4 s m args below meth c H locs 0 0 Q (F0 m 18 ls [.int z0]) := by
  obtain ⟨hx, hb, hml, hown, hts, hN, hK, hD, hA⟩ := id C
  have hf : (some (z0, t)) = some (r, u) := hf
  obtain ⟨e_18, e2_18⟩ := fb_e hf
  subst e_18; subst e2_18
  exact hr trivial _ _ _ _ hP hS dX0_runsOf_18
set_option maxRecDepth 20000 in
theorem w_X_X0_runsOf__4_17 {p : Program} {l : Launch} {e : Env} {s : State} {m : MethodId} {args : Array Value} {below : List Frame} {meth : Method} {c : Code} {A : Nat → Prop} {Q : State → Prop} {D : va_G} {ca : Nat → ClassId} {a : Nat → Nat} {u : fw_S} {r : Int32}  (C : CX (WX ca a) D (tyv ca) p s m args c A prog_2_method_15_code 2 RX0) (hr : True → RX (WX ca a) D p l e rm_X_X0_runsOf__4 s m args below meth c A prog_2_method_15_code Q .ireturn [.int r] u) {t : fw_S}  {H : Heap} {locs : List Loc} {ls : Array Slot} (hf : b_X_X0_runsOf__4_17  t  = some (r, u)) (hP : va_P D classes (WX ca a t) H) (hS : va_S A s.heap H locs) (hl : lv_has ls 2 []) : W p l e rm_X_X0_runsOf__4 s m args below meth c H locs 0 0 Q (F0 m 17 ls []) := by
  obtain ⟨hx, hb, hml, hown, hts, hN, hK, hD, hA⟩ := id C
  have hf : (b_X_X0_runsOf__4_18 t ((0 : Int32))) = some (r, u) := hf
  refine lv_iconst (v := 0) hx hb dX0_runsOf_17 (by decide) ?_
  exact w_X_X0_runsOf__4_18 C hr hf hP hS (lv_sub hl [] rfl)
set_option maxRecDepth 20000 in
theorem w_X_X0_runsOf__4_8 {p : Program} {l : Launch} {e : Env} {s : State} {m : MethodId} {args : Array Value} {below : List Frame} {meth : Method} {c : Code} {A : Nat → Prop} {Q : State → Prop} {D : va_G} {ca : Nat → ClassId} {a : Nat → Nat} {u : fw_S} {r : Int32}  (C : CX (WX ca a) D (tyv ca) p s m args c A prog_2_method_15_code 2 RX0) (hr : True → RX (WX ca a) D p l e rm_X_X0_runsOf__4 s m args below meth c A prog_2_method_15_code Q .ireturn [.int r] u) {t : fw_S} {x1 : Int32} {H : Heap} {locs : List Loc} {ls : Array Slot} (hf : b_X_X0_runsOf__4_8  t x1 = some (r, u)) (hP : va_P D classes (WX ca a t) H) (hS : va_S A s.heap H locs) (hl : lv_has ls 2 [(0, .ref (a 4)), (1, .int x1)]) : W p l e rm_X_X0_runsOf__4 s m args below meth c H locs 0 0 Q (F0 m 8 ls []) := by
  obtain ⟨hx, hb, hml, hown, hts, hN, hK, hD, hA⟩ := id C
  have hf : (fb_g (¬ (x1 < 0 ∨ 32 ≤ x1.toNatClampNeg)) (b_X_X0_runsOf__4_18 t (st_F t 10 x1.toNatClampNeg))) = some (r, u) := hf
  refine lv_aload_n hx hb dX0_runsOf_8 rfl (lv_at hl 0 rfl) ?_
  refine va_get (D := D) (ci := 0) (v := .ref (a 26)) (C := RX0) (T := TX0) (N := 12) hx hb hts inX0 hown hK hP 4 (heX_4 ca a t) rfl 4 (by decide) (hts _ kw_191) (fun _ h9 => h9) rfl dX0_runsOf_9 ?_
  refine lv_iload_n hx hb dX0_runsOf_12 rfl (lv_at hl 1 rfl) ?_
  obtain ⟨h_13, hf⟩ := fb_if hf
  refine va_iald hx hb hK hP 26 0 (haX_26 ca a t) rfl h_13 dX0_runsOf_13 ?_
  refine lv_goto (tgt := 18) hx hb dX0_runsOf_14 (by decide) ?_
  exact w_X_X0_runsOf__4_18 C hr hf hP hS (lv_sub hl [] rfl)
set_option maxRecDepth 20000 in
theorem w_X_X0_runsOf__4_0 {p : Program} {l : Launch} {e : Env} {s : State} {m : MethodId} {args : Array Value} {below : List Frame} {meth : Method} {c : Code} {A : Nat → Prop} {Q : State → Prop} {D : va_G} {ca : Nat → ClassId} {a : Nat → Nat} {u : fw_S} {r : Int32}  (C : CX (WX ca a) D (tyv ca) p s m args c A prog_2_method_15_code 2 RX0) (hr : True → RX (WX ca a) D p l e rm_X_X0_runsOf__4 s m args below meth c A prog_2_method_15_code Q .ireturn [.int r] u) {t : fw_S} {x1 : Int32} {H : Heap} {locs : List Loc} {ls : Array Slot} (hf : b_X_X0_runsOf__4_0  t x1 = some (r, u)) (hP : va_P D classes (WX ca a t) H) (hS : va_S A s.heap H locs) (hl : lv_has ls 2 [(0, .ref (a 4)), (1, .int x1)]) : W p l e rm_X_X0_runsOf__4 s m args below meth c H locs 0 0 Q (F0 m 0 ls []) := by
  obtain ⟨hx, hb, hml, hown, hts, hN, hK, hD, hA⟩ := id C
  have hf : (fb_b (f_X_X10_isCell t x1.toInt64) fun v_2 t_1 => (if v_2 = 0 then b_X_X0_runsOf__4_17 t_1 else b_X_X0_runsOf__4_8 t_1 x1)) = some (r, u) := hf
  refine lv_iload_n hx hb dX0_runsOf_0 rfl (lv_at hl 1 rfl) ?_
  refine lv_i2l hx hb dX0_runsOf_1 rfl ?_
  obtain ⟨v_2, t_1, g_2, hf⟩ := fb_bs hf
  refine fw_S2 (As := [.long x1.toInt64]) (rest := []) (n := 1) C (c_X_X10_isCell (l := l) (D := D) (ca := ca) (a := a) g_2) kw_429 kw_399 kw_92 kw_400 hP hS hl rfl rfl (by decide) (by decide +kernel) ⟨Nat.le_of_ble_eq_true rfl, Nat.le_of_ble_eq_true rfl⟩ rfl rfl (Nat.le_of_ble_eq_true rfl) dX0_runsOf_2 (fun H locs hP hS => ?_)
  refine W.eq (g2 := F0 m 5 ls [.int v_2]) rfl ?_
  refine lv_if_eq (tgt := 17) hx hb dX0_runsOf_5 (by decide) (fun h_5 => ?_) (fun h_5 => ?_)
  · have hf := fb_t h_5 hf
    exact w_X_X0_runsOf__4_17 C hr hf hP hS (lv_sub hl [] rfl)
  · have hf := fb_f h_5 hf
    exact w_X_X0_runsOf__4_8 C hr hf hP hS (lv_sub hl [0, 1] rfl)
set_option maxRecDepth 20000 in
theorem c_X_X0_runsOf__4 {l : Launch} {D : va_G} {ca : Nat → ClassId} {a : Nat → Nat} {t : fw_S} {x1 : Int32} {u : fw_S} {r : Int32} (hf : f_X_X0_runsOf__4 t x1 = some (r, u)) : MC (WX ca a) D (tyv ca) l yX0_runsOf (.code yX0_runsOf prog_2_method_15_code 2 (some .int) :: lw_gd) rm_X_X0_runsOf__4 [.ref (a 4), .int x1] (some (.int r)) t u := by
  refine fw_met (okX ca a) (by decide +kernel) rfl rfl (Nat.le_of_ble_eq_true rfl) ?_
  intro p e s m args below meth c A Q ls C hr hk hP hS hl hQ
  exact w_X_X0_runsOf__4_0 C (fun _ => fw_ri C hr hk hQ) hf hP hS (lv_sub hl [0, 1] rfl)
/-! ReactiveSheet.of(II)I ['x'] -/
abbrev rm_X_X10_of__0 : Room := { frames := 3, cells := 0, slots := 0, locals := 73 }
def b_X_X10_of__0_72  (t : fw_S) (x1 : Int32) : Option (Int32 × fw_S) := fb_b (f_X_X0_kindOf__4 t x1) fun v_2 t_1 => (some (v_2, t_1))
def b_X_X10_of__0_78  (t : fw_S) (x1 : Int32) : Option (Int32 × fw_S) := fb_b (f_X_X0_errorOf__4 t x1) fun v_2 t_1 => (some (v_2, t_1))
def b_X_X10_of__0_84  (t : fw_S) (x1 : Int32) : Option (Int32 × fw_S) := fb_b (f_X_X0_heightOf__4 t x1) fun v_2 t_1 => (some (v_2, t_1))
def b_X_X10_of__0_90  (t : fw_S) (x1 : Int32) : Option (Int32 × fw_S) := fb_b (f_X_X0_runsOf__4 t x1) fun v_2 t_1 => (some (v_2, t_1))
def b_X_X10_of__0_96  (t : fw_S) (x1 : Int32) : Option (Int32 × fw_S) := fb_b (f_X_X0_readCount__4 t x1) fun v_2 t_1 => (some (v_2, t_1))
def b_X_X10_of__0_102  (t : fw_S) (x1 : Int32) : Option (Int32 × fw_S) := fb_b (f_X_X0_readersOf__4 t x1) fun v_2 t_1 => (fb_b (f_X_J13_bitCount_95d88 t_1 v_2) fun v_4 t_3 => (some (v_4, t_3)))
def b_X_X10_of__0_124  (t : fw_S) (z0 : Int32) : Option (Int32 × fw_S) := some (z0, t)
def b_X_X10_of__0_123  (t : fw_S)  : Option (Int32 × fw_S) := b_X_X10_of__0_124 t ((0 : Int32))
def b_X_X10_of__0_119  (t : fw_S)  : Option (Int32 × fw_S) := b_X_X10_of__0_124 t ((1 : Int32))
def b_X_X10_of__0_111  (t : fw_S) (x1 : Int32) : Option (Int32 × fw_S) := fb_b (f_X_X0_isChanged__4 t x1) fun v_2 t_1 => (if v_2 = 0 then b_X_X10_of__0_123 t_1 else b_X_X10_of__0_119 t_1)
def b_X_X10_of__0_138  (t : fw_S) (z0 : Int32) : Option (Int32 × fw_S) := some (z0, t)
def b_X_X10_of__0_137  (t : fw_S)  : Option (Int32 × fw_S) := b_X_X10_of__0_138 t ((0 : Int32))
def b_X_X10_of__0_133  (t : fw_S)  : Option (Int32 × fw_S) := b_X_X10_of__0_138 t ((1 : Int32))
def b_X_X10_of__0_125  (t : fw_S) (x1 : Int32) : Option (Int32 × fw_S) := fb_b (f_X_X0_hasRun__4 t x1) fun v_2 t_1 => (if v_2 = 0 then b_X_X10_of__0_137 t_1 else b_X_X10_of__0_133 t_1)
def b_X_X10_of__0_139  (t : fw_S) (x1 : Int32) : Option (Int32 × fw_S) := fb_b (f_X_X0_causeOf__4 t x1) fun v_2 t_1 => (some (v_2, t_1))
def b_X_X10_of__0_145  (t : fw_S) (x1 : Int32) : Option (Int32 × fw_S) := fb_b (f_X_X0_below__4 t x1) fun v_2 t_1 => (fb_b (f_X_J13_bitCount_95d88 t_1 v_2) fun v_4 t_3 => (some (v_4, t_3)))
def b_X_X10_of__0_154  (t : fw_S)  : Option (Int32 × fw_S) := some ((-1 : Int32), t)
def b_X_X10_of__0_10  (t : fw_S) (x1 : Int32) (x2 : Int32) : Option (Int32 × fw_S) := fb_v (f_X_X1_now__3 t) fun t_1 => (if x2 = 0 then b_X_X10_of__0_72 t_1 x1 else if x2 = 1 then b_X_X10_of__0_78 t_1 x1 else if x2 = 2 then b_X_X10_of__0_84 t_1 x1 else if x2 = 3 then b_X_X10_of__0_90 t_1 x1 else if x2 = 4 then b_X_X10_of__0_96 t_1 x1 else if x2 = 5 then b_X_X10_of__0_102 t_1 x1 else if x2 = 6 then b_X_X10_of__0_111 t_1 x1 else if x2 = 7 then b_X_X10_of__0_125 t_1 x1 else if x2 = 8 then b_X_X10_of__0_139 t_1 x1 else if x2 = 9 then b_X_X10_of__0_145 t_1 x1 else b_X_X10_of__0_154 t_1)
def b_X_X10_of__0_8  (t : fw_S)  : Option (Int32 × fw_S) := some ((-1 : Int32), t)
def b_X_X10_of__0_0  (t : fw_S) (x1 : Int32) (x2 : Int32) : Option (Int32 × fw_S) := fb_b (f_X_X10_isCell t x1.toInt64) fun v_2 t_1 => (if v_2 = 0 then b_X_X10_of__0_8 t_1 else b_X_X10_of__0_10 t_1 x1 x2)
def f_X_X10_of__0 (t : fw_S) (x1 : Int32) (x2 : Int32) : Option (Int32 × fw_S) := b_X_X10_of__0_0 t x1 x2
set_option maxRecDepth 20000 in
theorem w_X_X10_of__0_72 {p : Program} {l : Launch} {e : Env} {s : State} {m : MethodId} {args : Array Value} {below : List Frame} {meth : Method} {c : Code} {A : Nat → Prop} {Q : State → Prop} {D : va_G} {ca : Nat → ClassId} {a : Nat → Nat} {u : fw_S} {r : Int32}  (C : CX (WX ca a) D (tyv ca) p s m args c A prog_1_method_13_code 4 RX10) (hr : True → RX (WX ca a) D p l e rm_X_X10_of__0 s m args below meth c A prog_1_method_13_code Q .ireturn [.int r] u) {t : fw_S} {x1 : Int32} {H : Heap} {locs : List Loc} {ls : Array Slot} (hf : b_X_X10_of__0_72  t x1 = some (r, u)) (hP : va_P D classes (WX ca a t) H) (hS : va_S A s.heap H locs) (hl : lv_has ls 4 [(1, .int x1), (3, .ref (a 4))]) : W p l e rm_X_X10_of__0 s m args below meth c H locs 0 0 Q (F0 m 72 ls []) := by
  obtain ⟨hx, hb, hml, hown, hts, hN, hK, hD, hA⟩ := id C
  have hf : (fb_b (f_X_X0_kindOf__4 t x1) fun v_2 t_1 => (some (v_2, t_1))) = some (r, u) := hf
  refine lv_aload_n hx hb dX10_of_72 rfl (lv_at hl 1 rfl) ?_
  refine lv_iload_n hx hb dX10_of_73 rfl (lv_at hl 0 rfl) ?_
  obtain ⟨v_2, t_1, g_74, hf⟩ := fb_bs hf
  refine fw_V1 (As := [.int x1]) (rest := []) (n := 1) (q0 := 4) C (c_X_X0_kindOf__4 (l := l) (D := D) (ca := ca) (a := a) g_74) kw_814 kw_815 kw_96 kw_817 kw_816 hP hS hl (heX_4 ca a t) rfl rfl rfl (by decide) (by decide +kernel) ⟨Nat.le_of_ble_eq_true rfl, Nat.le_of_ble_eq_true rfl⟩ rfl rfl (Nat.le_of_ble_eq_true rfl) dX10_of_74 (fun H locs hP hS => ?_)
  refine W.eq (g2 := F0 m 77 ls [.int v_2]) rfl ?_
  obtain ⟨e_77, e2_77⟩ := fb_e hf
  subst e_77; subst e2_77
  exact hr trivial _ _ _ _ hP hS dX10_of_77
set_option maxRecDepth 20000 in
theorem w_X_X10_of__0_78 {p : Program} {l : Launch} {e : Env} {s : State} {m : MethodId} {args : Array Value} {below : List Frame} {meth : Method} {c : Code} {A : Nat → Prop} {Q : State → Prop} {D : va_G} {ca : Nat → ClassId} {a : Nat → Nat} {u : fw_S} {r : Int32}  (C : CX (WX ca a) D (tyv ca) p s m args c A prog_1_method_13_code 4 RX10) (hr : True → RX (WX ca a) D p l e rm_X_X10_of__0 s m args below meth c A prog_1_method_13_code Q .ireturn [.int r] u) {t : fw_S} {x1 : Int32} {H : Heap} {locs : List Loc} {ls : Array Slot} (hf : b_X_X10_of__0_78  t x1 = some (r, u)) (hP : va_P D classes (WX ca a t) H) (hS : va_S A s.heap H locs) (hl : lv_has ls 4 [(1, .int x1), (3, .ref (a 4))]) : W p l e rm_X_X10_of__0 s m args below meth c H locs 0 0 Q (F0 m 78 ls []) := by
  obtain ⟨hx, hb, hml, hown, hts, hN, hK, hD, hA⟩ := id C
  have hf : (fb_b (f_X_X0_errorOf__4 t x1) fun v_2 t_1 => (some (v_2, t_1))) = some (r, u) := hf
  refine lv_aload_n hx hb dX10_of_78 rfl (lv_at hl 1 rfl) ?_
  refine lv_iload_n hx hb dX10_of_79 rfl (lv_at hl 0 rfl) ?_
  obtain ⟨v_2, t_1, g_80, hf⟩ := fb_bs hf
  refine fw_V1 (As := [.int x1]) (rest := []) (n := 1) (q0 := 4) C (c_X_X0_errorOf__4 (l := l) (D := D) (ca := ca) (a := a) g_80) kw_818 kw_534 kw_96 kw_536 kw_535 hP hS hl (heX_4 ca a t) rfl rfl rfl (by decide) (by decide +kernel) ⟨Nat.le_of_ble_eq_true rfl, Nat.le_of_ble_eq_true rfl⟩ rfl rfl (Nat.le_of_ble_eq_true rfl) dX10_of_80 (fun H locs hP hS => ?_)
  refine W.eq (g2 := F0 m 83 ls [.int v_2]) rfl ?_
  obtain ⟨e_83, e2_83⟩ := fb_e hf
  subst e_83; subst e2_83
  exact hr trivial _ _ _ _ hP hS dX10_of_83
set_option maxRecDepth 20000 in
theorem w_X_X10_of__0_84 {p : Program} {l : Launch} {e : Env} {s : State} {m : MethodId} {args : Array Value} {below : List Frame} {meth : Method} {c : Code} {A : Nat → Prop} {Q : State → Prop} {D : va_G} {ca : Nat → ClassId} {a : Nat → Nat} {u : fw_S} {r : Int32}  (C : CX (WX ca a) D (tyv ca) p s m args c A prog_1_method_13_code 4 RX10) (hr : True → RX (WX ca a) D p l e rm_X_X10_of__0 s m args below meth c A prog_1_method_13_code Q .ireturn [.int r] u) {t : fw_S} {x1 : Int32} {H : Heap} {locs : List Loc} {ls : Array Slot} (hf : b_X_X10_of__0_84  t x1 = some (r, u)) (hP : va_P D classes (WX ca a t) H) (hS : va_S A s.heap H locs) (hl : lv_has ls 4 [(1, .int x1), (3, .ref (a 4))]) : W p l e rm_X_X10_of__0 s m args below meth c H locs 0 0 Q (F0 m 84 ls []) := by
  obtain ⟨hx, hb, hml, hown, hts, hN, hK, hD, hA⟩ := id C
  have hf : (fb_b (f_X_X0_heightOf__4 t x1) fun v_2 t_1 => (some (v_2, t_1))) = some (r, u) := hf
  refine lv_aload_n hx hb dX10_of_84 rfl (lv_at hl 1 rfl) ?_
  refine lv_iload_n hx hb dX10_of_85 rfl (lv_at hl 0 rfl) ?_
  obtain ⟨v_2, t_1, g_86, hf⟩ := fb_bs hf
  refine fw_V1 (As := [.int x1]) (rest := []) (n := 1) (q0 := 4) C (c_X_X0_heightOf__4 (l := l) (D := D) (ca := ca) (a := a) g_86) kw_861 kw_602 kw_96 kw_604 kw_603 hP hS hl (heX_4 ca a t) rfl rfl rfl (by decide) (by decide +kernel) ⟨Nat.le_of_ble_eq_true rfl, Nat.le_of_ble_eq_true rfl⟩ rfl rfl (Nat.le_of_ble_eq_true rfl) dX10_of_86 (fun H locs hP hS => ?_)
  refine W.eq (g2 := F0 m 89 ls [.int v_2]) rfl ?_
  obtain ⟨e_89, e2_89⟩ := fb_e hf
  subst e_89; subst e2_89
  exact hr trivial _ _ _ _ hP hS dX10_of_89
set_option maxRecDepth 20000 in
theorem w_X_X10_of__0_90 {p : Program} {l : Launch} {e : Env} {s : State} {m : MethodId} {args : Array Value} {below : List Frame} {meth : Method} {c : Code} {A : Nat → Prop} {Q : State → Prop} {D : va_G} {ca : Nat → ClassId} {a : Nat → Nat} {u : fw_S} {r : Int32}  (C : CX (WX ca a) D (tyv ca) p s m args c A prog_1_method_13_code 4 RX10) (hr : True → RX (WX ca a) D p l e rm_X_X10_of__0 s m args below meth c A prog_1_method_13_code Q .ireturn [.int r] u) {t : fw_S} {x1 : Int32} {H : Heap} {locs : List Loc} {ls : Array Slot} (hf : b_X_X10_of__0_90  t x1 = some (r, u)) (hP : va_P D classes (WX ca a t) H) (hS : va_S A s.heap H locs) (hl : lv_has ls 4 [(1, .int x1), (3, .ref (a 4))]) : W p l e rm_X_X10_of__0 s m args below meth c H locs 0 0 Q (F0 m 90 ls []) := by
  obtain ⟨hx, hb, hml, hown, hts, hN, hK, hD, hA⟩ := id C
  have hf : (fb_b (f_X_X0_runsOf__4 t x1) fun v_2 t_1 => (some (v_2, t_1))) = some (r, u) := hf
  refine lv_aload_n hx hb dX10_of_90 rfl (lv_at hl 1 rfl) ?_
  refine lv_iload_n hx hb dX10_of_91 rfl (lv_at hl 0 rfl) ?_
  obtain ⟨v_2, t_1, g_92, hf⟩ := fb_bs hf
  refine fw_V1 (As := [.int x1]) (rest := []) (n := 1) (q0 := 4) C (c_X_X0_runsOf__4 (l := l) (D := D) (ca := ca) (a := a) g_92) kw_862 kw_863 kw_96 kw_865 kw_864 hP hS hl (heX_4 ca a t) rfl rfl rfl (by decide) (by decide +kernel) ⟨Nat.le_of_ble_eq_true rfl, Nat.le_of_ble_eq_true rfl⟩ rfl rfl (Nat.le_of_ble_eq_true rfl) dX10_of_92 (fun H locs hP hS => ?_)
  refine W.eq (g2 := F0 m 95 ls [.int v_2]) rfl ?_
  obtain ⟨e_95, e2_95⟩ := fb_e hf
  subst e_95; subst e2_95
  exact hr trivial _ _ _ _ hP hS dX10_of_95
set_option maxRecDepth 20000 in
theorem w_X_X10_of__0_96 {p : Program} {l : Launch} {e : Env} {s : State} {m : MethodId} {args : Array Value} {below : List Frame} {meth : Method} {c : Code} {A : Nat → Prop} {Q : State → Prop} {D : va_G} {ca : Nat → ClassId} {a : Nat → Nat} {u : fw_S} {r : Int32}  (C : CX (WX ca a) D (tyv ca) p s m args c A prog_1_method_13_code 4 RX10) (hr : True → RX (WX ca a) D p l e rm_X_X10_of__0 s m args below meth c A prog_1_method_13_code Q .ireturn [.int r] u) {t : fw_S} {x1 : Int32} {H : Heap} {locs : List Loc} {ls : Array Slot} (hf : b_X_X10_of__0_96  t x1 = some (r, u)) (hP : va_P D classes (WX ca a t) H) (hS : va_S A s.heap H locs) (hl : lv_has ls 4 [(1, .int x1), (3, .ref (a 4))]) : W p l e rm_X_X10_of__0 s m args below meth c H locs 0 0 Q (F0 m 96 ls []) := by
  obtain ⟨hx, hb, hml, hown, hts, hN, hK, hD, hA⟩ := id C
  have hf : (fb_b (f_X_X0_readCount__4 t x1) fun v_2 t_1 => (some (v_2, t_1))) = some (r, u) := hf
  refine lv_aload_n hx hb dX10_of_96 rfl (lv_at hl 1 rfl) ?_
  refine lv_iload_n hx hb dX10_of_97 rfl (lv_at hl 0 rfl) ?_
  obtain ⟨v_2, t_1, g_98, hf⟩ := fb_bs hf
  refine fw_V1 (As := [.int x1]) (rest := []) (n := 1) (q0 := 4) C (c_X_X0_readCount__4 (l := l) (D := D) (ca := ca) (a := a) g_98) kw_866 kw_426 kw_96 kw_428 kw_427 hP hS hl (heX_4 ca a t) rfl rfl rfl (by decide) (by decide +kernel) ⟨Nat.le_of_ble_eq_true rfl, Nat.le_of_ble_eq_true rfl⟩ rfl rfl (Nat.le_of_ble_eq_true rfl) dX10_of_98 (fun H locs hP hS => ?_)
  refine W.eq (g2 := F0 m 101 ls [.int v_2]) rfl ?_
  obtain ⟨e_101, e2_101⟩ := fb_e hf
  subst e_101; subst e2_101
  exact hr trivial _ _ _ _ hP hS dX10_of_101
set_option maxRecDepth 20000 in
theorem w_X_X10_of__0_102 {p : Program} {l : Launch} {e : Env} {s : State} {m : MethodId} {args : Array Value} {below : List Frame} {meth : Method} {c : Code} {A : Nat → Prop} {Q : State → Prop} {D : va_G} {ca : Nat → ClassId} {a : Nat → Nat} {u : fw_S} {r : Int32}  (C : CX (WX ca a) D (tyv ca) p s m args c A prog_1_method_13_code 4 RX10) (hr : True → RX (WX ca a) D p l e rm_X_X10_of__0 s m args below meth c A prog_1_method_13_code Q .ireturn [.int r] u) {t : fw_S} {x1 : Int32} {H : Heap} {locs : List Loc} {ls : Array Slot} (hf : b_X_X10_of__0_102  t x1 = some (r, u)) (hP : va_P D classes (WX ca a t) H) (hS : va_S A s.heap H locs) (hl : lv_has ls 4 [(1, .int x1), (3, .ref (a 4))]) : W p l e rm_X_X10_of__0 s m args below meth c H locs 0 0 Q (F0 m 102 ls []) := by
  obtain ⟨hx, hb, hml, hown, hts, hN, hK, hD, hA⟩ := id C
  have hf : (fb_b (f_X_X0_readersOf__4 t x1) fun v_2 t_1 => (fb_b (f_X_J13_bitCount_95d88 t_1 v_2) fun v_4 t_3 => (some (v_4, t_3)))) = some (r, u) := hf
  refine lv_aload_n hx hb dX10_of_102 rfl (lv_at hl 1 rfl) ?_
  refine lv_iload_n hx hb dX10_of_103 rfl (lv_at hl 0 rfl) ?_
  obtain ⟨v_2, t_1, g_104, hf⟩ := fb_bs hf
  refine fw_V1 (As := [.int x1]) (rest := []) (n := 1) (q0 := 4) C (c_X_X0_readersOf__4 (l := l) (D := D) (ca := ca) (a := a) g_104) kw_867 kw_868 kw_96 kw_870 kw_869 hP hS hl (heX_4 ca a t) rfl rfl rfl (by decide) (by decide +kernel) ⟨Nat.le_of_ble_eq_true rfl, Nat.le_of_ble_eq_true rfl⟩ rfl rfl (Nat.le_of_ble_eq_true rfl) dX10_of_104 (fun H locs hP hS => ?_)
  refine W.eq (g2 := F0 m 107 ls [.long v_2]) rfl ?_
  obtain ⟨v_4, t_3, g_107, hf⟩ := fb_bs hf
  refine fw_S1 (As := [.long v_2]) (rest := []) (n := 1) C (c_X_J13_bitCount_95d88 (l := l) (D := D) (ca := ca) (a := a) g_107) kw_871 kw_617 kw_107 kw_618 hP hS hl rfl rfl (by decide) (by decide +kernel) ⟨Nat.le_of_ble_eq_true rfl, Nat.le_of_ble_eq_true rfl⟩ rfl rfl (Nat.le_of_ble_eq_true rfl) dX10_of_107 (fun H locs hP hS => ?_)
  refine W.eq (g2 := F0 m 110 ls [.int v_4]) rfl ?_
  obtain ⟨e_110, e2_110⟩ := fb_e hf
  subst e_110; subst e2_110
  exact hr trivial _ _ _ _ hP hS dX10_of_110
set_option maxRecDepth 20000 in
theorem w_X_X10_of__0_124 {p : Program} {l : Launch} {e : Env} {s : State} {m : MethodId} {args : Array Value} {below : List Frame} {meth : Method} {c : Code} {A : Nat → Prop} {Q : State → Prop} {D : va_G} {ca : Nat → ClassId} {a : Nat → Nat} {u : fw_S} {r : Int32}  (C : CX (WX ca a) D (tyv ca) p s m args c A prog_1_method_13_code 4 RX10) (hr : True → RX (WX ca a) D p l e rm_X_X10_of__0 s m args below meth c A prog_1_method_13_code Q .ireturn [.int r] u) {t : fw_S} {z0 : Int32} {H : Heap} {locs : List Loc} {ls : Array Slot} (hf : b_X_X10_of__0_124  t z0 = some (r, u)) (hP : va_P D classes (WX ca a t) H) (hS : va_S A s.heap H locs) (hl : lv_has ls 4 []) : W p l e rm_X_X10_of__0 s m args below meth c H locs 0 0 Q (F0 m 124 ls [.int z0]) := by
  obtain ⟨hx, hb, hml, hown, hts, hN, hK, hD, hA⟩ := id C
  have hf : (some (z0, t)) = some (r, u) := hf
  obtain ⟨e_124, e2_124⟩ := fb_e hf
  subst e_124; subst e2_124
  exact hr trivial _ _ _ _ hP hS dX10_of_124
set_option maxRecDepth 20000 in
theorem w_X_X10_of__0_123 {p : Program} {l : Launch} {e : Env} {s : State} {m : MethodId} {args : Array Value} {below : List Frame} {meth : Method} {c : Code} {A : Nat → Prop} {Q : State → Prop} {D : va_G} {ca : Nat → ClassId} {a : Nat → Nat} {u : fw_S} {r : Int32}  (C : CX (WX ca a) D (tyv ca) p s m args c A prog_1_method_13_code 4 RX10) (hr : True → RX (WX ca a) D p l e rm_X_X10_of__0 s m args below meth c A prog_1_method_13_code Q .ireturn [.int r] u) {t : fw_S}  {H : Heap} {locs : List Loc} {ls : Array Slot} (hf : b_X_X10_of__0_123  t  = some (r, u)) (hP : va_P D classes (WX ca a t) H) (hS : va_S A s.heap H locs) (hl : lv_has ls 4 []) : W p l e rm_X_X10_of__0 s m args below meth c H locs 0 0 Q (F0 m 123 ls []) := by
  obtain ⟨hx, hb, hml, hown, hts, hN, hK, hD, hA⟩ := id C
  have hf : (b_X_X10_of__0_124 t ((0 : Int32))) = some (r, u) := hf
  refine lv_iconst (v := 0) hx hb dX10_of_123 (by decide) ?_
  exact w_X_X10_of__0_124 C hr hf hP hS (lv_sub hl [] rfl)
set_option maxRecDepth 20000 in
theorem w_X_X10_of__0_119 {p : Program} {l : Launch} {e : Env} {s : State} {m : MethodId} {args : Array Value} {below : List Frame} {meth : Method} {c : Code} {A : Nat → Prop} {Q : State → Prop} {D : va_G} {ca : Nat → ClassId} {a : Nat → Nat} {u : fw_S} {r : Int32}  (C : CX (WX ca a) D (tyv ca) p s m args c A prog_1_method_13_code 4 RX10) (hr : True → RX (WX ca a) D p l e rm_X_X10_of__0 s m args below meth c A prog_1_method_13_code Q .ireturn [.int r] u) {t : fw_S}  {H : Heap} {locs : List Loc} {ls : Array Slot} (hf : b_X_X10_of__0_119  t  = some (r, u)) (hP : va_P D classes (WX ca a t) H) (hS : va_S A s.heap H locs) (hl : lv_has ls 4 []) : W p l e rm_X_X10_of__0 s m args below meth c H locs 0 0 Q (F0 m 119 ls []) := by
  obtain ⟨hx, hb, hml, hown, hts, hN, hK, hD, hA⟩ := id C
  have hf : (b_X_X10_of__0_124 t ((1 : Int32))) = some (r, u) := hf
  refine lv_iconst (v := 1) hx hb dX10_of_119 (by decide) ?_
  refine lv_goto (tgt := 124) hx hb dX10_of_120 (by decide) ?_
  exact w_X_X10_of__0_124 C hr hf hP hS (lv_sub hl [] rfl)
set_option maxRecDepth 20000 in
theorem w_X_X10_of__0_111 {p : Program} {l : Launch} {e : Env} {s : State} {m : MethodId} {args : Array Value} {below : List Frame} {meth : Method} {c : Code} {A : Nat → Prop} {Q : State → Prop} {D : va_G} {ca : Nat → ClassId} {a : Nat → Nat} {u : fw_S} {r : Int32}  (C : CX (WX ca a) D (tyv ca) p s m args c A prog_1_method_13_code 4 RX10) (hr : True → RX (WX ca a) D p l e rm_X_X10_of__0 s m args below meth c A prog_1_method_13_code Q .ireturn [.int r] u) {t : fw_S} {x1 : Int32} {H : Heap} {locs : List Loc} {ls : Array Slot} (hf : b_X_X10_of__0_111  t x1 = some (r, u)) (hP : va_P D classes (WX ca a t) H) (hS : va_S A s.heap H locs) (hl : lv_has ls 4 [(1, .int x1), (3, .ref (a 4))]) : W p l e rm_X_X10_of__0 s m args below meth c H locs 0 0 Q (F0 m 111 ls []) := by
  obtain ⟨hx, hb, hml, hown, hts, hN, hK, hD, hA⟩ := id C
  have hf : (fb_b (f_X_X0_isChanged__4 t x1) fun v_2 t_1 => (if v_2 = 0 then b_X_X10_of__0_123 t_1 else b_X_X10_of__0_119 t_1)) = some (r, u) := hf
  refine lv_aload_n hx hb dX10_of_111 rfl (lv_at hl 1 rfl) ?_
  refine lv_iload_n hx hb dX10_of_112 rfl (lv_at hl 0 rfl) ?_
  obtain ⟨v_2, t_1, g_113, hf⟩ := fb_bs hf
  refine fw_V1 (As := [.int x1]) (rest := []) (n := 1) (q0 := 4) C (c_X_X0_isChanged__4 (l := l) (D := D) (ca := ca) (a := a) g_113) kw_872 kw_477 kw_96 kw_479 kw_478 hP hS hl (heX_4 ca a t) rfl rfl rfl (by decide) (by decide +kernel) ⟨Nat.le_of_ble_eq_true rfl, Nat.le_of_ble_eq_true rfl⟩ rfl rfl (Nat.le_of_ble_eq_true rfl) dX10_of_113 (fun H locs hP hS => ?_)
  refine W.eq (g2 := F0 m 116 ls [.int v_2]) rfl ?_
  refine lv_if_eq (tgt := 123) hx hb dX10_of_116 (by decide) (fun h_116 => ?_) (fun h_116 => ?_)
  · have hf := fb_t h_116 hf
    exact w_X_X10_of__0_123 C hr hf hP hS (lv_sub hl [] rfl)
  · have hf := fb_f h_116 hf
    exact w_X_X10_of__0_119 C hr hf hP hS (lv_sub hl [] rfl)
set_option maxRecDepth 20000 in
theorem w_X_X10_of__0_138 {p : Program} {l : Launch} {e : Env} {s : State} {m : MethodId} {args : Array Value} {below : List Frame} {meth : Method} {c : Code} {A : Nat → Prop} {Q : State → Prop} {D : va_G} {ca : Nat → ClassId} {a : Nat → Nat} {u : fw_S} {r : Int32}  (C : CX (WX ca a) D (tyv ca) p s m args c A prog_1_method_13_code 4 RX10) (hr : True → RX (WX ca a) D p l e rm_X_X10_of__0 s m args below meth c A prog_1_method_13_code Q .ireturn [.int r] u) {t : fw_S} {z0 : Int32} {H : Heap} {locs : List Loc} {ls : Array Slot} (hf : b_X_X10_of__0_138  t z0 = some (r, u)) (hP : va_P D classes (WX ca a t) H) (hS : va_S A s.heap H locs) (hl : lv_has ls 4 []) : W p l e rm_X_X10_of__0 s m args below meth c H locs 0 0 Q (F0 m 138 ls [.int z0]) := by
  obtain ⟨hx, hb, hml, hown, hts, hN, hK, hD, hA⟩ := id C
  have hf : (some (z0, t)) = some (r, u) := hf
  obtain ⟨e_138, e2_138⟩ := fb_e hf
  subst e_138; subst e2_138
  exact hr trivial _ _ _ _ hP hS dX10_of_138
set_option maxRecDepth 20000 in
theorem w_X_X10_of__0_137 {p : Program} {l : Launch} {e : Env} {s : State} {m : MethodId} {args : Array Value} {below : List Frame} {meth : Method} {c : Code} {A : Nat → Prop} {Q : State → Prop} {D : va_G} {ca : Nat → ClassId} {a : Nat → Nat} {u : fw_S} {r : Int32}  (C : CX (WX ca a) D (tyv ca) p s m args c A prog_1_method_13_code 4 RX10) (hr : True → RX (WX ca a) D p l e rm_X_X10_of__0 s m args below meth c A prog_1_method_13_code Q .ireturn [.int r] u) {t : fw_S}  {H : Heap} {locs : List Loc} {ls : Array Slot} (hf : b_X_X10_of__0_137  t  = some (r, u)) (hP : va_P D classes (WX ca a t) H) (hS : va_S A s.heap H locs) (hl : lv_has ls 4 []) : W p l e rm_X_X10_of__0 s m args below meth c H locs 0 0 Q (F0 m 137 ls []) := by
  obtain ⟨hx, hb, hml, hown, hts, hN, hK, hD, hA⟩ := id C
  have hf : (b_X_X10_of__0_138 t ((0 : Int32))) = some (r, u) := hf
  refine lv_iconst (v := 0) hx hb dX10_of_137 (by decide) ?_
  exact w_X_X10_of__0_138 C hr hf hP hS (lv_sub hl [] rfl)
set_option maxRecDepth 20000 in
theorem w_X_X10_of__0_133 {p : Program} {l : Launch} {e : Env} {s : State} {m : MethodId} {args : Array Value} {below : List Frame} {meth : Method} {c : Code} {A : Nat → Prop} {Q : State → Prop} {D : va_G} {ca : Nat → ClassId} {a : Nat → Nat} {u : fw_S} {r : Int32}  (C : CX (WX ca a) D (tyv ca) p s m args c A prog_1_method_13_code 4 RX10) (hr : True → RX (WX ca a) D p l e rm_X_X10_of__0 s m args below meth c A prog_1_method_13_code Q .ireturn [.int r] u) {t : fw_S}  {H : Heap} {locs : List Loc} {ls : Array Slot} (hf : b_X_X10_of__0_133  t  = some (r, u)) (hP : va_P D classes (WX ca a t) H) (hS : va_S A s.heap H locs) (hl : lv_has ls 4 []) : W p l e rm_X_X10_of__0 s m args below meth c H locs 0 0 Q (F0 m 133 ls []) := by
  obtain ⟨hx, hb, hml, hown, hts, hN, hK, hD, hA⟩ := id C
  have hf : (b_X_X10_of__0_138 t ((1 : Int32))) = some (r, u) := hf
  refine lv_iconst (v := 1) hx hb dX10_of_133 (by decide) ?_
  refine lv_goto (tgt := 138) hx hb dX10_of_134 (by decide) ?_
  exact w_X_X10_of__0_138 C hr hf hP hS (lv_sub hl [] rfl)
set_option maxRecDepth 20000 in
theorem w_X_X10_of__0_125 {p : Program} {l : Launch} {e : Env} {s : State} {m : MethodId} {args : Array Value} {below : List Frame} {meth : Method} {c : Code} {A : Nat → Prop} {Q : State → Prop} {D : va_G} {ca : Nat → ClassId} {a : Nat → Nat} {u : fw_S} {r : Int32}  (C : CX (WX ca a) D (tyv ca) p s m args c A prog_1_method_13_code 4 RX10) (hr : True → RX (WX ca a) D p l e rm_X_X10_of__0 s m args below meth c A prog_1_method_13_code Q .ireturn [.int r] u) {t : fw_S} {x1 : Int32} {H : Heap} {locs : List Loc} {ls : Array Slot} (hf : b_X_X10_of__0_125  t x1 = some (r, u)) (hP : va_P D classes (WX ca a t) H) (hS : va_S A s.heap H locs) (hl : lv_has ls 4 [(1, .int x1), (3, .ref (a 4))]) : W p l e rm_X_X10_of__0 s m args below meth c H locs 0 0 Q (F0 m 125 ls []) := by
  obtain ⟨hx, hb, hml, hown, hts, hN, hK, hD, hA⟩ := id C
  have hf : (fb_b (f_X_X0_hasRun__4 t x1) fun v_2 t_1 => (if v_2 = 0 then b_X_X10_of__0_137 t_1 else b_X_X10_of__0_133 t_1)) = some (r, u) := hf
  refine lv_aload_n hx hb dX10_of_125 rfl (lv_at hl 1 rfl) ?_
  refine lv_iload_n hx hb dX10_of_126 rfl (lv_at hl 0 rfl) ?_
  obtain ⟨v_2, t_1, g_127, hf⟩ := fb_bs hf
  refine fw_V1 (As := [.int x1]) (rest := []) (n := 1) (q0 := 4) C (c_X_X0_hasRun__4 (l := l) (D := D) (ca := ca) (a := a) g_127) kw_873 kw_874 kw_96 kw_876 kw_875 hP hS hl (heX_4 ca a t) rfl rfl rfl (by decide) (by decide +kernel) ⟨Nat.le_of_ble_eq_true rfl, Nat.le_of_ble_eq_true rfl⟩ rfl rfl (Nat.le_of_ble_eq_true rfl) dX10_of_127 (fun H locs hP hS => ?_)
  refine W.eq (g2 := F0 m 130 ls [.int v_2]) rfl ?_
  refine lv_if_eq (tgt := 137) hx hb dX10_of_130 (by decide) (fun h_130 => ?_) (fun h_130 => ?_)
  · have hf := fb_t h_130 hf
    exact w_X_X10_of__0_137 C hr hf hP hS (lv_sub hl [] rfl)
  · have hf := fb_f h_130 hf
    exact w_X_X10_of__0_133 C hr hf hP hS (lv_sub hl [] rfl)
set_option maxRecDepth 20000 in
theorem w_X_X10_of__0_139 {p : Program} {l : Launch} {e : Env} {s : State} {m : MethodId} {args : Array Value} {below : List Frame} {meth : Method} {c : Code} {A : Nat → Prop} {Q : State → Prop} {D : va_G} {ca : Nat → ClassId} {a : Nat → Nat} {u : fw_S} {r : Int32}  (C : CX (WX ca a) D (tyv ca) p s m args c A prog_1_method_13_code 4 RX10) (hr : True → RX (WX ca a) D p l e rm_X_X10_of__0 s m args below meth c A prog_1_method_13_code Q .ireturn [.int r] u) {t : fw_S} {x1 : Int32} {H : Heap} {locs : List Loc} {ls : Array Slot} (hf : b_X_X10_of__0_139  t x1 = some (r, u)) (hP : va_P D classes (WX ca a t) H) (hS : va_S A s.heap H locs) (hl : lv_has ls 4 [(1, .int x1), (3, .ref (a 4))]) : W p l e rm_X_X10_of__0 s m args below meth c H locs 0 0 Q (F0 m 139 ls []) := by
  obtain ⟨hx, hb, hml, hown, hts, hN, hK, hD, hA⟩ := id C
  have hf : (fb_b (f_X_X0_causeOf__4 t x1) fun v_2 t_1 => (some (v_2, t_1))) = some (r, u) := hf
  refine lv_aload_n hx hb dX10_of_139 rfl (lv_at hl 1 rfl) ?_
  refine lv_iload_n hx hb dX10_of_140 rfl (lv_at hl 0 rfl) ?_
  obtain ⟨v_2, t_1, g_141, hf⟩ := fb_bs hf
  refine fw_V1 (As := [.int x1]) (rest := []) (n := 1) (q0 := 4) C (c_X_X0_causeOf__4 (l := l) (D := D) (ca := ca) (a := a) g_141) kw_877 kw_878 kw_96 kw_880 kw_879 hP hS hl (heX_4 ca a t) rfl rfl rfl (by decide) (by decide +kernel) ⟨Nat.le_of_ble_eq_true rfl, Nat.le_of_ble_eq_true rfl⟩ rfl rfl (Nat.le_of_ble_eq_true rfl) dX10_of_141 (fun H locs hP hS => ?_)
  refine W.eq (g2 := F0 m 144 ls [.int v_2]) rfl ?_
  obtain ⟨e_144, e2_144⟩ := fb_e hf
  subst e_144; subst e2_144
  exact hr trivial _ _ _ _ hP hS dX10_of_144
set_option maxRecDepth 20000 in
theorem w_X_X10_of__0_145 {p : Program} {l : Launch} {e : Env} {s : State} {m : MethodId} {args : Array Value} {below : List Frame} {meth : Method} {c : Code} {A : Nat → Prop} {Q : State → Prop} {D : va_G} {ca : Nat → ClassId} {a : Nat → Nat} {u : fw_S} {r : Int32}  (C : CX (WX ca a) D (tyv ca) p s m args c A prog_1_method_13_code 4 RX10) (hr : True → RX (WX ca a) D p l e rm_X_X10_of__0 s m args below meth c A prog_1_method_13_code Q .ireturn [.int r] u) {t : fw_S} {x1 : Int32} {H : Heap} {locs : List Loc} {ls : Array Slot} (hf : b_X_X10_of__0_145  t x1 = some (r, u)) (hP : va_P D classes (WX ca a t) H) (hS : va_S A s.heap H locs) (hl : lv_has ls 4 [(1, .int x1), (3, .ref (a 4))]) : W p l e rm_X_X10_of__0 s m args below meth c H locs 0 0 Q (F0 m 145 ls []) := by
  obtain ⟨hx, hb, hml, hown, hts, hN, hK, hD, hA⟩ := id C
  have hf : (fb_b (f_X_X0_below__4 t x1) fun v_2 t_1 => (fb_b (f_X_J13_bitCount_95d88 t_1 v_2) fun v_4 t_3 => (some (v_4, t_3)))) = some (r, u) := hf
  refine lv_aload_n hx hb dX10_of_145 rfl (lv_at hl 1 rfl) ?_
  refine lv_iload_n hx hb dX10_of_146 rfl (lv_at hl 0 rfl) ?_
  obtain ⟨v_2, t_1, g_147, hf⟩ := fb_bs hf
  refine fw_V1 (As := [.int x1]) (rest := []) (n := 1) (q0 := 4) C (c_X_X0_below__4 (l := l) (D := D) (ca := ca) (a := a) g_147) kw_881 kw_882 kw_96 kw_884 kw_883 hP hS hl (heX_4 ca a t) rfl rfl rfl (by decide) (by decide +kernel) ⟨Nat.le_of_ble_eq_true rfl, Nat.le_of_ble_eq_true rfl⟩ rfl rfl (Nat.le_of_ble_eq_true rfl) dX10_of_147 (fun H locs hP hS => ?_)
  refine W.eq (g2 := F0 m 150 ls [.long v_2]) rfl ?_
  obtain ⟨v_4, t_3, g_150, hf⟩ := fb_bs hf
  refine fw_S1 (As := [.long v_2]) (rest := []) (n := 1) C (c_X_J13_bitCount_95d88 (l := l) (D := D) (ca := ca) (a := a) g_150) kw_871 kw_617 kw_107 kw_618 hP hS hl rfl rfl (by decide) (by decide +kernel) ⟨Nat.le_of_ble_eq_true rfl, Nat.le_of_ble_eq_true rfl⟩ rfl rfl (Nat.le_of_ble_eq_true rfl) dX10_of_150 (fun H locs hP hS => ?_)
  refine W.eq (g2 := F0 m 153 ls [.int v_4]) rfl ?_
  obtain ⟨e_153, e2_153⟩ := fb_e hf
  subst e_153; subst e2_153
  exact hr trivial _ _ _ _ hP hS dX10_of_153
set_option maxRecDepth 20000 in
theorem w_X_X10_of__0_154 {p : Program} {l : Launch} {e : Env} {s : State} {m : MethodId} {args : Array Value} {below : List Frame} {meth : Method} {c : Code} {A : Nat → Prop} {Q : State → Prop} {D : va_G} {ca : Nat → ClassId} {a : Nat → Nat} {u : fw_S} {r : Int32}  (C : CX (WX ca a) D (tyv ca) p s m args c A prog_1_method_13_code 4 RX10) (hr : True → RX (WX ca a) D p l e rm_X_X10_of__0 s m args below meth c A prog_1_method_13_code Q .ireturn [.int r] u) {t : fw_S}  {H : Heap} {locs : List Loc} {ls : Array Slot} (hf : b_X_X10_of__0_154  t  = some (r, u)) (hP : va_P D classes (WX ca a t) H) (hS : va_S A s.heap H locs) (hl : lv_has ls 4 []) : W p l e rm_X_X10_of__0 s m args below meth c H locs 0 0 Q (F0 m 154 ls []) := by
  obtain ⟨hx, hb, hml, hown, hts, hN, hK, hD, hA⟩ := id C
  have hf : (some ((-1 : Int32), t)) = some (r, u) := hf
  refine lv_iconst (v := (-1)) hx hb dX10_of_154 (by decide) ?_
  obtain ⟨e_155, e2_155⟩ := fb_e hf
  subst e_155; subst e2_155
  exact hr trivial _ _ _ _ hP hS dX10_of_155
set_option maxRecDepth 20000 in
theorem w_X_X10_of__0_10 {p : Program} {l : Launch} {e : Env} {s : State} {m : MethodId} {args : Array Value} {below : List Frame} {meth : Method} {c : Code} {A : Nat → Prop} {Q : State → Prop} {D : va_G} {ca : Nat → ClassId} {a : Nat → Nat} {u : fw_S} {r : Int32}  (C : CX (WX ca a) D (tyv ca) p s m args c A prog_1_method_13_code 4 RX10) (hr : True → RX (WX ca a) D p l e rm_X_X10_of__0 s m args below meth c A prog_1_method_13_code Q .ireturn [.int r] u) {t : fw_S} {x1 : Int32} {x2 : Int32} {H : Heap} {locs : List Loc} {ls : Array Slot} (hf : b_X_X10_of__0_10  t x1 x2 = some (r, u)) (hP : va_P D classes (WX ca a t) H) (hS : va_S A s.heap H locs) (hl : lv_has ls 4 [(0, .ref (a 0)), (1, .int x1), (2, .int x2)]) : W p l e rm_X_X10_of__0 s m args below meth c H locs 0 0 Q (F0 m 10 ls []) := by
  obtain ⟨hx, hb, hml, hown, hts, hN, hK, hD, hA⟩ := id C
  have hf : (fb_v (f_X_X1_now__3 t) fun t_1 => (if x2 = 0 then b_X_X10_of__0_72 t_1 x1 else if x2 = 1 then b_X_X10_of__0_78 t_1 x1 else if x2 = 2 then b_X_X10_of__0_84 t_1 x1 else if x2 = 3 then b_X_X10_of__0_90 t_1 x1 else if x2 = 4 then b_X_X10_of__0_96 t_1 x1 else if x2 = 5 then b_X_X10_of__0_102 t_1 x1 else if x2 = 6 then b_X_X10_of__0_111 t_1 x1 else if x2 = 7 then b_X_X10_of__0_125 t_1 x1 else if x2 = 8 then b_X_X10_of__0_139 t_1 x1 else if x2 = 9 then b_X_X10_of__0_145 t_1 x1 else b_X_X10_of__0_154 t_1)) = some (r, u) := hf
  refine lv_aload_n hx hb dX10_of_10 rfl (lv_at hl 0 rfl) ?_
  refine va_get (D := D) (ci := 10) (v := .ref (a 3)) (C := RX10) (T := TX10) (N := 13) hx hb hts inX10 hown hK hP 0 (heX_0 ca a t) rfl 2 (by decide) (hts _ kw_356) (fun _ h9 => h9) rfl dX10_of_11 ?_
  obtain ⟨t_1, g_14, hf⟩ := fb_vs hf
  refine fw_V1 (As := []) (rest := []) (n := 0) (q0 := 3) C (c_X_X1_now__3 (l := l) (D := D) (ca := ca) (a := a) g_14) kw_626 kw_627 kw_95 kw_629 kw_628 hP hS hl (heX_3 ca a t) rfl rfl rfl (by decide) (by decide +kernel) ⟨Nat.le_of_ble_eq_true rfl, Nat.le_of_ble_eq_true rfl⟩ rfl rfl (Nat.le_of_ble_eq_true rfl) dX10_of_14 (fun H locs hP hS => ?_)
  refine W.eq (g2 := F0 m 17 ls [.ref (a 4)]) rfl ?_
  refine lv_astore_n (lv' := [(3, .ref (a 4)), (0, .ref (a 0)), (1, .int x1), (2, .int x2)]) hx hb dX10_of_17 rfl hl (by decide) rfl (fun ls hl => ?_)
  refine lv_iload_n hx hb dX10_of_18 rfl (lv_at hl 3 rfl) ?_
  by_cases h_19_0 : x2 = 0
  · have hf := fb_t h_19_0 hf
    refine lv_tableIn (tgt := 72) hx hb dX10_of_19 (by rw [h_19_0]; decide) (by rw [h_19_0]; decide) (by rw [h_19_0]; rfl) (by decide) ?_
    exact w_X_X10_of__0_72 C hr hf hP hS (lv_sub hl [2, 0] rfl)
  have hf := fb_f h_19_0 hf
  by_cases h_19_1 : x2 = 1
  · have hf := fb_t h_19_1 hf
    refine lv_tableIn (tgt := 78) hx hb dX10_of_19 (by rw [h_19_1]; decide) (by rw [h_19_1]; decide) (by rw [h_19_1]; rfl) (by decide) ?_
    exact w_X_X10_of__0_78 C hr hf hP hS (lv_sub hl [2, 0] rfl)
  have hf := fb_f h_19_1 hf
  by_cases h_19_2 : x2 = 2
  · have hf := fb_t h_19_2 hf
    refine lv_tableIn (tgt := 84) hx hb dX10_of_19 (by rw [h_19_2]; decide) (by rw [h_19_2]; decide) (by rw [h_19_2]; rfl) (by decide) ?_
    exact w_X_X10_of__0_84 C hr hf hP hS (lv_sub hl [2, 0] rfl)
  have hf := fb_f h_19_2 hf
  by_cases h_19_3 : x2 = 3
  · have hf := fb_t h_19_3 hf
    refine lv_tableIn (tgt := 90) hx hb dX10_of_19 (by rw [h_19_3]; decide) (by rw [h_19_3]; decide) (by rw [h_19_3]; rfl) (by decide) ?_
    exact w_X_X10_of__0_90 C hr hf hP hS (lv_sub hl [2, 0] rfl)
  have hf := fb_f h_19_3 hf
  by_cases h_19_4 : x2 = 4
  · have hf := fb_t h_19_4 hf
    refine lv_tableIn (tgt := 96) hx hb dX10_of_19 (by rw [h_19_4]; decide) (by rw [h_19_4]; decide) (by rw [h_19_4]; rfl) (by decide) ?_
    exact w_X_X10_of__0_96 C hr hf hP hS (lv_sub hl [2, 0] rfl)
  have hf := fb_f h_19_4 hf
  by_cases h_19_5 : x2 = 5
  · have hf := fb_t h_19_5 hf
    refine lv_tableIn (tgt := 102) hx hb dX10_of_19 (by rw [h_19_5]; decide) (by rw [h_19_5]; decide) (by rw [h_19_5]; rfl) (by decide) ?_
    exact w_X_X10_of__0_102 C hr hf hP hS (lv_sub hl [2, 0] rfl)
  have hf := fb_f h_19_5 hf
  by_cases h_19_6 : x2 = 6
  · have hf := fb_t h_19_6 hf
    refine lv_tableIn (tgt := 111) hx hb dX10_of_19 (by rw [h_19_6]; decide) (by rw [h_19_6]; decide) (by rw [h_19_6]; rfl) (by decide) ?_
    exact w_X_X10_of__0_111 C hr hf hP hS (lv_sub hl [2, 0] rfl)
  have hf := fb_f h_19_6 hf
  by_cases h_19_7 : x2 = 7
  · have hf := fb_t h_19_7 hf
    refine lv_tableIn (tgt := 125) hx hb dX10_of_19 (by rw [h_19_7]; decide) (by rw [h_19_7]; decide) (by rw [h_19_7]; rfl) (by decide) ?_
    exact w_X_X10_of__0_125 C hr hf hP hS (lv_sub hl [2, 0] rfl)
  have hf := fb_f h_19_7 hf
  by_cases h_19_8 : x2 = 8
  · have hf := fb_t h_19_8 hf
    refine lv_tableIn (tgt := 139) hx hb dX10_of_19 (by rw [h_19_8]; decide) (by rw [h_19_8]; decide) (by rw [h_19_8]; rfl) (by decide) ?_
    exact w_X_X10_of__0_139 C hr hf hP hS (lv_sub hl [2, 0] rfl)
  have hf := fb_f h_19_8 hf
  by_cases h_19_9 : x2 = 9
  · have hf := fb_t h_19_9 hf
    refine lv_tableIn (tgt := 145) hx hb dX10_of_19 (by rw [h_19_9]; decide) (by rw [h_19_9]; decide) (by rw [h_19_9]; rfl) (by decide) ?_
    exact w_X_X10_of__0_145 C hr hf hP hS (lv_sub hl [2, 0] rfl)
  have hf := fb_f h_19_9 hf
  refine lv_tableOut (tgt := 154) hx hb dX10_of_19 (by have q0 := lv_neT h_19_0 (a := 0) (by decide); have q1 := lv_neT h_19_1 (a := 1) (by decide); have q2 := lv_neT h_19_2 (a := 2) (by decide); have q3 := lv_neT h_19_3 (a := 3) (by decide); have q4 := lv_neT h_19_4 (a := 4) (by decide); have q5 := lv_neT h_19_5 (a := 5) (by decide); have q6 := lv_neT h_19_6 (a := 6) (by decide); have q7 := lv_neT h_19_7 (a := 7) (by decide); have q8 := lv_neT h_19_8 (a := 8) (by decide); have q9 := lv_neT h_19_9 (a := 9) (by decide); omega) (by decide) ?_
  exact w_X_X10_of__0_154 C hr hf hP hS (lv_sub hl [] rfl)
set_option maxRecDepth 20000 in
theorem w_X_X10_of__0_8 {p : Program} {l : Launch} {e : Env} {s : State} {m : MethodId} {args : Array Value} {below : List Frame} {meth : Method} {c : Code} {A : Nat → Prop} {Q : State → Prop} {D : va_G} {ca : Nat → ClassId} {a : Nat → Nat} {u : fw_S} {r : Int32}  (C : CX (WX ca a) D (tyv ca) p s m args c A prog_1_method_13_code 4 RX10) (hr : True → RX (WX ca a) D p l e rm_X_X10_of__0 s m args below meth c A prog_1_method_13_code Q .ireturn [.int r] u) {t : fw_S}  {H : Heap} {locs : List Loc} {ls : Array Slot} (hf : b_X_X10_of__0_8  t  = some (r, u)) (hP : va_P D classes (WX ca a t) H) (hS : va_S A s.heap H locs) (hl : lv_has ls 4 []) : W p l e rm_X_X10_of__0 s m args below meth c H locs 0 0 Q (F0 m 8 ls []) := by
  obtain ⟨hx, hb, hml, hown, hts, hN, hK, hD, hA⟩ := id C
  have hf : (some ((-1 : Int32), t)) = some (r, u) := hf
  refine lv_iconst (v := (-1)) hx hb dX10_of_8 (by decide) ?_
  obtain ⟨e_9, e2_9⟩ := fb_e hf
  subst e_9; subst e2_9
  exact hr trivial _ _ _ _ hP hS dX10_of_9
set_option maxRecDepth 20000 in
theorem w_X_X10_of__0_0 {p : Program} {l : Launch} {e : Env} {s : State} {m : MethodId} {args : Array Value} {below : List Frame} {meth : Method} {c : Code} {A : Nat → Prop} {Q : State → Prop} {D : va_G} {ca : Nat → ClassId} {a : Nat → Nat} {u : fw_S} {r : Int32}  (C : CX (WX ca a) D (tyv ca) p s m args c A prog_1_method_13_code 4 RX10) (hr : True → RX (WX ca a) D p l e rm_X_X10_of__0 s m args below meth c A prog_1_method_13_code Q .ireturn [.int r] u) {t : fw_S} {x1 : Int32} {x2 : Int32} {H : Heap} {locs : List Loc} {ls : Array Slot} (hf : b_X_X10_of__0_0  t x1 x2 = some (r, u)) (hP : va_P D classes (WX ca a t) H) (hS : va_S A s.heap H locs) (hl : lv_has ls 4 [(0, .ref (a 0)), (1, .int x1), (2, .int x2)]) : W p l e rm_X_X10_of__0 s m args below meth c H locs 0 0 Q (F0 m 0 ls []) := by
  obtain ⟨hx, hb, hml, hown, hts, hN, hK, hD, hA⟩ := id C
  have hf : (fb_b (f_X_X10_isCell t x1.toInt64) fun v_2 t_1 => (if v_2 = 0 then b_X_X10_of__0_8 t_1 else b_X_X10_of__0_10 t_1 x1 x2)) = some (r, u) := hf
  refine lv_iload_n hx hb dX10_of_0 rfl (lv_at hl 1 rfl) ?_
  refine lv_i2l hx hb dX10_of_1 rfl ?_
  obtain ⟨v_2, t_1, g_2, hf⟩ := fb_bs hf
  refine fw_S1 (As := [.long x1.toInt64]) (rest := []) (n := 1) C (c_X_X10_isCell (l := l) (D := D) (ca := ca) (a := a) g_2) kw_398 kw_399 kw_92 kw_400 hP hS hl rfl rfl (by decide) (by decide +kernel) ⟨Nat.le_of_ble_eq_true rfl, Nat.le_of_ble_eq_true rfl⟩ rfl rfl (Nat.le_of_ble_eq_true rfl) dX10_of_2 (fun H locs hP hS => ?_)
  refine W.eq (g2 := F0 m 5 ls [.int v_2]) rfl ?_
  refine lv_if_ne (tgt := 10) hx hb dX10_of_5 (by decide) (fun h_5 => ?_) (fun h_5 => ?_)
  · have hf := fb_f h_5 hf
    exact w_X_X10_of__0_10 C hr hf hP hS (lv_sub hl [0, 1, 2] rfl)
  · have hf := fb_t h_5 hf
    exact w_X_X10_of__0_8 C hr hf hP hS (lv_sub hl [] rfl)
set_option maxRecDepth 20000 in
theorem c_X_X10_of__0 {l : Launch} {D : va_G} {ca : Nat → ClassId} {a : Nat → Nat} {t : fw_S} {x1 : Int32} {x2 : Int32} {u : fw_S} {r : Int32} (hf : f_X_X10_of__0 t x1 x2 = some (r, u)) : MC (WX ca a) D (tyv ca) l yX10_of (.code yX10_of prog_1_method_13_code 4 (some .int) :: lw_gd) rm_X_X10_of__0 [.ref (a 0), .int x1, .int x2] (some (.int r)) t u := by
  refine fw_met (okX ca a) (by decide +kernel) rfl rfl (Nat.le_of_ble_eq_true rfl) ?_
  intro p e s m args below meth c A Q ls C hr hk hP hS hl hQ
  exact w_X_X10_of__0_0 C (fun _ => fw_ri C hr hk hQ) hf hP hS (lv_sub hl [0, 1, 2] rfl)
