theorem dX0_causeAbove_0 : decode prog_2_method_27_code 0 = .ok (.aload_n 0, 1) := by decide +kernel
theorem dX0_causeAbove_1 : decode prog_2_method_27_code 1 = .ok (.iload_n 1, 1) := by decide +kernel
theorem dX0_causeAbove_2 : decode prog_2_method_27_code 2 = .ok (.invokevirtual 105, 3) := by decide +kernel
theorem dX0_causeAbove_5 : decode prog_2_method_27_code 5 = .ok (.istore_n 3, 1) := by decide +kernel
theorem dX0_causeAbove_6 : decode prog_2_method_27_code 6 = .ok (.iconst 0, 1) := by decide +kernel
theorem dX0_causeAbove_7 : decode prog_2_method_27_code 7 = .ok (.istore 4, 2) := by decide +kernel
theorem dX0_causeAbove_9 : decode prog_2_method_27_code 9 = .ok (.iload 4, 2) := by decide +kernel
theorem dX0_causeAbove_11 : decode prog_2_method_27_code 11 = .ok (.iload_n 2, 1) := by decide +kernel
theorem dX0_causeAbove_12 : decode prog_2_method_27_code 12 = .ok (.if_icmp .ge 30, 3) := by decide +kernel
theorem dX0_causeAbove_15 : decode prog_2_method_27_code 15 = .ok (.iload 4, 2) := by decide +kernel
theorem dX0_causeAbove_17 : decode prog_2_method_27_code 17 = .ok (.bipush 32, 2) := by decide +kernel
theorem dX0_causeAbove_19 : decode prog_2_method_27_code 19 = .ok (.if_icmp .ge 23, 3) := by decide +kernel
theorem dX0_causeAbove_22 : decode prog_2_method_27_code 22 = .ok (.iload_n 3, 1) := by decide +kernel
theorem dX0_causeAbove_23 : decode prog_2_method_27_code 23 = .ok (.i2l, 1) := by decide +kernel
theorem dX0_causeAbove_24 : decode prog_2_method_27_code 24 = .ok (.invokestatic 69, 3) := by decide +kernel
theorem dX0_causeAbove_27 : decode prog_2_method_27_code 27 = .ok (.ifCond .eq 15, 3) := by decide +kernel
theorem dX0_causeAbove_30 : decode prog_2_method_27_code 30 = .ok (.aload_n 0, 1) := by decide +kernel
theorem dX0_causeAbove_31 : decode prog_2_method_27_code 31 = .ok (.iload_n 3, 1) := by decide +kernel
theorem dX0_causeAbove_32 : decode prog_2_method_27_code 32 = .ok (.invokevirtual 105, 3) := by decide +kernel
theorem dX0_causeAbove_35 : decode prog_2_method_27_code 35 = .ok (.istore_n 3, 1) := by decide +kernel
theorem dX0_causeAbove_36 : decode prog_2_method_27_code 36 = .ok (.iinc 4 1, 3) := by decide +kernel
theorem dX0_causeAbove_39 : decode prog_2_method_27_code 39 = .ok (.goto (-30), 3) := by decide +kernel
theorem dX0_causeAbove_42 : decode prog_2_method_27_code 42 = .ok (.iload_n 3, 1) := by decide +kernel
theorem dX0_causeAbove_43 : decode prog_2_method_27_code 43 = .ok (.i2l, 1) := by decide +kernel
theorem dX0_causeAbove_44 : decode prog_2_method_27_code 44 = .ok (.invokestatic 69, 3) := by decide +kernel
theorem dX0_causeAbove_47 : decode prog_2_method_27_code 47 = .ok (.ifCond .eq 13, 3) := by decide +kernel
theorem dX0_causeAbove_50 : decode prog_2_method_27_code 50 = .ok (.iload_n 2, 1) := by decide +kernel
theorem dX0_causeAbove_51 : decode prog_2_method_27_code 51 = .ok (.bipush 32, 2) := by decide +kernel
theorem dX0_causeAbove_53 : decode prog_2_method_27_code 53 = .ok (.if_icmp .ge 7, 3) := by decide +kernel
theorem dX0_causeAbove_56 : decode prog_2_method_27_code 56 = .ok (.iload_n 3, 1) := by decide +kernel
theorem dX0_causeAbove_57 : decode prog_2_method_27_code 57 = .ok (.goto 4, 3) := by decide +kernel
theorem dX0_causeAbove_60 : decode prog_2_method_27_code 60 = .ok (.iconst (-1), 1) := by decide +kernel
theorem dX0_causeAbove_61 : decode prog_2_method_27_code 61 = .ok (.ireturn, 1) := by decide +kernel
theorem dX0_countOf_0 : decode prog_2_method_28_code 0 = .ok (.iconst 0, 1) := by decide +kernel
theorem dX0_countOf_1 : decode prog_2_method_28_code 1 = .ok (.istore_n 2, 1) := by decide +kernel
theorem dX0_countOf_2 : decode prog_2_method_28_code 2 = .ok (.iconst 0, 1) := by decide +kernel
theorem dX0_countOf_3 : decode prog_2_method_28_code 3 = .ok (.istore_n 3, 1) := by decide +kernel
theorem dX0_countOf_4 : decode prog_2_method_28_code 4 = .ok (.iload_n 3, 1) := by decide +kernel
theorem dX0_countOf_5 : decode prog_2_method_28_code 5 = .ok (.bipush 32, 2) := by decide +kernel
theorem dX0_countOf_7 : decode prog_2_method_28_code 7 = .ok (.if_icmp .ge 22, 3) := by decide +kernel
theorem dX0_countOf_10 : decode prog_2_method_28_code 10 = .ok (.aload_n 0, 1) := by decide +kernel
theorem dX0_countOf_11 : decode prog_2_method_28_code 11 = .ok (.getfield 9, 3) := by decide +kernel
theorem dX0_countOf_14 : decode prog_2_method_28_code 14 = .ok (.iload_n 3, 1) := by decide +kernel
theorem dX0_countOf_15 : decode prog_2_method_28_code 15 = .ok (.iaload, 1) := by decide +kernel
theorem dX0_countOf_16 : decode prog_2_method_28_code 16 = .ok (.iload_n 1, 1) := by decide +kernel
theorem dX0_countOf_17 : decode prog_2_method_28_code 17 = .ok (.if_icmp .ne 6, 3) := by decide +kernel
theorem dX0_countOf_20 : decode prog_2_method_28_code 20 = .ok (.iinc 2 1, 3) := by decide +kernel
theorem dX0_countOf_23 : decode prog_2_method_28_code 23 = .ok (.iinc 3 1, 3) := by decide +kernel
theorem dX0_countOf_26 : decode prog_2_method_28_code 26 = .ok (.goto (-22), 3) := by decide +kernel
theorem dX0_countOf_29 : decode prog_2_method_28_code 29 = .ok (.iload_n 2, 1) := by decide +kernel
theorem dX0_countOf_30 : decode prog_2_method_28_code 30 = .ok (.ireturn, 1) := by decide +kernel
theorem dX0_inOrder_0 : decode prog_2_method_26_code 0 = .ok (.iload_n 1, 1) := by decide +kernel
theorem dX0_inOrder_1 : decode prog_2_method_26_code 1 = .ok (.ifCond .lt 11, 3) := by decide +kernel
theorem dX0_inOrder_4 : decode prog_2_method_26_code 4 = .ok (.iload_n 1, 1) := by decide +kernel
theorem dX0_inOrder_5 : decode prog_2_method_26_code 5 = .ok (.aload_n 0, 1) := by decide +kernel
theorem dX0_inOrder_6 : decode prog_2_method_26_code 6 = .ok (.invokevirtual 101, 3) := by decide +kernel
theorem dX0_inOrder_9 : decode prog_2_method_26_code 9 = .ok (.if_icmp .lt 5, 3) := by decide +kernel
theorem dX0_inOrder_12 : decode prog_2_method_26_code 12 = .ok (.iconst (-1), 1) := by decide +kernel
theorem dX0_inOrder_13 : decode prog_2_method_26_code 13 = .ok (.ireturn, 1) := by decide +kernel
theorem dX0_inOrder_14 : decode prog_2_method_26_code 14 = .ok (.iconst 0, 1) := by decide +kernel
theorem dX0_inOrder_15 : decode prog_2_method_26_code 15 = .ok (.istore_n 2, 1) := by decide +kernel
theorem dX0_inOrder_16 : decode prog_2_method_26_code 16 = .ok (.iconst 0, 1) := by decide +kernel
theorem dX0_inOrder_17 : decode prog_2_method_26_code 17 = .ok (.istore_n 3, 1) := by decide +kernel
theorem dX0_inOrder_18 : decode prog_2_method_26_code 18 = .ok (.iload_n 3, 1) := by decide +kernel
theorem dX0_inOrder_19 : decode prog_2_method_26_code 19 = .ok (.bipush 32, 2) := by decide +kernel
theorem dX0_inOrder_21 : decode prog_2_method_26_code 21 = .ok (.if_icmp .gt 57, 3) := by decide +kernel
theorem dX0_inOrder_24 : decode prog_2_method_26_code 24 = .ok (.iconst 0, 1) := by decide +kernel
theorem dX0_inOrder_25 : decode prog_2_method_26_code 25 = .ok (.istore 4, 2) := by decide +kernel
theorem dX0_inOrder_27 : decode prog_2_method_26_code 27 = .ok (.iload 4, 2) := by decide +kernel
theorem dX0_inOrder_29 : decode prog_2_method_26_code 29 = .ok (.bipush 32, 2) := by decide +kernel
theorem dX0_inOrder_31 : decode prog_2_method_26_code 31 = .ok (.if_icmp .ge 41, 3) := by decide +kernel
theorem dX0_inOrder_34 : decode prog_2_method_26_code 34 = .ok (.aload_n 0, 1) := by decide +kernel
theorem dX0_inOrder_35 : decode prog_2_method_26_code 35 = .ok (.getfield 9, 3) := by decide +kernel
theorem dX0_inOrder_38 : decode prog_2_method_26_code 38 = .ok (.iload 4, 2) := by decide +kernel
theorem dX0_inOrder_40 : decode prog_2_method_26_code 40 = .ok (.iaload, 1) := by decide +kernel
theorem dX0_inOrder_41 : decode prog_2_method_26_code 41 = .ok (.ifCond .eq 25, 3) := by decide +kernel
theorem dX0_inOrder_44 : decode prog_2_method_26_code 44 = .ok (.aload_n 0, 1) := by decide +kernel
theorem dX0_inOrder_45 : decode prog_2_method_26_code 45 = .ok (.getfield 31, 3) := by decide +kernel
theorem dX0_inOrder_48 : decode prog_2_method_26_code 48 = .ok (.iload 4, 2) := by decide +kernel
theorem dX0_inOrder_50 : decode prog_2_method_26_code 50 = .ok (.iaload, 1) := by decide +kernel
theorem dX0_inOrder_51 : decode prog_2_method_26_code 51 = .ok (.iload_n 3, 1) := by decide +kernel
theorem dX0_inOrder_52 : decode prog_2_method_26_code 52 = .ok (.if_icmp .ne 14, 3) := by decide +kernel
theorem dX0_inOrder_55 : decode prog_2_method_26_code 55 = .ok (.iload_n 2, 1) := by decide +kernel
theorem dX0_inOrder_56 : decode prog_2_method_26_code 56 = .ok (.iload_n 1, 1) := by decide +kernel
theorem dX0_inOrder_57 : decode prog_2_method_26_code 57 = .ok (.if_icmp .ne 6, 3) := by decide +kernel
theorem dX0_inOrder_60 : decode prog_2_method_26_code 60 = .ok (.iload 4, 2) := by decide +kernel
theorem dX0_inOrder_62 : decode prog_2_method_26_code 62 = .ok (.ireturn, 1) := by decide +kernel
theorem dX0_inOrder_63 : decode prog_2_method_26_code 63 = .ok (.iinc 2 1, 3) := by decide +kernel
theorem dX0_inOrder_66 : decode prog_2_method_26_code 66 = .ok (.iinc 4 1, 3) := by decide +kernel
theorem dX0_inOrder_69 : decode prog_2_method_26_code 69 = .ok (.goto (-42), 3) := by decide +kernel
theorem dX0_inOrder_72 : decode prog_2_method_26_code 72 = .ok (.iinc 3 1, 3) := by decide +kernel
theorem dX0_inOrder_75 : decode prog_2_method_26_code 75 = .ok (.goto (-57), 3) := by decide +kernel
theorem dX0_inOrder_78 : decode prog_2_method_26_code 78 = .ok (.iconst (-1), 1) := by decide +kernel
theorem dX0_inOrder_79 : decode prog_2_method_26_code 79 = .ok (.ireturn, 1) := by decide +kernel
theorem dX0_present_0 : decode prog_2_method_29_code 0 = .ok (.bipush 32, 2) := by decide +kernel
theorem dX0_present_2 : decode prog_2_method_29_code 2 = .ok (.aload_n 0, 1) := by decide +kernel
theorem dX0_present_3 : decode prog_2_method_29_code 3 = .ok (.iconst 0, 1) := by decide +kernel
theorem dX0_present_4 : decode prog_2_method_29_code 4 = .ok (.invokevirtual 108, 3) := by decide +kernel
theorem dX0_present_7 : decode prog_2_method_29_code 7 = .ok (.isub, 1) := by decide +kernel
theorem dX0_present_8 : decode prog_2_method_29_code 8 = .ok (.ireturn, 1) := by decide +kernel
theorem dX0_reaches_0 : decode prog_2_method_21_code 0 = .ok (.aload_n 0, 1) := by decide +kernel
theorem dX0_reaches_1 : decode prog_2_method_21_code 1 = .ok (.iload_n 1, 1) := by decide +kernel
theorem dX0_reaches_2 : decode prog_2_method_21_code 2 = .ok (.invokevirtual 90, 3) := by decide +kernel
theorem dX0_reaches_5 : decode prog_2_method_21_code 5 = .ok (.ifCond .ne 17, 3) := by decide +kernel
theorem dX0_reaches_8 : decode prog_2_method_21_code 8 = .ok (.aload_n 0, 1) := by decide +kernel
theorem dX0_reaches_9 : decode prog_2_method_21_code 9 = .ok (.iload_n 1, 1) := by decide +kernel
theorem dX0_reaches_10 : decode prog_2_method_21_code 10 = .ok (.invokevirtual 93, 3) := by decide +kernel
theorem dX0_reaches_13 : decode prog_2_method_21_code 13 = .ok (.lload_n 2, 1) := by decide +kernel
theorem dX0_reaches_14 : decode prog_2_method_21_code 14 = .ok (.lcmp, 1) := by decide +kernel
theorem dX0_reaches_15 : decode prog_2_method_21_code 15 = .ok (.ifCond .lt 7, 3) := by decide +kernel
theorem dX0_reaches_18 : decode prog_2_method_21_code 18 = .ok (.iconst 1, 1) := by decide +kernel
theorem dX0_reaches_19 : decode prog_2_method_21_code 19 = .ok (.goto 4, 3) := by decide +kernel
theorem dX0_reaches_22 : decode prog_2_method_21_code 22 = .ok (.iconst 0, 1) := by decide +kernel
theorem dX0_reaches_23 : decode prog_2_method_21_code 23 = .ok (.ireturn, 1) := by decide +kernel
theorem dX0_readOf_0 : decode prog_2_method_20_code 0 = .ok (.iload_n 1, 1) := by decide +kernel
theorem dX0_readOf_1 : decode prog_2_method_20_code 1 = .ok (.i2l, 1) := by decide +kernel
theorem dX0_readOf_2 : decode prog_2_method_20_code 2 = .ok (.invokestatic 69, 3) := by decide +kernel
theorem dX0_readOf_5 : decode prog_2_method_20_code 5 = .ok (.ifCond .eq 37, 3) := by decide +kernel
theorem dX0_readOf_8 : decode prog_2_method_20_code 8 = .ok (.iload_n 2, 1) := by decide +kernel
theorem dX0_readOf_9 : decode prog_2_method_20_code 9 = .ok (.ifCond .lt 33, 3) := by decide +kernel
theorem dX0_readOf_12 : decode prog_2_method_20_code 12 = .ok (.iload_n 2, 1) := by decide +kernel
theorem dX0_readOf_13 : decode prog_2_method_20_code 13 = .ok (.bipush 32, 2) := by decide +kernel
theorem dX0_readOf_15 : decode prog_2_method_20_code 15 = .ok (.if_icmp .ge 27, 3) := by decide +kernel
theorem dX0_readOf_18 : decode prog_2_method_20_code 18 = .ok (.iload_n 2, 1) := by decide +kernel
theorem dX0_readOf_19 : decode prog_2_method_20_code 19 = .ok (.aload_n 0, 1) := by decide +kernel
theorem dX0_readOf_20 : decode prog_2_method_20_code 20 = .ok (.getfield 40, 3) := by decide +kernel
theorem dX0_readOf_23 : decode prog_2_method_20_code 23 = .ok (.iload_n 1, 1) := by decide +kernel
theorem dX0_readOf_24 : decode prog_2_method_20_code 24 = .ok (.iaload, 1) := by decide +kernel
theorem dX0_readOf_25 : decode prog_2_method_20_code 25 = .ok (.if_icmp .ge 17, 3) := by decide +kernel
theorem dX0_readOf_28 : decode prog_2_method_20_code 28 = .ok (.aload_n 0, 1) := by decide +kernel
theorem dX0_readOf_29 : decode prog_2_method_20_code 29 = .ok (.getfield 37, 3) := by decide +kernel
theorem dX0_readOf_32 : decode prog_2_method_20_code 32 = .ok (.iload_n 1, 1) := by decide +kernel
theorem dX0_readOf_33 : decode prog_2_method_20_code 33 = .ok (.bipush 32, 2) := by decide +kernel
theorem dX0_readOf_35 : decode prog_2_method_20_code 35 = .ok (.imul, 1) := by decide +kernel
theorem dX0_readOf_36 : decode prog_2_method_20_code 36 = .ok (.iload_n 2, 1) := by decide +kernel
theorem dX0_readOf_37 : decode prog_2_method_20_code 37 = .ok (.iadd, 1) := by decide +kernel
theorem dX0_readOf_38 : decode prog_2_method_20_code 38 = .ok (.iaload, 1) := by decide +kernel
theorem dX0_readOf_39 : decode prog_2_method_20_code 39 = .ok (.goto 4, 3) := by decide +kernel
theorem dX0_readOf_42 : decode prog_2_method_20_code 42 = .ok (.iconst (-1), 1) := by decide +kernel
theorem dX0_readOf_43 : decode prog_2_method_20_code 43 = .ok (.ireturn, 1) := by decide +kernel
theorem dX10_order_0 : decode prog_1_method_16_code 0 = .ok (.aload_n 0, 1) := by decide +kernel
theorem dX10_order_1 : decode prog_1_method_16_code 1 = .ok (.getfield 28, 3) := by decide +kernel
theorem dX10_order_4 : decode prog_1_method_16_code 4 = .ok (.invokevirtual 106, 3) := by decide +kernel
theorem dX10_order_7 : decode prog_1_method_16_code 7 = .ok (.iload_n 1, 1) := by decide +kernel
theorem dX10_order_8 : decode prog_1_method_16_code 8 = .ok (.invokevirtual 183, 3) := by decide +kernel
theorem dX10_order_11 : decode prog_1_method_16_code 11 = .ok (.ireturn, 1) := by decide +kernel
theorem dX10_readers_0 : decode prog_1_method_15_code 0 = .ok (.iload_n 1, 1) := by decide +kernel
theorem dX10_readers_1 : decode prog_1_method_15_code 1 = .ok (.i2l, 1) := by decide +kernel
theorem dX10_readers_2 : decode prog_1_method_15_code 2 = .ok (.invokestatic 87, 3) := by decide +kernel
theorem dX10_readers_5 : decode prog_1_method_15_code 5 = .ok (.ifCond .eq 17, 3) := by decide +kernel
theorem dX10_readers_8 : decode prog_1_method_15_code 8 = .ok (.aload_n 0, 1) := by decide +kernel
theorem dX10_readers_9 : decode prog_1_method_15_code 9 = .ok (.getfield 28, 3) := by decide +kernel
theorem dX10_readers_12 : decode prog_1_method_15_code 12 = .ok (.invokevirtual 106, 3) := by decide +kernel
theorem dX10_readers_15 : decode prog_1_method_15_code 15 = .ok (.iload_n 1, 1) := by decide +kernel
theorem dX10_readers_16 : decode prog_1_method_15_code 16 = .ok (.invokevirtual 158, 3) := by decide +kernel
theorem dX10_readers_19 : decode prog_1_method_15_code 19 = .ok (.goto 6, 3) := by decide +kernel
theorem dX10_readers_22 : decode prog_1_method_15_code 22 = .ok (.ldc2_w 181, 3) := by decide +kernel
theorem dX10_readers_25 : decode prog_1_method_15_code 25 = .ok (.lreturn, 1) := by decide +kernel
theorem dX10_reads_0 : decode prog_1_method_14_code 0 = .ok (.aload_n 0, 1) := by decide +kernel
theorem dX10_reads_1 : decode prog_1_method_14_code 1 = .ok (.getfield 28, 3) := by decide +kernel
theorem dX10_reads_4 : decode prog_1_method_14_code 4 = .ok (.invokevirtual 106, 3) := by decide +kernel
theorem dX10_reads_7 : decode prog_1_method_14_code 7 = .ok (.iload_n 1, 1) := by decide +kernel
theorem dX10_reads_8 : decode prog_1_method_14_code 8 = .ok (.iload_n 2, 1) := by decide +kernel
theorem dX10_reads_9 : decode prog_1_method_14_code 9 = .ok (.invokevirtual 177, 3) := by decide +kernel
theorem dX10_reads_12 : decode prog_1_method_14_code 12 = .ok (.ireturn, 1) := by decide +kernel
theorem dX10_supposed_0 : decode prog_1_method_42_code 0 = .ok (.aload_n 0, 1) := by decide +kernel
theorem dX10_supposed_1 : decode prog_1_method_42_code 1 = .ok (.getfield 39, 3) := by decide +kernel
theorem dX10_supposed_4 : decode prog_1_method_42_code 4 = .ok (.invokevirtual 133, 3) := by decide +kernel
theorem dX10_supposed_7 : decode prog_1_method_42_code 7 = .ok (.aload_n 0, 1) := by decide +kernel
theorem dX10_supposed_8 : decode prog_1_method_42_code 8 = .ok (.getfield 39, 3) := by decide +kernel
theorem dX10_supposed_11 : decode prog_1_method_42_code 11 = .ok (.iload_n 1, 1) := by decide +kernel
theorem dX10_supposed_12 : decode prog_1_method_42_code 12 = .ok (.iconst 1, 1) := by decide +kernel
theorem dX10_supposed_13 : decode prog_1_method_42_code 13 = .ok (.lload_n 2, 1) := by decide +kernel
theorem dX10_supposed_14 : decode prog_1_method_42_code 14 = .ok (.aconst_null, 1) := by decide +kernel
theorem dX10_supposed_15 : decode prog_1_method_42_code 15 = .ok (.invokevirtual 91, 3) := by decide +kernel
theorem dX10_supposed_18 : decode prog_1_method_42_code 18 = .ok (.aload_n 0, 1) := by decide +kernel
theorem dX10_supposed_19 : decode prog_1_method_42_code 19 = .ok (.getfield 28, 3) := by decide +kernel
theorem dX10_supposed_22 : decode prog_1_method_42_code 22 = .ok (.aload_n 0, 1) := by decide +kernel
theorem dX10_supposed_23 : decode prog_1_method_42_code 23 = .ok (.getfield 39, 3) := by decide +kernel
theorem dX10_supposed_26 : decode prog_1_method_42_code 26 = .ok (.invokevirtual 298, 3) := by decide +kernel
theorem dX10_supposed_29 : decode prog_1_method_42_code 29 = .ok (.ireturn, 1) := by decide +kernel
theorem dX10_way_0 : decode prog_1_method_18_code 0 = .ok (.iload_n 1, 1) := by decide +kernel
theorem dX10_way_1 : decode prog_1_method_18_code 1 = .ok (.i2l, 1) := by decide +kernel
theorem dX10_way_2 : decode prog_1_method_18_code 2 = .ok (.invokestatic 87, 3) := by decide +kernel
theorem dX10_way_5 : decode prog_1_method_18_code 5 = .ok (.ifCond .eq 16, 3) := by decide +kernel
theorem dX10_way_8 : decode prog_1_method_18_code 8 = .ok (.iload_n 2, 1) := by decide +kernel
theorem dX10_way_9 : decode prog_1_method_18_code 9 = .ok (.i2l, 1) := by decide +kernel
theorem dX10_way_10 : decode prog_1_method_18_code 10 = .ok (.invokestatic 87, 3) := by decide +kernel
theorem dX10_way_13 : decode prog_1_method_18_code 13 = .ok (.ifCond .eq 8, 3) := by decide +kernel
theorem dX10_way_16 : decode prog_1_method_18_code 16 = .ok (.iload_n 3, 1) := by decide +kernel
theorem dX10_way_17 : decode prog_1_method_18_code 17 = .ok (.iconst (-1), 1) := by decide +kernel
theorem dX10_way_18 : decode prog_1_method_18_code 18 = .ok (.if_icmp .ge 5, 3) := by decide +kernel
theorem dX10_way_21 : decode prog_1_method_18_code 21 = .ok (.iconst (-1), 1) := by decide +kernel
theorem dX10_way_22 : decode prog_1_method_18_code 22 = .ok (.ireturn, 1) := by decide +kernel
theorem dX10_way_23 : decode prog_1_method_18_code 23 = .ok (.aload_n 0, 1) := by decide +kernel
theorem dX10_way_24 : decode prog_1_method_18_code 24 = .ok (.getfield 66, 3) := by decide +kernel
theorem dX10_way_27 : decode prog_1_method_18_code 27 = .ok (.aload_n 0, 1) := by decide +kernel
theorem dX10_way_28 : decode prog_1_method_18_code 28 = .ok (.getfield 28, 3) := by decide +kernel
theorem dX10_way_31 : decode prog_1_method_18_code 31 = .ok (.invokevirtual 106, 3) := by decide +kernel
theorem dX10_way_34 : decode prog_1_method_18_code 34 = .ok (.iload_n 1, 1) := by decide +kernel
theorem dX10_way_35 : decode prog_1_method_18_code 35 = .ok (.iload_n 2, 1) := by decide +kernel
theorem dX10_way_36 : decode prog_1_method_18_code 36 = .ok (.invokevirtual 189, 3) := by decide +kernel
theorem dX10_way_39 : decode prog_1_method_18_code 39 = .ok (.istore 4, 2) := by decide +kernel
theorem dX10_way_41 : decode prog_1_method_18_code 41 = .ok (.iload 4, 2) := by decide +kernel
theorem dX10_way_43 : decode prog_1_method_18_code 43 = .ok (.ifCond .ge 6, 3) := by decide +kernel
theorem dX10_way_46 : decode prog_1_method_18_code 46 = .ok (.bipush (-5), 2) := by decide +kernel
theorem dX10_way_48 : decode prog_1_method_18_code 48 = .ok (.ireturn, 1) := by decide +kernel
theorem dX10_way_49 : decode prog_1_method_18_code 49 = .ok (.iload_n 3, 1) := by decide +kernel
theorem dX10_way_50 : decode prog_1_method_18_code 50 = .ok (.ifCond .ge 6, 3) := by decide +kernel
theorem dX10_way_53 : decode prog_1_method_18_code 53 = .ok (.iload 4, 2) := by decide +kernel
theorem dX10_way_55 : decode prog_1_method_18_code 55 = .ok (.ireturn, 1) := by decide +kernel
theorem dX10_way_56 : decode prog_1_method_18_code 56 = .ok (.iload_n 3, 1) := by decide +kernel
theorem dX10_way_57 : decode prog_1_method_18_code 57 = .ok (.iload 4, 2) := by decide +kernel
theorem dX10_way_59 : decode prog_1_method_18_code 59 = .ok (.if_icmp .le 7, 3) := by decide +kernel
theorem dX10_way_62 : decode prog_1_method_18_code 62 = .ok (.iconst (-1), 1) := by decide +kernel
theorem dX10_way_63 : decode prog_1_method_18_code 63 = .ok (.goto 12, 3) := by decide +kernel
theorem dX10_way_66 : decode prog_1_method_18_code 66 = .ok (.aload_n 0, 1) := by decide +kernel
theorem dX10_way_67 : decode prog_1_method_18_code 67 = .ok (.getfield 66, 3) := by decide +kernel
theorem dX10_way_70 : decode prog_1_method_18_code 70 = .ok (.iload_n 1, 1) := by decide +kernel
theorem dX10_way_71 : decode prog_1_method_18_code 71 = .ok (.iload_n 3, 1) := by decide +kernel
theorem dX10_way_72 : decode prog_1_method_18_code 72 = .ok (.invokevirtual 193, 3) := by decide +kernel
theorem dX10_way_75 : decode prog_1_method_18_code 75 = .ok (.ireturn, 1) := by decide +kernel
theorem dX10_whatIf_0 : decode prog_1_method_19_code 0 = .ok (.iload_n 1, 1) := by decide +kernel
theorem dX10_whatIf_1 : decode prog_1_method_19_code 1 = .ok (.i2l, 1) := by decide +kernel
theorem dX10_whatIf_2 : decode prog_1_method_19_code 2 = .ok (.invokestatic 87, 3) := by decide +kernel
theorem dX10_whatIf_5 : decode prog_1_method_19_code 5 = .ok (.ifCond .eq 23, 3) := by decide +kernel
theorem dX10_whatIf_8 : decode prog_1_method_19_code 8 = .ok (.iload 4, 2) := by decide +kernel
theorem dX10_whatIf_10 : decode prog_1_method_19_code 10 = .ok (.i2l, 1) := by decide +kernel
theorem dX10_whatIf_11 : decode prog_1_method_19_code 11 = .ok (.invokestatic 87, 3) := by decide +kernel
theorem dX10_whatIf_14 : decode prog_1_method_19_code 14 = .ok (.ifCond .eq 14, 3) := by decide +kernel
theorem dX10_whatIf_17 : decode prog_1_method_19_code 17 = .ok (.aload_n 0, 1) := by decide +kernel
theorem dX10_whatIf_18 : decode prog_1_method_19_code 18 = .ok (.iload_n 1, 1) := by decide +kernel
theorem dX10_whatIf_19 : decode prog_1_method_19_code 19 = .ok (.lload_n 2, 1) := by decide +kernel
theorem dX10_whatIf_20 : decode prog_1_method_19_code 20 = .ok (.invokevirtual 196, 3) := by decide +kernel
theorem dX10_whatIf_23 : decode prog_1_method_19_code 23 = .ok (.bipush (-7), 2) := by decide +kernel
theorem dX10_whatIf_25 : decode prog_1_method_19_code 25 = .ok (.if_icmp .ne 7, 3) := by decide +kernel
theorem dX10_whatIf_28 : decode prog_1_method_19_code 28 = .ok (.ldc2_w 181, 3) := by decide +kernel
theorem dX10_whatIf_31 : decode prog_1_method_19_code 31 = .ok (.lreturn, 1) := by decide +kernel
theorem dX10_whatIf_32 : decode prog_1_method_19_code 32 = .ok (.aload_n 0, 1) := by decide +kernel
theorem dX10_whatIf_33 : decode prog_1_method_19_code 33 = .ok (.getfield 28, 3) := by decide +kernel
theorem dX10_whatIf_36 : decode prog_1_method_19_code 36 = .ok (.invokevirtual 106, 3) := by decide +kernel
theorem dX10_whatIf_39 : decode prog_1_method_19_code 39 = .ok (.iload 4, 2) := by decide +kernel
theorem dX10_whatIf_41 : decode prog_1_method_19_code 41 = .ok (.invokevirtual 146, 3) := by decide +kernel
theorem dX10_whatIf_44 : decode prog_1_method_19_code 44 = .ok (.lstore 5, 2) := by decide +kernel
theorem dX10_whatIf_46 : decode prog_1_method_19_code 46 = .ok (.aload_n 0, 1) := by decide +kernel
theorem dX10_whatIf_47 : decode prog_1_method_19_code 47 = .ok (.getfield 28, 3) := by decide +kernel
theorem dX10_whatIf_50 : decode prog_1_method_19_code 50 = .ok (.invokevirtual 200, 3) := by decide +kernel
theorem dX10_whatIf_53 : decode prog_1_method_19_code 53 = .ok (.lload 5, 2) := by decide +kernel
theorem dX10_whatIf_55 : decode prog_1_method_19_code 55 = .ok (.lreturn, 1) := by decide +kernel
theorem dX10_why_0 : decode prog_1_method_17_code 0 = .ok (.iload_n 1, 1) := by decide +kernel
theorem dX10_why_1 : decode prog_1_method_17_code 1 = .ok (.i2l, 1) := by decide +kernel
theorem dX10_why_2 : decode prog_1_method_17_code 2 = .ok (.invokestatic 87, 3) := by decide +kernel
theorem dX10_why_5 : decode prog_1_method_17_code 5 = .ok (.ifCond .eq 22, 3) := by decide +kernel
theorem dX10_why_8 : decode prog_1_method_17_code 8 = .ok (.iload_n 2, 1) := by decide +kernel
theorem dX10_why_9 : decode prog_1_method_17_code 9 = .ok (.ifCond .lt 18, 3) := by decide +kernel
theorem dX10_why_12 : decode prog_1_method_17_code 12 = .ok (.aload_n 0, 1) := by decide +kernel
theorem dX10_why_13 : decode prog_1_method_17_code 13 = .ok (.getfield 28, 3) := by decide +kernel
theorem dX10_why_16 : decode prog_1_method_17_code 16 = .ok (.invokevirtual 106, 3) := by decide +kernel
theorem dX10_why_19 : decode prog_1_method_17_code 19 = .ok (.iload_n 1, 1) := by decide +kernel
theorem dX10_why_20 : decode prog_1_method_17_code 20 = .ok (.iload_n 2, 1) := by decide +kernel
theorem dX10_why_21 : decode prog_1_method_17_code 21 = .ok (.invokevirtual 186, 3) := by decide +kernel
theorem dX10_why_24 : decode prog_1_method_17_code 24 = .ok (.goto 4, 3) := by decide +kernel
theorem dX10_why_27 : decode prog_1_method_17_code 27 = .ok (.iconst (-1), 1) := by decide +kernel
theorem dX10_why_28 : decode prog_1_method_17_code 28 = .ok (.ireturn, 1) := by decide +kernel
theorem dX10_would_0 : decode prog_1_method_20_code 0 = .ok (.iload_n 1, 1) := by decide +kernel
theorem dX10_would_1 : decode prog_1_method_20_code 1 = .ok (.i2l, 1) := by decide +kernel
theorem dX10_would_2 : decode prog_1_method_20_code 2 = .ok (.invokestatic 87, 3) := by decide +kernel
theorem dX10_would_5 : decode prog_1_method_20_code 5 = .ok (.ifCond .ne 5, 3) := by decide +kernel
theorem dX10_would_8 : decode prog_1_method_20_code 8 = .ok (.iconst (-1), 1) := by decide +kernel
theorem dX10_would_9 : decode prog_1_method_20_code 9 = .ok (.ireturn, 1) := by decide +kernel
theorem dX10_would_10 : decode prog_1_method_20_code 10 = .ok (.aload_n 0, 1) := by decide +kernel
theorem dX10_would_11 : decode prog_1_method_20_code 11 = .ok (.iload_n 1, 1) := by decide +kernel
theorem dX10_would_12 : decode prog_1_method_20_code 12 = .ok (.lload_n 2, 1) := by decide +kernel
theorem dX10_would_13 : decode prog_1_method_20_code 13 = .ok (.invokevirtual 196, 3) := by decide +kernel
theorem dX10_would_16 : decode prog_1_method_20_code 16 = .ok (.istore 4, 2) := by decide +kernel
theorem dX10_would_18 : decode prog_1_method_20_code 18 = .ok (.iload 4, 2) := by decide +kernel
theorem dX10_would_20 : decode prog_1_method_20_code 20 = .ok (.bipush (-7), 2) := by decide +kernel
theorem dX10_would_22 : decode prog_1_method_20_code 22 = .ok (.if_icmp .eq 10, 3) := by decide +kernel
theorem dX10_would_25 : decode prog_1_method_20_code 25 = .ok (.aload_n 0, 1) := by decide +kernel
theorem dX10_would_26 : decode prog_1_method_20_code 26 = .ok (.getfield 28, 3) := by decide +kernel
theorem dX10_would_29 : decode prog_1_method_20_code 29 = .ok (.invokevirtual 200, 3) := by decide +kernel
theorem dX10_would_32 : decode prog_1_method_20_code 32 = .ok (.iload 4, 2) := by decide +kernel
theorem dX10_would_34 : decode prog_1_method_20_code 34 = .ok (.ireturn, 1) := by decide +kernel
theorem dX8_cellAt_0 : decode prog_10_method_5_code 0 = .ok (.iload_n 1, 1) := by decide +kernel
theorem dX8_cellAt_1 : decode prog_10_method_5_code 1 = .ok (.istore_n 3, 1) := by decide +kernel
theorem dX8_cellAt_2 : decode prog_10_method_5_code 2 = .ok (.iconst 0, 1) := by decide +kernel
theorem dX8_cellAt_3 : decode prog_10_method_5_code 3 = .ok (.istore 4, 2) := by decide +kernel
theorem dX8_cellAt_5 : decode prog_10_method_5_code 5 = .ok (.iload 4, 2) := by decide +kernel
theorem dX8_cellAt_7 : decode prog_10_method_5_code 7 = .ok (.iload_n 2, 1) := by decide +kernel
theorem dX8_cellAt_8 : decode prog_10_method_5_code 8 = .ok (.if_icmp .ge 22, 3) := by decide +kernel
theorem dX8_cellAt_11 : decode prog_10_method_5_code 11 = .ok (.iload 4, 2) := by decide +kernel
theorem dX8_cellAt_13 : decode prog_10_method_5_code 13 = .ok (.bipush 32, 2) := by decide +kernel
theorem dX8_cellAt_15 : decode prog_10_method_5_code 15 = .ok (.if_icmp .ge 15, 3) := by decide +kernel
theorem dX8_cellAt_18 : decode prog_10_method_5_code 18 = .ok (.aload_n 0, 1) := by decide +kernel
theorem dX8_cellAt_19 : decode prog_10_method_5_code 19 = .ok (.iload_n 3, 1) := by decide +kernel
theorem dX8_cellAt_20 : decode prog_10_method_5_code 20 = .ok (.invokevirtual 43, 3) := by decide +kernel
theorem dX8_cellAt_23 : decode prog_10_method_5_code 23 = .ok (.istore_n 3, 1) := by decide +kernel
theorem dX8_cellAt_24 : decode prog_10_method_5_code 24 = .ok (.iinc 4 1, 3) := by decide +kernel
theorem dX8_cellAt_27 : decode prog_10_method_5_code 27 = .ok (.goto (-22), 3) := by decide +kernel
theorem dX8_cellAt_30 : decode prog_10_method_5_code 30 = .ok (.iload_n 3, 1) := by decide +kernel
theorem dX8_cellAt_31 : decode prog_10_method_5_code 31 = .ok (.ireturn, 1) := by decide +kernel
theorem dX8_onward_0 : decode prog_10_method_4_code 0 = .ok (.iload_n 1, 1) := by decide +kernel
theorem dX8_onward_1 : decode prog_10_method_4_code 1 = .ok (.i2l, 1) := by decide +kernel
theorem dX8_onward_2 : decode prog_10_method_4_code 2 = .ok (.invokestatic 18, 3) := by decide +kernel
theorem dX8_onward_5 : decode prog_10_method_4_code 5 = .ok (.ifCond .eq 12, 3) := by decide +kernel
theorem dX8_onward_8 : decode prog_10_method_4_code 8 = .ok (.aload_n 0, 1) := by decide +kernel
theorem dX8_onward_9 : decode prog_10_method_4_code 9 = .ok (.getfield 15, 3) := by decide +kernel
theorem dX8_onward_12 : decode prog_10_method_4_code 12 = .ok (.iload_n 1, 1) := by decide +kernel
theorem dX8_onward_13 : decode prog_10_method_4_code 13 = .ok (.iaload, 1) := by decide +kernel
theorem dX8_onward_14 : decode prog_10_method_4_code 14 = .ok (.goto 4, 3) := by decide +kernel
theorem dX8_onward_17 : decode prog_10_method_4_code 17 = .ok (.iload_n 1, 1) := by decide +kernel
theorem dX8_onward_18 : decode prog_10_method_4_code 18 = .ok (.ireturn, 1) := by decide +kernel
theorem dX8_stepsTo_0 : decode prog_10_method_3_code 0 = .ok (.iconst 0, 1) := by decide +kernel
theorem dX8_stepsTo_1 : decode prog_10_method_3_code 1 = .ok (.istore_n 3, 1) := by decide +kernel
theorem dX8_stepsTo_2 : decode prog_10_method_3_code 2 = .ok (.iload_n 1, 1) := by decide +kernel
theorem dX8_stepsTo_3 : decode prog_10_method_3_code 3 = .ok (.istore 4, 2) := by decide +kernel
theorem dX8_stepsTo_5 : decode prog_10_method_3_code 5 = .ok (.iload 4, 2) := by decide +kernel
theorem dX8_stepsTo_7 : decode prog_10_method_3_code 7 = .ok (.iload_n 2, 1) := by decide +kernel
theorem dX8_stepsTo_8 : decode prog_10_method_3_code 8 = .ok (.if_icmp .eq 23, 3) := by decide +kernel
theorem dX8_stepsTo_11 : decode prog_10_method_3_code 11 = .ok (.iload_n 3, 1) := by decide +kernel
theorem dX8_stepsTo_12 : decode prog_10_method_3_code 12 = .ok (.bipush 32, 2) := by decide +kernel
theorem dX8_stepsTo_14 : decode prog_10_method_3_code 14 = .ok (.if_icmp .ge 17, 3) := by decide +kernel
theorem dX8_stepsTo_17 : decode prog_10_method_3_code 17 = .ok (.aload_n 0, 1) := by decide +kernel
theorem dX8_stepsTo_18 : decode prog_10_method_3_code 18 = .ok (.iload 4, 2) := by decide +kernel
theorem dX8_stepsTo_20 : decode prog_10_method_3_code 20 = .ok (.invokevirtual 43, 3) := by decide +kernel
theorem dX8_stepsTo_23 : decode prog_10_method_3_code 23 = .ok (.istore 4, 2) := by decide +kernel
theorem dX8_stepsTo_25 : decode prog_10_method_3_code 25 = .ok (.iinc 3 1, 3) := by decide +kernel
theorem dX8_stepsTo_28 : decode prog_10_method_3_code 28 = .ok (.goto (-23), 3) := by decide +kernel
theorem dX8_stepsTo_31 : decode prog_10_method_3_code 31 = .ok (.iload_n 3, 1) := by decide +kernel
theorem dX8_stepsTo_32 : decode prog_10_method_3_code 32 = .ok (.ireturn, 1) := by decide +kernel
theorem dX8_trace_0 : decode prog_10_method_2_code 0 = .ok (.iload_n 2, 1) := by decide +kernel
theorem dX8_trace_1 : decode prog_10_method_2_code 1 = .ok (.i2l, 1) := by decide +kernel
theorem dX8_trace_2 : decode prog_10_method_2_code 2 = .ok (.invokestatic 18, 3) := by decide +kernel
theorem dX8_trace_5 : decode prog_10_method_2_code 5 = .ok (.ifCond .eq 11, 3) := by decide +kernel
theorem dX8_trace_8 : decode prog_10_method_2_code 8 = .ok (.iload_n 3, 1) := by decide +kernel
theorem dX8_trace_9 : decode prog_10_method_2_code 9 = .ok (.i2l, 1) := by decide +kernel
theorem dX8_trace_10 : decode prog_10_method_2_code 10 = .ok (.invokestatic 18, 3) := by decide +kernel
theorem dX8_trace_13 : decode prog_10_method_2_code 13 = .ok (.ifCond .ne 5, 3) := by decide +kernel
theorem dX8_trace_16 : decode prog_10_method_2_code 16 = .ok (.iconst (-1), 1) := by decide +kernel
theorem dX8_trace_17 : decode prog_10_method_2_code 17 = .ok (.ireturn, 1) := by decide +kernel
theorem dX8_trace_18 : decode prog_10_method_2_code 18 = .ok (.iload_n 3, 1) := by decide +kernel
theorem dX8_trace_19 : decode prog_10_method_2_code 19 = .ok (.invokestatic 22, 3) := by decide +kernel
theorem dX8_trace_22 : decode prog_10_method_2_code 22 = .ok (.lstore 4, 2) := by decide +kernel
theorem dX8_trace_24 : decode prog_10_method_2_code 24 = .ok (.iconst 1, 1) := by decide +kernel
theorem dX8_trace_25 : decode prog_10_method_2_code 25 = .ok (.istore 6, 2) := by decide +kernel
theorem dX8_trace_27 : decode prog_10_method_2_code 27 = .ok (.aload_n 0, 1) := by decide +kernel
theorem dX8_trace_28 : decode prog_10_method_2_code 28 = .ok (.getfield 9, 3) := by decide +kernel
theorem dX8_trace_31 : decode prog_10_method_2_code 31 = .ok (.iconst 0, 1) := by decide +kernel
theorem dX8_trace_32 : decode prog_10_method_2_code 32 = .ok (.iload_n 3, 1) := by decide +kernel
theorem dX8_trace_33 : decode prog_10_method_2_code 33 = .ok (.iastore, 1) := by decide +kernel
theorem dX8_trace_34 : decode prog_10_method_2_code 34 = .ok (.aload_n 0, 1) := by decide +kernel
theorem dX8_trace_35 : decode prog_10_method_2_code 35 = .ok (.getfield 15, 3) := by decide +kernel
theorem dX8_trace_38 : decode prog_10_method_2_code 38 = .ok (.iload_n 3, 1) := by decide +kernel
theorem dX8_trace_39 : decode prog_10_method_2_code 39 = .ok (.iload_n 3, 1) := by decide +kernel
theorem dX8_trace_40 : decode prog_10_method_2_code 40 = .ok (.iastore, 1) := by decide +kernel
theorem dX8_trace_41 : decode prog_10_method_2_code 41 = .ok (.iconst 0, 1) := by decide +kernel
theorem dX8_trace_42 : decode prog_10_method_2_code 42 = .ok (.istore 7, 2) := by decide +kernel
theorem dX8_trace_44 : decode prog_10_method_2_code 44 = .ok (.iload 7, 2) := by decide +kernel
theorem dX8_trace_46 : decode prog_10_method_2_code 46 = .ok (.iload 6, 2) := by decide +kernel
theorem dX8_trace_48 : decode prog_10_method_2_code 48 = .ok (.if_icmp .ge 112, 3) := by decide +kernel
theorem dX8_trace_51 : decode prog_10_method_2_code 51 = .ok (.iload 7, 2) := by decide +kernel
theorem dX8_trace_53 : decode prog_10_method_2_code 53 = .ok (.bipush 32, 2) := by decide +kernel
theorem dX8_trace_55 : decode prog_10_method_2_code 55 = .ok (.if_icmp .ge 105, 3) := by decide +kernel
theorem dX8_trace_58 : decode prog_10_method_2_code 58 = .ok (.aload_n 0, 1) := by decide +kernel
theorem dX8_trace_59 : decode prog_10_method_2_code 59 = .ok (.getfield 9, 3) := by decide +kernel
theorem dX8_trace_62 : decode prog_10_method_2_code 62 = .ok (.iload 7, 2) := by decide +kernel
theorem dX8_trace_64 : decode prog_10_method_2_code 64 = .ok (.iaload, 1) := by decide +kernel
theorem dX8_trace_65 : decode prog_10_method_2_code 65 = .ok (.istore 8, 2) := by decide +kernel
theorem dX8_trace_67 : decode prog_10_method_2_code 67 = .ok (.iconst 0, 1) := by decide +kernel
theorem dX8_trace_68 : decode prog_10_method_2_code 68 = .ok (.istore 9, 2) := by decide +kernel
theorem dX8_trace_70 : decode prog_10_method_2_code 70 = .ok (.iload 9, 2) := by decide +kernel
theorem dX8_trace_72 : decode prog_10_method_2_code 72 = .ok (.aload_n 1, 1) := by decide +kernel
theorem dX8_trace_73 : decode prog_10_method_2_code 73 = .ok (.iload 8, 2) := by decide +kernel
theorem dX8_trace_75 : decode prog_10_method_2_code 75 = .ok (.invokevirtual 26, 3) := by decide +kernel
theorem dX8_trace_78 : decode prog_10_method_2_code 78 = .ok (.if_icmp .ge 76, 3) := by decide +kernel
theorem dX8_trace_81 : decode prog_10_method_2_code 81 = .ok (.aload_n 1, 1) := by decide +kernel
theorem dX8_trace_82 : decode prog_10_method_2_code 82 = .ok (.iload 8, 2) := by decide +kernel
theorem dX8_trace_84 : decode prog_10_method_2_code 84 = .ok (.iload 9, 2) := by decide +kernel
theorem dX8_trace_86 : decode prog_10_method_2_code 86 = .ok (.invokevirtual 32, 3) := by decide +kernel
theorem dX8_trace_89 : decode prog_10_method_2_code 89 = .ok (.istore 10, 2) := by decide +kernel
theorem dX8_trace_91 : decode prog_10_method_2_code 91 = .ok (.iload 10, 2) := by decide +kernel
theorem dX8_trace_93 : decode prog_10_method_2_code 93 = .ok (.i2l, 1) := by decide +kernel
theorem dX8_trace_94 : decode prog_10_method_2_code 94 = .ok (.invokestatic 18, 3) := by decide +kernel
theorem dX8_trace_97 : decode prog_10_method_2_code 97 = .ok (.ifCond .eq 51, 3) := by decide +kernel
theorem dX8_trace_100 : decode prog_10_method_2_code 100 = .ok (.lload 4, 2) := by decide +kernel
theorem dX8_trace_102 : decode prog_10_method_2_code 102 = .ok (.iload 10, 2) := by decide +kernel
theorem dX8_trace_104 : decode prog_10_method_2_code 104 = .ok (.invokestatic 36, 3) := by decide +kernel
theorem dX8_trace_107 : decode prog_10_method_2_code 107 = .ok (.ifCond .ne 41, 3) := by decide +kernel
theorem dX8_trace_110 : decode prog_10_method_2_code 110 = .ok (.iload 6, 2) := by decide +kernel
theorem dX8_trace_112 : decode prog_10_method_2_code 112 = .ok (.bipush 32, 2) := by decide +kernel
theorem dX8_trace_114 : decode prog_10_method_2_code 114 = .ok (.if_icmp .ge 34, 3) := by decide +kernel
theorem dX8_trace_117 : decode prog_10_method_2_code 117 = .ok (.lload 4, 2) := by decide +kernel
theorem dX8_trace_119 : decode prog_10_method_2_code 119 = .ok (.iload 10, 2) := by decide +kernel
theorem dX8_trace_121 : decode prog_10_method_2_code 121 = .ok (.invokestatic 22, 3) := by decide +kernel
theorem dX8_trace_124 : decode prog_10_method_2_code 124 = .ok (.lor, 1) := by decide +kernel
theorem dX8_trace_125 : decode prog_10_method_2_code 125 = .ok (.lstore 4, 2) := by decide +kernel
theorem dX8_trace_127 : decode prog_10_method_2_code 127 = .ok (.aload_n 0, 1) := by decide +kernel
theorem dX8_trace_128 : decode prog_10_method_2_code 128 = .ok (.getfield 15, 3) := by decide +kernel
theorem dX8_trace_131 : decode prog_10_method_2_code 131 = .ok (.iload 10, 2) := by decide +kernel
theorem dX8_trace_133 : decode prog_10_method_2_code 133 = .ok (.iload 8, 2) := by decide +kernel
theorem dX8_trace_135 : decode prog_10_method_2_code 135 = .ok (.iastore, 1) := by decide +kernel
theorem dX8_trace_136 : decode prog_10_method_2_code 136 = .ok (.aload_n 0, 1) := by decide +kernel
theorem dX8_trace_137 : decode prog_10_method_2_code 137 = .ok (.getfield 9, 3) := by decide +kernel
theorem dX8_trace_140 : decode prog_10_method_2_code 140 = .ok (.iload 6, 2) := by decide +kernel
theorem dX8_trace_142 : decode prog_10_method_2_code 142 = .ok (.iload 10, 2) := by decide +kernel
theorem dX8_trace_144 : decode prog_10_method_2_code 144 = .ok (.iastore, 1) := by decide +kernel
theorem dX8_trace_145 : decode prog_10_method_2_code 145 = .ok (.iinc 6 1, 3) := by decide +kernel
theorem dX8_trace_148 : decode prog_10_method_2_code 148 = .ok (.iinc 9 1, 3) := by decide +kernel
theorem dX8_trace_151 : decode prog_10_method_2_code 151 = .ok (.goto (-81), 3) := by decide +kernel
theorem dX8_trace_154 : decode prog_10_method_2_code 154 = .ok (.iinc 7 1, 3) := by decide +kernel
theorem dX8_trace_157 : decode prog_10_method_2_code 157 = .ok (.goto (-113), 3) := by decide +kernel
theorem dX8_trace_160 : decode prog_10_method_2_code 160 = .ok (.lload 4, 2) := by decide +kernel
theorem dX8_trace_162 : decode prog_10_method_2_code 162 = .ok (.iload_n 2, 1) := by decide +kernel
theorem dX8_trace_163 : decode prog_10_method_2_code 163 = .ok (.invokestatic 36, 3) := by decide +kernel
theorem dX8_trace_166 : decode prog_10_method_2_code 166 = .ok (.ifCond .eq 12, 3) := by decide +kernel
theorem dX8_trace_169 : decode prog_10_method_2_code 169 = .ok (.aload_n 0, 1) := by decide +kernel
theorem dX8_trace_170 : decode prog_10_method_2_code 170 = .ok (.iload_n 2, 1) := by decide +kernel
theorem dX8_trace_171 : decode prog_10_method_2_code 171 = .ok (.iload_n 3, 1) := by decide +kernel
theorem dX8_trace_172 : decode prog_10_method_2_code 172 = .ok (.invokevirtual 40, 3) := by decide +kernel
theorem dX8_trace_175 : decode prog_10_method_2_code 175 = .ok (.goto 4, 3) := by decide +kernel
theorem dX8_trace_178 : decode prog_10_method_2_code 178 = .ok (.iconst (-1), 1) := by decide +kernel
theorem dX8_trace_179 : decode prog_10_method_2_code 179 = .ok (.ireturn, 1) := by decide +kernel
/-! ReactiveSheet.Cells.readOf(II)I ['x.engine.now'] -/
abbrev rm_X_X0_readOf__4 : Room := { frames := 1, cells := 0, slots := 0, locals := 21 }
def b_X_X0_readOf__4_43  (t : fw_S) (z0 : Int32) : Option (Int32 × fw_S) := some (z0, t)
def b_X_X0_readOf__4_42  (t : fw_S)  : Option (Int32 × fw_S) := b_X_X0_readOf__4_43 t ((-1 : Int32))
def b_X_X0_readOf__4_28  (t : fw_S) (x1 : Int32) (x2 : Int32) : Option (Int32 × fw_S) := fb_g (¬ (((x1 * ((32 : Int32))) + x2) < 0 ∨ 1024 ≤ ((x1 * ((32 : Int32))) + x2).toNatClampNeg)) (b_X_X0_readOf__4_43 t (st_F t 13 ((x1 * ((32 : Int32))) + x2).toNatClampNeg))
def b_X_X0_readOf__4_18  (t : fw_S) (x1 : Int32) (x2 : Int32) : Option (Int32 × fw_S) := fb_g (¬ (x1 < 0 ∨ 32 ≤ x1.toNatClampNeg)) (if (st_F t 14 x1.toNatClampNeg) ≤ x2 then b_X_X0_readOf__4_42 t else b_X_X0_readOf__4_28 t x1 x2)
def b_X_X0_readOf__4_12  (t : fw_S) (x1 : Int32) (x2 : Int32) : Option (Int32 × fw_S) := if ((32 : Int32)) ≤ x2 then b_X_X0_readOf__4_42 t else b_X_X0_readOf__4_18 t x1 x2
def b_X_X0_readOf__4_8  (t : fw_S) (x1 : Int32) (x2 : Int32) : Option (Int32 × fw_S) := if x2 < 0 then b_X_X0_readOf__4_42 t else b_X_X0_readOf__4_12 t x1 x2
def b_X_X0_readOf__4_0  (t : fw_S) (x1 : Int32) (x2 : Int32) : Option (Int32 × fw_S) := fb_b (f_X_X10_isCell t x1.toInt64) fun v_2 t_1 => (if v_2 = 0 then b_X_X0_readOf__4_42 t_1 else b_X_X0_readOf__4_8 t_1 x1 x2)
def f_X_X0_readOf__4 (t : fw_S) (x1 : Int32) (x2 : Int32) : Option (Int32 × fw_S) := b_X_X0_readOf__4_0 t x1 x2
set_option maxRecDepth 20000 in
theorem w_X_X0_readOf__4_43 {p : Program} {l : Launch} {e : Env} {s : State} {m : MethodId} {args : Array Value} {below : List Frame} {meth : Method} {c : Code} {A : Nat → Prop} {Q : State → Prop} {D : va_G} {ca : Nat → ClassId} {a : Nat → Nat} {u : fw_S} {r : Int32}  (C : CX (WX ca a) D (tyv ca) p s m args c A prog_2_method_20_code 3 RX0) (hr : True → RX (WX ca a) D p l e rm_X_X0_readOf__4 s m args below meth c A prog_2_method_20_code Q .ireturn [.int r] u) {t : fw_S} {z0 : Int32} {H : Heap} {locs : List Loc} {ls : Array Slot} (hf : b_X_X0_readOf__4_43  t z0 = some (r, u)) (hP : va_P D classes (WX ca a t) H) (hS : va_S A s.heap H locs) (hl : lv_has ls 3 []) : W p l e rm_X_X0_readOf__4 s m args below meth c H locs 0 0 Q (F0 m 43 ls [.int z0]) := by
  obtain ⟨hx, hb, hml, hown, hts, hN, hK, hD, hA⟩ := id C
  have hf : (some (z0, t)) = some (r, u) := hf
  obtain ⟨e_43, e2_43⟩ := fb_e hf
  subst e_43; subst e2_43
  exact hr trivial _ _ _ _ hP hS dX0_readOf_43
set_option maxRecDepth 20000 in
theorem w_X_X0_readOf__4_42 {p : Program} {l : Launch} {e : Env} {s : State} {m : MethodId} {args : Array Value} {below : List Frame} {meth : Method} {c : Code} {A : Nat → Prop} {Q : State → Prop} {D : va_G} {ca : Nat → ClassId} {a : Nat → Nat} {u : fw_S} {r : Int32}  (C : CX (WX ca a) D (tyv ca) p s m args c A prog_2_method_20_code 3 RX0) (hr : True → RX (WX ca a) D p l e rm_X_X0_readOf__4 s m args below meth c A prog_2_method_20_code Q .ireturn [.int r] u) {t : fw_S}  {H : Heap} {locs : List Loc} {ls : Array Slot} (hf : b_X_X0_readOf__4_42  t  = some (r, u)) (hP : va_P D classes (WX ca a t) H) (hS : va_S A s.heap H locs) (hl : lv_has ls 3 []) : W p l e rm_X_X0_readOf__4 s m args below meth c H locs 0 0 Q (F0 m 42 ls []) := by
  obtain ⟨hx, hb, hml, hown, hts, hN, hK, hD, hA⟩ := id C
  have hf : (b_X_X0_readOf__4_43 t ((-1 : Int32))) = some (r, u) := hf
  refine lv_iconst (v := (-1)) hx hb dX0_readOf_42 (by decide) ?_
  exact w_X_X0_readOf__4_43 C hr hf hP hS (lv_sub hl [] rfl)
set_option maxRecDepth 20000 in
theorem w_X_X0_readOf__4_28 {p : Program} {l : Launch} {e : Env} {s : State} {m : MethodId} {args : Array Value} {below : List Frame} {meth : Method} {c : Code} {A : Nat → Prop} {Q : State → Prop} {D : va_G} {ca : Nat → ClassId} {a : Nat → Nat} {u : fw_S} {r : Int32}  (C : CX (WX ca a) D (tyv ca) p s m args c A prog_2_method_20_code 3 RX0) (hr : True → RX (WX ca a) D p l e rm_X_X0_readOf__4 s m args below meth c A prog_2_method_20_code Q .ireturn [.int r] u) {t : fw_S} {x1 : Int32} {x2 : Int32} {H : Heap} {locs : List Loc} {ls : Array Slot} (hf : b_X_X0_readOf__4_28  t x1 x2 = some (r, u)) (hP : va_P D classes (WX ca a t) H) (hS : va_S A s.heap H locs) (hl : lv_has ls 3 [(0, .ref (a 4)), (1, .int x1), (2, .int x2)]) : W p l e rm_X_X0_readOf__4 s m args below meth c H locs 0 0 Q (F0 m 28 ls []) := by
  obtain ⟨hx, hb, hml, hown, hts, hN, hK, hD, hA⟩ := id C
  have hf : (fb_g (¬ (((x1 * ((32 : Int32))) + x2) < 0 ∨ 1024 ≤ ((x1 * ((32 : Int32))) + x2).toNatClampNeg)) (b_X_X0_readOf__4_43 t (st_F t 13 ((x1 * ((32 : Int32))) + x2).toNatClampNeg))) = some (r, u) := hf
  refine lv_aload_n hx hb dX0_readOf_28 rfl (lv_at hl 0 rfl) ?_
  refine va_get (D := D) (ci := 0) (v := .ref (a 29)) (C := RX0) (T := TX0) (N := 12) hx hb hts inX0 hown hK hP 4 (heX_4 ca a t) rfl 7 (by decide) (hts _ kw_194) (fun _ h9 => h9) rfl dX0_readOf_29 ?_
  refine lv_iload_n hx hb dX0_readOf_32 rfl (lv_at hl 1 rfl) ?_
  refine lv_bipush (v := 32) hx hb dX0_readOf_33 (by decide) ?_
  refine lv_imul hx hb dX0_readOf_35 ?_
  refine lv_iload_n hx hb dX0_readOf_36 rfl (lv_at hl 2 rfl) ?_
  refine lv_iadd hx hb dX0_readOf_37 ?_
  obtain ⟨h_38, hf⟩ := fb_if hf
  refine va_iald hx hb hK hP 29 0 (haX_29 ca a t) rfl h_38 dX0_readOf_38 ?_
  refine lv_goto (tgt := 43) hx hb dX0_readOf_39 (by decide) ?_
  exact w_X_X0_readOf__4_43 C hr hf hP hS (lv_sub hl [] rfl)
set_option maxRecDepth 20000 in
theorem w_X_X0_readOf__4_18 {p : Program} {l : Launch} {e : Env} {s : State} {m : MethodId} {args : Array Value} {below : List Frame} {meth : Method} {c : Code} {A : Nat → Prop} {Q : State → Prop} {D : va_G} {ca : Nat → ClassId} {a : Nat → Nat} {u : fw_S} {r : Int32}  (C : CX (WX ca a) D (tyv ca) p s m args c A prog_2_method_20_code 3 RX0) (hr : True → RX (WX ca a) D p l e rm_X_X0_readOf__4 s m args below meth c A prog_2_method_20_code Q .ireturn [.int r] u) {t : fw_S} {x1 : Int32} {x2 : Int32} {H : Heap} {locs : List Loc} {ls : Array Slot} (hf : b_X_X0_readOf__4_18  t x1 x2 = some (r, u)) (hP : va_P D classes (WX ca a t) H) (hS : va_S A s.heap H locs) (hl : lv_has ls 3 [(0, .ref (a 4)), (1, .int x1), (2, .int x2)]) : W p l e rm_X_X0_readOf__4 s m args below meth c H locs 0 0 Q (F0 m 18 ls []) := by
  obtain ⟨hx, hb, hml, hown, hts, hN, hK, hD, hA⟩ := id C
  have hf : (fb_g (¬ (x1 < 0 ∨ 32 ≤ x1.toNatClampNeg)) (if (st_F t 14 x1.toNatClampNeg) ≤ x2 then b_X_X0_readOf__4_42 t else b_X_X0_readOf__4_28 t x1 x2)) = some (r, u) := hf
  refine lv_iload_n hx hb dX0_readOf_18 rfl (lv_at hl 2 rfl) ?_
  refine lv_aload_n hx hb dX0_readOf_19 rfl (lv_at hl 0 rfl) ?_
  refine va_get (D := D) (ci := 0) (v := .ref (a 30)) (C := RX0) (T := TX0) (N := 12) hx hb hts inX0 hown hK hP 4 (heX_4 ca a t) rfl 8 (by decide) (hts _ kw_195) (fun _ h9 => h9) rfl dX0_readOf_20 ?_
  refine lv_iload_n hx hb dX0_readOf_23 rfl (lv_at hl 1 rfl) ?_
  obtain ⟨h_24, hf⟩ := fb_if hf
  refine va_iald hx hb hK hP 30 0 (haX_30 ca a t) rfl h_24 dX0_readOf_24 ?_
  refine lv_icmp_ge (tgt := 42) hx hb dX0_readOf_25 (by decide) (fun h_25 => ?_) (fun h_25 => ?_)
  · have hf := fb_t h_25 hf
    exact w_X_X0_readOf__4_42 C hr hf hP hS (lv_sub hl [] rfl)
  · have hf := fb_f h_25 hf
    exact w_X_X0_readOf__4_28 C hr hf hP hS (lv_sub hl [0, 1, 2] rfl)
set_option maxRecDepth 20000 in
theorem w_X_X0_readOf__4_12 {p : Program} {l : Launch} {e : Env} {s : State} {m : MethodId} {args : Array Value} {below : List Frame} {meth : Method} {c : Code} {A : Nat → Prop} {Q : State → Prop} {D : va_G} {ca : Nat → ClassId} {a : Nat → Nat} {u : fw_S} {r : Int32}  (C : CX (WX ca a) D (tyv ca) p s m args c A prog_2_method_20_code 3 RX0) (hr : True → RX (WX ca a) D p l e rm_X_X0_readOf__4 s m args below meth c A prog_2_method_20_code Q .ireturn [.int r] u) {t : fw_S} {x1 : Int32} {x2 : Int32} {H : Heap} {locs : List Loc} {ls : Array Slot} (hf : b_X_X0_readOf__4_12  t x1 x2 = some (r, u)) (hP : va_P D classes (WX ca a t) H) (hS : va_S A s.heap H locs) (hl : lv_has ls 3 [(0, .ref (a 4)), (1, .int x1), (2, .int x2)]) : W p l e rm_X_X0_readOf__4 s m args below meth c H locs 0 0 Q (F0 m 12 ls []) := by
  obtain ⟨hx, hb, hml, hown, hts, hN, hK, hD, hA⟩ := id C
  have hf : (if ((32 : Int32)) ≤ x2 then b_X_X0_readOf__4_42 t else b_X_X0_readOf__4_18 t x1 x2) = some (r, u) := hf
  refine lv_iload_n hx hb dX0_readOf_12 rfl (lv_at hl 2 rfl) ?_
  refine lv_bipush (v := 32) hx hb dX0_readOf_13 (by decide) ?_
  refine lv_icmp_ge (tgt := 42) hx hb dX0_readOf_15 (by decide) (fun h_15 => ?_) (fun h_15 => ?_)
  · have hf := fb_t h_15 hf
    exact w_X_X0_readOf__4_42 C hr hf hP hS (lv_sub hl [] rfl)
  · have hf := fb_f h_15 hf
    exact w_X_X0_readOf__4_18 C hr hf hP hS (lv_sub hl [0, 1, 2] rfl)
set_option maxRecDepth 20000 in
theorem w_X_X0_readOf__4_8 {p : Program} {l : Launch} {e : Env} {s : State} {m : MethodId} {args : Array Value} {below : List Frame} {meth : Method} {c : Code} {A : Nat → Prop} {Q : State → Prop} {D : va_G} {ca : Nat → ClassId} {a : Nat → Nat} {u : fw_S} {r : Int32}  (C : CX (WX ca a) D (tyv ca) p s m args c A prog_2_method_20_code 3 RX0) (hr : True → RX (WX ca a) D p l e rm_X_X0_readOf__4 s m args below meth c A prog_2_method_20_code Q .ireturn [.int r] u) {t : fw_S} {x1 : Int32} {x2 : Int32} {H : Heap} {locs : List Loc} {ls : Array Slot} (hf : b_X_X0_readOf__4_8  t x1 x2 = some (r, u)) (hP : va_P D classes (WX ca a t) H) (hS : va_S A s.heap H locs) (hl : lv_has ls 3 [(0, .ref (a 4)), (1, .int x1), (2, .int x2)]) : W p l e rm_X_X0_readOf__4 s m args below meth c H locs 0 0 Q (F0 m 8 ls []) := by
  obtain ⟨hx, hb, hml, hown, hts, hN, hK, hD, hA⟩ := id C
  have hf : (if x2 < 0 then b_X_X0_readOf__4_42 t else b_X_X0_readOf__4_12 t x1 x2) = some (r, u) := hf
  refine lv_iload_n hx hb dX0_readOf_8 rfl (lv_at hl 2 rfl) ?_
  refine lv_if_lt (tgt := 42) hx hb dX0_readOf_9 (by decide) (fun h_9 => ?_) (fun h_9 => ?_)
  · have hf := fb_t h_9 hf
    exact w_X_X0_readOf__4_42 C hr hf hP hS (lv_sub hl [] rfl)
  · have hf := fb_f h_9 hf
    exact w_X_X0_readOf__4_12 C hr hf hP hS (lv_sub hl [0, 1, 2] rfl)
set_option maxRecDepth 20000 in
theorem w_X_X0_readOf__4_0 {p : Program} {l : Launch} {e : Env} {s : State} {m : MethodId} {args : Array Value} {below : List Frame} {meth : Method} {c : Code} {A : Nat → Prop} {Q : State → Prop} {D : va_G} {ca : Nat → ClassId} {a : Nat → Nat} {u : fw_S} {r : Int32}  (C : CX (WX ca a) D (tyv ca) p s m args c A prog_2_method_20_code 3 RX0) (hr : True → RX (WX ca a) D p l e rm_X_X0_readOf__4 s m args below meth c A prog_2_method_20_code Q .ireturn [.int r] u) {t : fw_S} {x1 : Int32} {x2 : Int32} {H : Heap} {locs : List Loc} {ls : Array Slot} (hf : b_X_X0_readOf__4_0  t x1 x2 = some (r, u)) (hP : va_P D classes (WX ca a t) H) (hS : va_S A s.heap H locs) (hl : lv_has ls 3 [(0, .ref (a 4)), (1, .int x1), (2, .int x2)]) : W p l e rm_X_X0_readOf__4 s m args below meth c H locs 0 0 Q (F0 m 0 ls []) := by
  obtain ⟨hx, hb, hml, hown, hts, hN, hK, hD, hA⟩ := id C
  have hf : (fb_b (f_X_X10_isCell t x1.toInt64) fun v_2 t_1 => (if v_2 = 0 then b_X_X0_readOf__4_42 t_1 else b_X_X0_readOf__4_8 t_1 x1 x2)) = some (r, u) := hf
  refine lv_iload_n hx hb dX0_readOf_0 rfl (lv_at hl 1 rfl) ?_
  refine lv_i2l hx hb dX0_readOf_1 rfl ?_
  obtain ⟨v_2, t_1, g_2, hf⟩ := fb_bs hf
  refine fw_S2 (As := [.long x1.toInt64]) (rest := []) (n := 1) C (c_X_X10_isCell (l := l) (D := D) (ca := ca) (a := a) g_2) kw_429 kw_399 kw_92 kw_400 hP hS hl rfl rfl (by decide) (by decide +kernel) ⟨Nat.le_of_ble_eq_true rfl, Nat.le_of_ble_eq_true rfl⟩ rfl rfl (Nat.le_of_ble_eq_true rfl) dX0_readOf_2 (fun H locs hP hS => ?_)
  refine W.eq (g2 := F0 m 5 ls [.int v_2]) rfl ?_
  refine lv_if_eq (tgt := 42) hx hb dX0_readOf_5 (by decide) (fun h_5 => ?_) (fun h_5 => ?_)
  · have hf := fb_t h_5 hf
    exact w_X_X0_readOf__4_42 C hr hf hP hS (lv_sub hl [] rfl)
  · have hf := fb_f h_5 hf
    exact w_X_X0_readOf__4_8 C hr hf hP hS (lv_sub hl [0, 1, 2] rfl)
set_option maxRecDepth 20000 in
theorem c_X_X0_readOf__4 {l : Launch} {D : va_G} {ca : Nat → ClassId} {a : Nat → Nat} {t : fw_S} {x1 : Int32} {x2 : Int32} {u : fw_S} {r : Int32} (hf : f_X_X0_readOf__4 t x1 x2 = some (r, u)) : MC (WX ca a) D (tyv ca) l yX0_readOf (.code yX0_readOf prog_2_method_20_code 3 (some .int) :: lw_gd) rm_X_X0_readOf__4 [.ref (a 4), .int x1, .int x2] (some (.int r)) t u := by
  refine fw_met (okX ca a) (by decide +kernel) rfl rfl (Nat.le_of_ble_eq_true rfl) ?_
  intro p e s m args below meth c A Q ls C hr hk hP hS hl hQ
  exact w_X_X0_readOf__4_0 C (fun _ => fw_ri C hr hk hQ) hf hP hS (lv_sub hl [0, 1, 2] rfl)
/-! ReactiveSheet.reads(II)I ['x'] -/
abbrev rm_X_X10_reads__0 : Room := { frames := 2, cells := 0, slots := 0, locals := 43 }
def b_X_X10_reads__0_0  (t : fw_S) (x1 : Int32) (x2 : Int32) : Option (Int32 × fw_S) := fb_v (f_X_X1_now__3 t) fun t_1 => (fb_b (f_X_X0_readOf__4 t_1 x1 x2) fun v_3 t_2 => (some (v_3, t_2)))
def f_X_X10_reads__0 (t : fw_S) (x1 : Int32) (x2 : Int32) : Option (Int32 × fw_S) := b_X_X10_reads__0_0 t x1 x2
set_option maxRecDepth 20000 in
theorem w_X_X10_reads__0_0 {p : Program} {l : Launch} {e : Env} {s : State} {m : MethodId} {args : Array Value} {below : List Frame} {meth : Method} {c : Code} {A : Nat → Prop} {Q : State → Prop} {D : va_G} {ca : Nat → ClassId} {a : Nat → Nat} {u : fw_S} {r : Int32}  (C : CX (WX ca a) D (tyv ca) p s m args c A prog_1_method_14_code 3 RX10) (hr : True → RX (WX ca a) D p l e rm_X_X10_reads__0 s m args below meth c A prog_1_method_14_code Q .ireturn [.int r] u) {t : fw_S} {x1 : Int32} {x2 : Int32} {H : Heap} {locs : List Loc} {ls : Array Slot} (hf : b_X_X10_reads__0_0  t x1 x2 = some (r, u)) (hP : va_P D classes (WX ca a t) H) (hS : va_S A s.heap H locs) (hl : lv_has ls 3 [(0, .ref (a 0)), (1, .int x1), (2, .int x2)]) : W p l e rm_X_X10_reads__0 s m args below meth c H locs 0 0 Q (F0 m 0 ls []) := by
  obtain ⟨hx, hb, hml, hown, hts, hN, hK, hD, hA⟩ := id C
  have hf : (fb_v (f_X_X1_now__3 t) fun t_1 => (fb_b (f_X_X0_readOf__4 t_1 x1 x2) fun v_3 t_2 => (some (v_3, t_2)))) = some (r, u) := hf
  refine lv_aload_n hx hb dX10_reads_0 rfl (lv_at hl 0 rfl) ?_
  refine va_get (D := D) (ci := 10) (v := .ref (a 3)) (C := RX10) (T := TX10) (N := 13) hx hb hts inX10 hown hK hP 0 (heX_0 ca a t) rfl 2 (by decide) (hts _ kw_356) (fun _ h9 => h9) rfl dX10_reads_1 ?_
  obtain ⟨t_1, g_4, hf⟩ := fb_vs hf
  refine fw_V1 (As := []) (rest := []) (n := 0) (q0 := 3) C (c_X_X1_now__3 (l := l) (D := D) (ca := ca) (a := a) g_4) kw_626 kw_627 kw_95 kw_629 kw_628 hP hS hl (heX_3 ca a t) rfl rfl rfl (by decide) (by decide +kernel) ⟨Nat.le_of_ble_eq_true rfl, Nat.le_of_ble_eq_true rfl⟩ rfl rfl (Nat.le_of_ble_eq_true rfl) dX10_reads_4 (fun H locs hP hS => ?_)
  refine W.eq (g2 := F0 m 7 ls [.ref (a 4)]) rfl ?_
  refine lv_iload_n hx hb dX10_reads_7 rfl (lv_at hl 1 rfl) ?_
  refine lv_iload_n hx hb dX10_reads_8 rfl (lv_at hl 2 rfl) ?_
  obtain ⟨v_3, t_2, g_9, hf⟩ := fb_bs hf
  refine fw_V1 (As := [.int x1, .int x2]) (rest := []) (n := 2) (q0 := 4) C (c_X_X0_readOf__4 (l := l) (D := D) (ca := ca) (a := a) g_9) kw_890 kw_473 kw_96 kw_475 kw_474 hP hS hl (heX_4 ca a t_1) rfl rfl rfl (by decide) (by decide +kernel) ⟨Nat.le_of_ble_eq_true rfl, Nat.le_of_ble_eq_true rfl⟩ rfl rfl (Nat.le_of_ble_eq_true rfl) dX10_reads_9 (fun H locs hP hS => ?_)
  refine W.eq (g2 := F0 m 12 ls [.int v_3]) rfl ?_
  obtain ⟨e_12, e2_12⟩ := fb_e hf
  subst e_12; subst e2_12
  exact hr trivial _ _ _ _ hP hS dX10_reads_12
set_option maxRecDepth 20000 in
theorem c_X_X10_reads__0 {l : Launch} {D : va_G} {ca : Nat → ClassId} {a : Nat → Nat} {t : fw_S} {x1 : Int32} {x2 : Int32} {u : fw_S} {r : Int32} (hf : f_X_X10_reads__0 t x1 x2 = some (r, u)) : MC (WX ca a) D (tyv ca) l yX10_reads (.code yX10_reads prog_1_method_14_code 3 (some .int) :: lw_gd) rm_X_X10_reads__0 [.ref (a 0), .int x1, .int x2] (some (.int r)) t u := by
  refine fw_met (okX ca a) (by decide +kernel) rfl rfl (Nat.le_of_ble_eq_true rfl) ?_
  intro p e s m args below meth c A Q ls C hr hk hP hS hl hQ
  exact w_X_X10_reads__0_0 C (fun _ => fw_ri C hr hk hQ) hf hP hS (lv_sub hl [0, 1, 2] rfl)
/-! ReactiveSheet.readers(I)J ['x'] -/
abbrev rm_X_X10_readers__0 : Room := { frames := 2, cells := 0, slots := 0, locals := 46 }
def b_X_X10_readers__0_25  (t : fw_S) (w0 : Int64) : Option (Int64 × fw_S) := some (w0, t)
def b_X_X10_readers__0_22  (t : fw_S)  : Option (Int64 × fw_S) := b_X_X10_readers__0_25 t ((-9223372036854775808 : Int64))
def b_X_X10_readers__0_8  (t : fw_S) (x1 : Int32) : Option (Int64 × fw_S) := fb_v (f_X_X1_now__3 t) fun t_1 => (fb_b (f_X_X0_readersOf__4 t_1 x1) fun v_3 t_2 => (b_X_X10_readers__0_25 t_2 v_3))
def b_X_X10_readers__0_0  (t : fw_S) (x1 : Int32) : Option (Int64 × fw_S) := fb_b (f_X_X10_isCell t x1.toInt64) fun v_2 t_1 => (if v_2 = 0 then b_X_X10_readers__0_22 t_1 else b_X_X10_readers__0_8 t_1 x1)
def f_X_X10_readers__0 (t : fw_S) (x1 : Int32) : Option (Int64 × fw_S) := b_X_X10_readers__0_0 t x1
set_option maxRecDepth 20000 in
theorem w_X_X10_readers__0_25 {p : Program} {l : Launch} {e : Env} {s : State} {m : MethodId} {args : Array Value} {below : List Frame} {meth : Method} {c : Code} {A : Nat → Prop} {Q : State → Prop} {D : va_G} {ca : Nat → ClassId} {a : Nat → Nat} {u : fw_S} {r : Int64}  (C : CX (WX ca a) D (tyv ca) p s m args c A prog_1_method_15_code 2 RX10) (hr : True → RX (WX ca a) D p l e rm_X_X10_readers__0 s m args below meth c A prog_1_method_15_code Q .lreturn [.long r] u) {t : fw_S} {w0 : Int64} {H : Heap} {locs : List Loc} {ls : Array Slot} (hf : b_X_X10_readers__0_25  t w0 = some (r, u)) (hP : va_P D classes (WX ca a t) H) (hS : va_S A s.heap H locs) (hl : lv_has ls 2 []) : W p l e rm_X_X10_readers__0 s m args below meth c H locs 0 0 Q (F0 m 25 ls [.long w0]) := by
  obtain ⟨hx, hb, hml, hown, hts, hN, hK, hD, hA⟩ := id C
  have hf : (some (w0, t)) = some (r, u) := hf
  obtain ⟨e_25, e2_25⟩ := fb_e hf
  subst e_25; subst e2_25
  exact hr trivial _ _ _ _ hP hS dX10_readers_25
set_option maxRecDepth 20000 in
theorem w_X_X10_readers__0_22 {p : Program} {l : Launch} {e : Env} {s : State} {m : MethodId} {args : Array Value} {below : List Frame} {meth : Method} {c : Code} {A : Nat → Prop} {Q : State → Prop} {D : va_G} {ca : Nat → ClassId} {a : Nat → Nat} {u : fw_S} {r : Int64}  (C : CX (WX ca a) D (tyv ca) p s m args c A prog_1_method_15_code 2 RX10) (hr : True → RX (WX ca a) D p l e rm_X_X10_readers__0 s m args below meth c A prog_1_method_15_code Q .lreturn [.long r] u) {t : fw_S}  {H : Heap} {locs : List Loc} {ls : Array Slot} (hf : b_X_X10_readers__0_22  t  = some (r, u)) (hP : va_P D classes (WX ca a t) H) (hS : va_S A s.heap H locs) (hl : lv_has ls 2 []) : W p l e rm_X_X10_readers__0 s m args below meth c H locs 0 0 Q (F0 m 22 ls []) := by
  obtain ⟨hx, hb, hml, hown, hts, hN, hK, hD, hA⟩ := id C
  have hf : (b_X_X10_readers__0_25 t ((-9223372036854775808 : Int64))) = some (r, u) := hf
  refine lv_ldc2 (v := (-9223372036854775808)) hx hb hown (hts _ kw_895) dX10_readers_22 ?_
  exact w_X_X10_readers__0_25 C hr hf hP hS (lv_sub hl [] rfl)
set_option maxRecDepth 20000 in
theorem w_X_X10_readers__0_8 {p : Program} {l : Launch} {e : Env} {s : State} {m : MethodId} {args : Array Value} {below : List Frame} {meth : Method} {c : Code} {A : Nat → Prop} {Q : State → Prop} {D : va_G} {ca : Nat → ClassId} {a : Nat → Nat} {u : fw_S} {r : Int64}  (C : CX (WX ca a) D (tyv ca) p s m args c A prog_1_method_15_code 2 RX10) (hr : True → RX (WX ca a) D p l e rm_X_X10_readers__0 s m args below meth c A prog_1_method_15_code Q .lreturn [.long r] u) {t : fw_S} {x1 : Int32} {H : Heap} {locs : List Loc} {ls : Array Slot} (hf : b_X_X10_readers__0_8  t x1 = some (r, u)) (hP : va_P D classes (WX ca a t) H) (hS : va_S A s.heap H locs) (hl : lv_has ls 2 [(0, .ref (a 0)), (1, .int x1)]) : W p l e rm_X_X10_readers__0 s m args below meth c H locs 0 0 Q (F0 m 8 ls []) := by
  obtain ⟨hx, hb, hml, hown, hts, hN, hK, hD, hA⟩ := id C
  have hf : (fb_v (f_X_X1_now__3 t) fun t_1 => (fb_b (f_X_X0_readersOf__4 t_1 x1) fun v_3 t_2 => (b_X_X10_readers__0_25 t_2 v_3))) = some (r, u) := hf
  refine lv_aload_n hx hb dX10_readers_8 rfl (lv_at hl 0 rfl) ?_
  refine va_get (D := D) (ci := 10) (v := .ref (a 3)) (C := RX10) (T := TX10) (N := 13) hx hb hts inX10 hown hK hP 0 (heX_0 ca a t) rfl 2 (by decide) (hts _ kw_356) (fun _ h9 => h9) rfl dX10_readers_9 ?_
  obtain ⟨t_1, g_12, hf⟩ := fb_vs hf
  refine fw_V1 (As := []) (rest := []) (n := 0) (q0 := 3) C (c_X_X1_now__3 (l := l) (D := D) (ca := ca) (a := a) g_12) kw_626 kw_627 kw_95 kw_629 kw_628 hP hS hl (heX_3 ca a t) rfl rfl rfl (by decide) (by decide +kernel) ⟨Nat.le_of_ble_eq_true rfl, Nat.le_of_ble_eq_true rfl⟩ rfl rfl (Nat.le_of_ble_eq_true rfl) dX10_readers_12 (fun H locs hP hS => ?_)
  refine W.eq (g2 := F0 m 15 ls [.ref (a 4)]) rfl ?_
  refine lv_iload_n hx hb dX10_readers_15 rfl (lv_at hl 1 rfl) ?_
  obtain ⟨v_3, t_2, g_16, hf⟩ := fb_bs hf
  refine fw_V1 (As := [.int x1]) (rest := []) (n := 1) (q0 := 4) C (c_X_X0_readersOf__4 (l := l) (D := D) (ca := ca) (a := a) g_16) kw_867 kw_868 kw_96 kw_870 kw_869 hP hS hl (heX_4 ca a t_1) rfl rfl rfl (by decide) (by decide +kernel) ⟨Nat.le_of_ble_eq_true rfl, Nat.le_of_ble_eq_true rfl⟩ rfl rfl (Nat.le_of_ble_eq_true rfl) dX10_readers_16 (fun H locs hP hS => ?_)
  refine W.eq (g2 := F0 m 19 ls [.long v_3]) rfl ?_
  refine lv_goto (tgt := 25) hx hb dX10_readers_19 (by decide) ?_
  exact w_X_X10_readers__0_25 C hr hf hP hS (lv_sub hl [] rfl)
set_option maxRecDepth 20000 in
theorem w_X_X10_readers__0_0 {p : Program} {l : Launch} {e : Env} {s : State} {m : MethodId} {args : Array Value} {below : List Frame} {meth : Method} {c : Code} {A : Nat → Prop} {Q : State → Prop} {D : va_G} {ca : Nat → ClassId} {a : Nat → Nat} {u : fw_S} {r : Int64}  (C : CX (WX ca a) D (tyv ca) p s m args c A prog_1_method_15_code 2 RX10) (hr : True → RX (WX ca a) D p l e rm_X_X10_readers__0 s m args below meth c A prog_1_method_15_code Q .lreturn [.long r] u) {t : fw_S} {x1 : Int32} {H : Heap} {locs : List Loc} {ls : Array Slot} (hf : b_X_X10_readers__0_0  t x1 = some (r, u)) (hP : va_P D classes (WX ca a t) H) (hS : va_S A s.heap H locs) (hl : lv_has ls 2 [(0, .ref (a 0)), (1, .int x1)]) : W p l e rm_X_X10_readers__0 s m args below meth c H locs 0 0 Q (F0 m 0 ls []) := by
  obtain ⟨hx, hb, hml, hown, hts, hN, hK, hD, hA⟩ := id C
  have hf : (fb_b (f_X_X10_isCell t x1.toInt64) fun v_2 t_1 => (if v_2 = 0 then b_X_X10_readers__0_22 t_1 else b_X_X10_readers__0_8 t_1 x1)) = some (r, u) := hf
  refine lv_iload_n hx hb dX10_readers_0 rfl (lv_at hl 1 rfl) ?_
  refine lv_i2l hx hb dX10_readers_1 rfl ?_
  obtain ⟨v_2, t_1, g_2, hf⟩ := fb_bs hf
  refine fw_S1 (As := [.long x1.toInt64]) (rest := []) (n := 1) C (c_X_X10_isCell (l := l) (D := D) (ca := ca) (a := a) g_2) kw_398 kw_399 kw_92 kw_400 hP hS hl rfl rfl (by decide) (by decide +kernel) ⟨Nat.le_of_ble_eq_true rfl, Nat.le_of_ble_eq_true rfl⟩ rfl rfl (Nat.le_of_ble_eq_true rfl) dX10_readers_2 (fun H locs hP hS => ?_)
  refine W.eq (g2 := F0 m 5 ls [.int v_2]) rfl ?_
  refine lv_if_eq (tgt := 22) hx hb dX10_readers_5 (by decide) (fun h_5 => ?_) (fun h_5 => ?_)
  · have hf := fb_t h_5 hf
    exact w_X_X10_readers__0_22 C hr hf hP hS (lv_sub hl [] rfl)
  · have hf := fb_f h_5 hf
    exact w_X_X10_readers__0_8 C hr hf hP hS (lv_sub hl [0, 1] rfl)
set_option maxRecDepth 20000 in
theorem c_X_X10_readers__0 {l : Launch} {D : va_G} {ca : Nat → ClassId} {a : Nat → Nat} {t : fw_S} {x1 : Int32} {u : fw_S} {r : Int64} (hf : f_X_X10_readers__0 t x1 = some (r, u)) : MC (WX ca a) D (tyv ca) l yX10_readers (.code yX10_readers prog_1_method_15_code 2 (some .long) :: lw_gd) rm_X_X10_readers__0 [.ref (a 0), .int x1] (some (.long r)) t u := by
  refine fw_met (okX ca a) (by decide +kernel) rfl rfl (Nat.le_of_ble_eq_true rfl) ?_
  intro p e s m args below meth c A Q ls C hr hk hP hS hl hQ
  exact w_X_X10_readers__0_0 C (fun _ => fw_rl C hr hk hQ) hf hP hS (lv_sub hl [0, 1] rfl)
/-! ReactiveSheet.Cells.countOf(I)I ['x.engine.now'] -/
abbrev rm_X_X0_countOf__4 : Room := { frames := 0, cells := 0, slots := 0, locals := 0 }
def b_X_X0_countOf__4_29  (t : fw_S) (x2 : Int32) : Option (Int32 × fw_S) := some (x2, t)
def b_X_X0_countOf__4_23 (k4 : fw_S → Int32 → Int32 → Int32 → Option (Int32 × fw_S)) (t : fw_S) (x1 : Int32) (x2 : Int32) (x3 : Int32) : Option (Int32 × fw_S) := k4 t x1 x2 (x3 + 1)
def b_X_X0_countOf__4_20 (k4 : fw_S → Int32 → Int32 → Int32 → Option (Int32 × fw_S)) (t : fw_S) (x1 : Int32) (x2 : Int32) (x3 : Int32) : Option (Int32 × fw_S) := b_X_X0_countOf__4_23 k4 t x1 (x2 + 1) x3
def b_X_X0_countOf__4_10 (k4 : fw_S → Int32 → Int32 → Int32 → Option (Int32 × fw_S)) (t : fw_S) (x1 : Int32) (x2 : Int32) (x3 : Int32) : Option (Int32 × fw_S) := fb_g (¬ (x3 < 0 ∨ 32 ≤ x3.toNatClampNeg)) (if (st_F t 8 x3.toNatClampNeg) = x1 then b_X_X0_countOf__4_20 k4 t x1 x2 x3 else b_X_X0_countOf__4_23 k4 t x1 x2 x3)
def b_X_X0_countOf__4_4  : Nat → (fw_S → Int32 → Int32 → Int32 → Option (Int32 × fw_S))
  | 0 => fun _ _ _ _ => none
  | n + 1 => fun t x1 x2 x3 => if ((32 : Int32)) ≤ x3 then b_X_X0_countOf__4_29 t x2 else b_X_X0_countOf__4_10 (b_X_X0_countOf__4_4 n) t x1 x2 x3
def b_X_X0_countOf__4_0  (t : fw_S) (x1 : Int32) : Option (Int32 × fw_S) := b_X_X0_countOf__4_4 3000 t x1 ((0 : Int32)) ((0 : Int32))
def f_X_X0_countOf__4 (t : fw_S) (x1 : Int32) : Option (Int32 × fw_S) := b_X_X0_countOf__4_0 t x1
set_option maxRecDepth 20000 in
theorem w_X_X0_countOf__4_29 {p : Program} {l : Launch} {e : Env} {s : State} {m : MethodId} {args : Array Value} {below : List Frame} {meth : Method} {c : Code} {A : Nat → Prop} {Q : State → Prop} {D : va_G} {ca : Nat → ClassId} {a : Nat → Nat} {u : fw_S} {r : Int32}  (C : CX (WX ca a) D (tyv ca) p s m args c A prog_2_method_28_code 4 RX0) (hr : True → RX (WX ca a) D p l e rm_X_X0_countOf__4 s m args below meth c A prog_2_method_28_code Q .ireturn [.int r] u) {t : fw_S} {x2 : Int32} {H : Heap} {locs : List Loc} {ls : Array Slot} (hf : b_X_X0_countOf__4_29  t x2 = some (r, u)) (hP : va_P D classes (WX ca a t) H) (hS : va_S A s.heap H locs) (hl : lv_has ls 4 [(2, .int x2)]) : W p l e rm_X_X0_countOf__4 s m args below meth c H locs 0 0 Q (F0 m 29 ls []) := by
  obtain ⟨hx, hb, hml, hown, hts, hN, hK, hD, hA⟩ := id C
  have hf : (some (x2, t)) = some (r, u) := hf
  refine lv_iload_n hx hb dX0_countOf_29 rfl (lv_at hl 0 rfl) ?_
  obtain ⟨e_30, e2_30⟩ := fb_e hf
  subst e_30; subst e2_30
  exact hr trivial _ _ _ _ hP hS dX0_countOf_30
set_option maxRecDepth 20000 in
theorem w_X_X0_countOf__4_23 {p : Program} {l : Launch} {e : Env} {s : State} {m : MethodId} {args : Array Value} {below : List Frame} {meth : Method} {c : Code} {A : Nat → Prop} {Q : State → Prop} {D : va_G} {ca : Nat → ClassId} {a : Nat → Nat} {u : fw_S} {r : Int32} {k4 : fw_S → Int32 → Int32 → Int32 → Option (Int32 × fw_S)} (C : CX (WX ca a) D (tyv ca) p s m args c A prog_2_method_28_code 4 RX0) (hr : True → RX (WX ca a) D p l e rm_X_X0_countOf__4 s m args below meth c A prog_2_method_28_code Q .ireturn [.int r] u) (hk4 : ∀ (t : fw_S) (x1 : Int32) (x2 : Int32) (x3 : Int32) (H : Heap) (locs : List Loc) (ls : Array Slot), k4 t x1 x2 x3 = some (r, u) → va_P D classes (WX ca a t) H → va_S A s.heap H locs → lv_has ls 4 [(0, .ref (a 4)), (1, .int x1), (2, .int x2), (3, .int x3)] → W p l e rm_X_X0_countOf__4 s m args below meth c H locs 0 0 Q (F0 m 4 ls [])) {t : fw_S} {x1 : Int32} {x2 : Int32} {x3 : Int32} {H : Heap} {locs : List Loc} {ls : Array Slot} (hf : b_X_X0_countOf__4_23 k4 t x1 x2 x3 = some (r, u)) (hP : va_P D classes (WX ca a t) H) (hS : va_S A s.heap H locs) (hl : lv_has ls 4 [(0, .ref (a 4)), (1, .int x1), (2, .int x2), (3, .int x3)]) : W p l e rm_X_X0_countOf__4 s m args below meth c H locs 0 0 Q (F0 m 23 ls []) := by
  obtain ⟨hx, hb, hml, hown, hts, hN, hK, hD, hA⟩ := id C
  have hf : (k4 t x1 x2 (x3 + 1)) = some (r, u) := hf
  refine lv_iinc (v := x3 + 1) (lv' := [(3, .int (x3 + 1)), (0, .ref (a 4)), (1, .int x1), (2, .int x2)]) hx hb dX0_countOf_23 hl (k := 3) rfl rfl (by decide) rfl (fun ls hl => ?_)
  refine lv_goto (tgt := 4) hx hb dX0_countOf_26 (by decide) ?_
  exact hk4 t x1 x2 (x3 + 1) _ _ _ hf hP hS (lv_sub hl [1, 2, 3, 0] rfl)
set_option maxRecDepth 20000 in
theorem w_X_X0_countOf__4_20 {p : Program} {l : Launch} {e : Env} {s : State} {m : MethodId} {args : Array Value} {below : List Frame} {meth : Method} {c : Code} {A : Nat → Prop} {Q : State → Prop} {D : va_G} {ca : Nat → ClassId} {a : Nat → Nat} {u : fw_S} {r : Int32} {k4 : fw_S → Int32 → Int32 → Int32 → Option (Int32 × fw_S)} (C : CX (WX ca a) D (tyv ca) p s m args c A prog_2_method_28_code 4 RX0) (hr : True → RX (WX ca a) D p l e rm_X_X0_countOf__4 s m args below meth c A prog_2_method_28_code Q .ireturn [.int r] u) (hk4 : ∀ (t : fw_S) (x1 : Int32) (x2 : Int32) (x3 : Int32) (H : Heap) (locs : List Loc) (ls : Array Slot), k4 t x1 x2 x3 = some (r, u) → va_P D classes (WX ca a t) H → va_S A s.heap H locs → lv_has ls 4 [(0, .ref (a 4)), (1, .int x1), (2, .int x2), (3, .int x3)] → W p l e rm_X_X0_countOf__4 s m args below meth c H locs 0 0 Q (F0 m 4 ls [])) {t : fw_S} {x1 : Int32} {x2 : Int32} {x3 : Int32} {H : Heap} {locs : List Loc} {ls : Array Slot} (hf : b_X_X0_countOf__4_20 k4 t x1 x2 x3 = some (r, u)) (hP : va_P D classes (WX ca a t) H) (hS : va_S A s.heap H locs) (hl : lv_has ls 4 [(0, .ref (a 4)), (1, .int x1), (2, .int x2), (3, .int x3)]) : W p l e rm_X_X0_countOf__4 s m args below meth c H locs 0 0 Q (F0 m 20 ls []) := by
  obtain ⟨hx, hb, hml, hown, hts, hN, hK, hD, hA⟩ := id C
  have hf : (b_X_X0_countOf__4_23 k4 t x1 (x2 + 1) x3) = some (r, u) := hf
  refine lv_iinc (v := x2 + 1) (lv' := [(2, .int (x2 + 1)), (0, .ref (a 4)), (1, .int x1), (3, .int x3)]) hx hb dX0_countOf_20 hl (k := 2) rfl rfl (by decide) rfl (fun ls hl => ?_)
  exact w_X_X0_countOf__4_23 C hr hk4 hf hP hS (lv_sub hl [1, 2, 0, 3] rfl)
set_option maxRecDepth 20000 in
theorem w_X_X0_countOf__4_10 {p : Program} {l : Launch} {e : Env} {s : State} {m : MethodId} {args : Array Value} {below : List Frame} {meth : Method} {c : Code} {A : Nat → Prop} {Q : State → Prop} {D : va_G} {ca : Nat → ClassId} {a : Nat → Nat} {u : fw_S} {r : Int32} {k4 : fw_S → Int32 → Int32 → Int32 → Option (Int32 × fw_S)} (C : CX (WX ca a) D (tyv ca) p s m args c A prog_2_method_28_code 4 RX0) (hr : True → RX (WX ca a) D p l e rm_X_X0_countOf__4 s m args below meth c A prog_2_method_28_code Q .ireturn [.int r] u) (hk4 : ∀ (t : fw_S) (x1 : Int32) (x2 : Int32) (x3 : Int32) (H : Heap) (locs : List Loc) (ls : Array Slot), k4 t x1 x2 x3 = some (r, u) → va_P D classes (WX ca a t) H → va_S A s.heap H locs → lv_has ls 4 [(0, .ref (a 4)), (1, .int x1), (2, .int x2), (3, .int x3)] → W p l e rm_X_X0_countOf__4 s m args below meth c H locs 0 0 Q (F0 m 4 ls [])) {t : fw_S} {x1 : Int32} {x2 : Int32} {x3 : Int32} {H : Heap} {locs : List Loc} {ls : Array Slot} (hf : b_X_X0_countOf__4_10 k4 t x1 x2 x3 = some (r, u)) (hP : va_P D classes (WX ca a t) H) (hS : va_S A s.heap H locs) (hl : lv_has ls 4 [(0, .ref (a 4)), (1, .int x1), (2, .int x2), (3, .int x3)]) : W p l e rm_X_X0_countOf__4 s m args below meth c H locs 0 0 Q (F0 m 10 ls []) := by
  obtain ⟨hx, hb, hml, hown, hts, hN, hK, hD, hA⟩ := id C
  have hf : (fb_g (¬ (x3 < 0 ∨ 32 ≤ x3.toNatClampNeg)) (if (st_F t 8 x3.toNatClampNeg) = x1 then b_X_X0_countOf__4_20 k4 t x1 x2 x3 else b_X_X0_countOf__4_23 k4 t x1 x2 x3)) = some (r, u) := hf
  refine lv_aload_n hx hb dX0_countOf_10 rfl (lv_at hl 0 rfl) ?_
  refine va_get (D := D) (ci := 0) (v := .ref (a 22)) (C := RX0) (T := TX0) (N := 12) hx hb hts inX0 hown hK hP 4 (heX_4 ca a t) rfl 0 (by decide) (hts _ kw_187) (fun _ h9 => h9) rfl dX0_countOf_11 ?_
  refine lv_iload_n hx hb dX0_countOf_14 rfl (lv_at hl 3 rfl) ?_
  obtain ⟨h_15, hf⟩ := fb_if hf
  refine va_iald hx hb hK hP 22 0 (haX_22 ca a t) rfl h_15 dX0_countOf_15 ?_
  refine lv_iload_n hx hb dX0_countOf_16 rfl (lv_at hl 1 rfl) ?_
  refine lv_icmp_ne (tgt := 23) hx hb dX0_countOf_17 (by decide) (fun h_17 => ?_) (fun h_17 => ?_)
  · have hf := fb_f h_17 hf
    exact w_X_X0_countOf__4_23 C hr hk4 hf hP hS (lv_sub hl [0, 1, 2, 3] rfl)
  · have hf := fb_t h_17 hf
    exact w_X_X0_countOf__4_20 C hr hk4 hf hP hS (lv_sub hl [0, 1, 2, 3] rfl)
set_option maxRecDepth 20000 in
theorem w_X_X0_countOf__4_4 {p : Program} {l : Launch} {e : Env} {s : State} {m : MethodId} {args : Array Value} {below : List Frame} {meth : Method} {c : Code} {A : Nat → Prop} {Q : State → Prop} {D : va_G} {ca : Nat → ClassId} {a : Nat → Nat} {u : fw_S} {r : Int32}  (C : CX (WX ca a) D (tyv ca) p s m args c A prog_2_method_28_code 4 RX0) (hr : True → RX (WX ca a) D p l e rm_X_X0_countOf__4 s m args below meth c A prog_2_method_28_code Q .ireturn [.int r] u) : ∀ (n : Nat) (t : fw_S) (x1 : Int32) (x2 : Int32) (x3 : Int32) (H : Heap) (locs : List Loc) (ls : Array Slot), b_X_X0_countOf__4_4  n t x1 x2 x3 = some (r, u) → va_P D classes (WX ca a t) H → va_S A s.heap H locs → lv_has ls 4 [(0, .ref (a 4)), (1, .int x1), (2, .int x2), (3, .int x3)] → W p l e rm_X_X0_countOf__4 s m args below meth c H locs 0 0 Q (F0 m 4 ls []) := by
  obtain ⟨hx, hb, hml, hown, hts, hN, hK, hD, hA⟩ := id C
  intro n
  induction n with
  | zero => intro t x1 x2 x3 H locs ls hf; cases hf
  | succ n hk4 =>
    intro t x1 x2 x3 H locs ls hf hP hS hl
    have hf : (if ((32 : Int32)) ≤ x3 then b_X_X0_countOf__4_29 t x2 else b_X_X0_countOf__4_10 (b_X_X0_countOf__4_4 n) t x1 x2 x3) = some (r, u) := hf
    refine lv_iload_n hx hb dX0_countOf_4 rfl (lv_at hl 3 rfl) ?_
    refine lv_bipush (v := 32) hx hb dX0_countOf_5 (by decide) ?_
    refine lv_icmp_ge (tgt := 29) hx hb dX0_countOf_7 (by decide) (fun h_7 => ?_) (fun h_7 => ?_)
    · have hf := fb_t h_7 hf
      exact w_X_X0_countOf__4_29 C hr hf hP hS (lv_sub hl [2] rfl)
    · have hf := fb_f h_7 hf
      exact w_X_X0_countOf__4_10 C hr hk4 hf hP hS (lv_sub hl [0, 1, 2, 3] rfl)
set_option maxRecDepth 20000 in
theorem w_X_X0_countOf__4_0 {p : Program} {l : Launch} {e : Env} {s : State} {m : MethodId} {args : Array Value} {below : List Frame} {meth : Method} {c : Code} {A : Nat → Prop} {Q : State → Prop} {D : va_G} {ca : Nat → ClassId} {a : Nat → Nat} {u : fw_S} {r : Int32}  (C : CX (WX ca a) D (tyv ca) p s m args c A prog_2_method_28_code 4 RX0) (hr : True → RX (WX ca a) D p l e rm_X_X0_countOf__4 s m args below meth c A prog_2_method_28_code Q .ireturn [.int r] u) {t : fw_S} {x1 : Int32} {H : Heap} {locs : List Loc} {ls : Array Slot} (hf : b_X_X0_countOf__4_0  t x1 = some (r, u)) (hP : va_P D classes (WX ca a t) H) (hS : va_S A s.heap H locs) (hl : lv_has ls 4 [(0, .ref (a 4)), (1, .int x1)]) : W p l e rm_X_X0_countOf__4 s m args below meth c H locs 0 0 Q (F0 m 0 ls []) := by
  obtain ⟨hx, hb, hml, hown, hts, hN, hK, hD, hA⟩ := id C
  have hf : (b_X_X0_countOf__4_4 3000 t x1 ((0 : Int32)) ((0 : Int32))) = some (r, u) := hf
  refine lv_iconst (v := 0) hx hb dX0_countOf_0 (by decide) ?_
  refine lv_istore_n (lv' := [(2, .int ((0 : Int32))), (0, .ref (a 4)), (1, .int x1)]) hx hb dX0_countOf_1 rfl hl (by decide) rfl (fun ls hl => ?_)
  refine lv_iconst (v := 0) hx hb dX0_countOf_2 (by decide) ?_
  refine lv_istore_n (lv' := [(3, .int ((0 : Int32))), (2, .int ((0 : Int32))), (0, .ref (a 4)), (1, .int x1)]) hx hb dX0_countOf_3 rfl hl (by decide) rfl (fun ls hl => ?_)
  exact w_X_X0_countOf__4_4 C hr 3000 t x1 ((0 : Int32)) ((0 : Int32)) _ _ _ hf hP hS (lv_sub hl [2, 3, 1, 0] rfl)
set_option maxRecDepth 20000 in
theorem c_X_X0_countOf__4 {l : Launch} {D : va_G} {ca : Nat → ClassId} {a : Nat → Nat} {t : fw_S} {x1 : Int32} {u : fw_S} {r : Int32} (hf : f_X_X0_countOf__4 t x1 = some (r, u)) : MC (WX ca a) D (tyv ca) l yX0_countOf (.code yX0_countOf prog_2_method_28_code 4 (some .int) :: lw_gd) rm_X_X0_countOf__4 [.ref (a 4), .int x1] (some (.int r)) t u := by
  refine fw_met (okX ca a) (by decide +kernel) rfl rfl (Nat.le_of_ble_eq_true rfl) ?_
  intro p e s m args below meth c A Q ls C hr hk hP hS hl hQ
  exact w_X_X0_countOf__4_0 C (fun _ => fw_ri C hr hk hQ) hf hP hS (lv_sub hl [0, 1] rfl)
/-! ReactiveSheet.Cells.present()I ['x.engine.now'] -/
abbrev rm_X_X0_present__4 : Room := { frames := 1, cells := 0, slots := 0, locals := 23 }
def b_X_X0_present__4_0  (t : fw_S)  : Option (Int32 × fw_S) := fb_b (f_X_X0_countOf__4 t ((0 : Int32))) fun v_2 t_1 => (some (((32 : Int32)) - v_2, t_1))
def f_X_X0_present__4 (t : fw_S)  : Option (Int32 × fw_S) := b_X_X0_present__4_0 t 
set_option maxRecDepth 20000 in
theorem w_X_X0_present__4_0 {p : Program} {l : Launch} {e : Env} {s : State} {m : MethodId} {args : Array Value} {below : List Frame} {meth : Method} {c : Code} {A : Nat → Prop} {Q : State → Prop} {D : va_G} {ca : Nat → ClassId} {a : Nat → Nat} {u : fw_S} {r : Int32}  (C : CX (WX ca a) D (tyv ca) p s m args c A prog_2_method_29_code 1 RX0) (hr : True → RX (WX ca a) D p l e rm_X_X0_present__4 s m args below meth c A prog_2_method_29_code Q .ireturn [.int r] u) {t : fw_S}  {H : Heap} {locs : List Loc} {ls : Array Slot} (hf : b_X_X0_present__4_0  t  = some (r, u)) (hP : va_P D classes (WX ca a t) H) (hS : va_S A s.heap H locs) (hl : lv_has ls 1 [(0, .ref (a 4))]) : W p l e rm_X_X0_present__4 s m args below meth c H locs 0 0 Q (F0 m 0 ls []) := by
  obtain ⟨hx, hb, hml, hown, hts, hN, hK, hD, hA⟩ := id C
  have hf : (fb_b (f_X_X0_countOf__4 t ((0 : Int32))) fun v_2 t_1 => (some (((32 : Int32)) - v_2, t_1))) = some (r, u) := hf
  refine lv_bipush (v := 32) hx hb dX0_present_0 (by decide) ?_
  refine lv_aload_n hx hb dX0_present_2 rfl (lv_at hl 0 rfl) ?_
  refine lv_iconst (v := 0) hx hb dX0_present_3 (by decide) ?_
  obtain ⟨v_2, t_1, g_4, hf⟩ := fb_bs hf
  refine fw_V1 (As := [.int ((0 : Int32))]) (rest := [.int ((32 : Int32))]) (n := 1) (q0 := 4) C (c_X_X0_countOf__4 (l := l) (D := D) (ca := ca) (a := a) g_4) kw_908 kw_909 kw_96 kw_911 kw_910 hP hS hl (heX_4 ca a t) rfl rfl rfl (by decide) (by decide +kernel) ⟨Nat.le_of_ble_eq_true rfl, Nat.le_of_ble_eq_true rfl⟩ rfl rfl (Nat.le_of_ble_eq_true rfl) dX0_present_4 (fun H locs hP hS => ?_)
  refine W.eq (g2 := F0 m 7 ls [.int v_2, .int ((32 : Int32))]) rfl ?_
  refine lv_isub hx hb dX0_present_7 ?_
  obtain ⟨e_8, e2_8⟩ := fb_e hf
  subst e_8; subst e2_8
  exact hr trivial _ _ _ _ hP hS dX0_present_8
set_option maxRecDepth 20000 in
theorem c_X_X0_present__4 {l : Launch} {D : va_G} {ca : Nat → ClassId} {a : Nat → Nat} {t : fw_S}  {u : fw_S} {r : Int32} (hf : f_X_X0_present__4 t  = some (r, u)) : MC (WX ca a) D (tyv ca) l yX0_present (.code yX0_present prog_2_method_29_code 1 (some .int) :: lw_gd) rm_X_X0_present__4 [.ref (a 4)] (some (.int r)) t u := by
  refine fw_met (okX ca a) (by decide +kernel) rfl rfl (Nat.le_of_ble_eq_true rfl) ?_
  intro p e s m args below meth c A Q ls C hr hk hP hS hl hQ
  exact w_X_X0_present__4_0 C (fun _ => fw_ri C hr hk hQ) hf hP hS (lv_sub hl [0] rfl)
/-! ReactiveSheet.Cells.inOrder(I)I ['x.engine.now'] -/
abbrev rm_X_X0_inOrder__4 : Room := { frames := 2, cells := 0, slots := 0, locals := 43 }
def b_X_X0_inOrder__4_12  (t : fw_S)  : Option (Int32 × fw_S) := some ((-1 : Int32), t)
def b_X_X0_inOrder__4_78  (t : fw_S)  : Option (Int32 × fw_S) := some ((-1 : Int32), t)
def b_X_X0_inOrder__4_72 (k18 : fw_S → Int32 → Int32 → Int32 → Option (Int32 × fw_S)) (t : fw_S) (x1 : Int32) (x2 : Int32) (x3 : Int32) : Option (Int32 × fw_S) := k18 t x1 x2 (x3 + 1)
def b_X_X0_inOrder__4_66 (k18 : fw_S → Int32 → Int32 → Int32 → Option (Int32 × fw_S)) (k27 : fw_S → Int32 → Int32 → Int32 → Int32 → Option (Int32 × fw_S)) (t : fw_S) (x1 : Int32) (x2 : Int32) (x3 : Int32) (x4 : Int32) : Option (Int32 × fw_S) := k27 t x1 x2 x3 (x4 + 1)
def b_X_X0_inOrder__4_63 (k18 : fw_S → Int32 → Int32 → Int32 → Option (Int32 × fw_S)) (k27 : fw_S → Int32 → Int32 → Int32 → Int32 → Option (Int32 × fw_S)) (t : fw_S) (x1 : Int32) (x2 : Int32) (x3 : Int32) (x4 : Int32) : Option (Int32 × fw_S) := b_X_X0_inOrder__4_66 k18 k27 t x1 (x2 + 1) x3 x4
def b_X_X0_inOrder__4_60  (t : fw_S) (x4 : Int32) : Option (Int32 × fw_S) := some (x4, t)
def b_X_X0_inOrder__4_55 (k18 : fw_S → Int32 → Int32 → Int32 → Option (Int32 × fw_S)) (k27 : fw_S → Int32 → Int32 → Int32 → Int32 → Option (Int32 × fw_S)) (t : fw_S) (x1 : Int32) (x2 : Int32) (x3 : Int32) (x4 : Int32) : Option (Int32 × fw_S) := if x2 = x1 then b_X_X0_inOrder__4_60 t x4 else b_X_X0_inOrder__4_63 k18 k27 t x1 x2 x3 x4
def b_X_X0_inOrder__4_44 (k18 : fw_S → Int32 → Int32 → Int32 → Option (Int32 × fw_S)) (k27 : fw_S → Int32 → Int32 → Int32 → Int32 → Option (Int32 × fw_S)) (t : fw_S) (x1 : Int32) (x2 : Int32) (x3 : Int32) (x4 : Int32) : Option (Int32 × fw_S) := fb_g (¬ (x4 < 0 ∨ 32 ≤ x4.toNatClampNeg)) (if (st_F t 11 x4.toNatClampNeg) = x3 then b_X_X0_inOrder__4_55 k18 k27 t x1 x2 x3 x4 else b_X_X0_inOrder__4_66 k18 k27 t x1 x2 x3 x4)
def b_X_X0_inOrder__4_34 (k18 : fw_S → Int32 → Int32 → Int32 → Option (Int32 × fw_S)) (k27 : fw_S → Int32 → Int32 → Int32 → Int32 → Option (Int32 × fw_S)) (t : fw_S) (x1 : Int32) (x2 : Int32) (x3 : Int32) (x4 : Int32) : Option (Int32 × fw_S) := fb_g (¬ (x4 < 0 ∨ 32 ≤ x4.toNatClampNeg)) (if (st_F t 8 x4.toNatClampNeg) = 0 then b_X_X0_inOrder__4_66 k18 k27 t x1 x2 x3 x4 else b_X_X0_inOrder__4_44 k18 k27 t x1 x2 x3 x4)
def b_X_X0_inOrder__4_27 (k18 : fw_S → Int32 → Int32 → Int32 → Option (Int32 × fw_S)) : Nat → (fw_S → Int32 → Int32 → Int32 → Int32 → Option (Int32 × fw_S))
  | 0 => fun _ _ _ _ _ => none
  | n + 1 => fun t x1 x2 x3 x4 => if ((32 : Int32)) ≤ x4 then b_X_X0_inOrder__4_72 k18 t x1 x2 x3 else b_X_X0_inOrder__4_34 k18 (b_X_X0_inOrder__4_27 k18 n) t x1 x2 x3 x4
def b_X_X0_inOrder__4_24 (k18 : fw_S → Int32 → Int32 → Int32 → Option (Int32 × fw_S)) (t : fw_S) (x1 : Int32) (x2 : Int32) (x3 : Int32) : Option (Int32 × fw_S) := b_X_X0_inOrder__4_27 k18 3000 t x1 x2 x3 ((0 : Int32))
def b_X_X0_inOrder__4_18  : Nat → (fw_S → Int32 → Int32 → Int32 → Option (Int32 × fw_S))
  | 0 => fun _ _ _ _ => none
  | n + 1 => fun t x1 x2 x3 => if ((32 : Int32)) < x3 then b_X_X0_inOrder__4_78 t else b_X_X0_inOrder__4_24 (b_X_X0_inOrder__4_18 n) t x1 x2 x3
def b_X_X0_inOrder__4_14  (t : fw_S) (x1 : Int32) : Option (Int32 × fw_S) := b_X_X0_inOrder__4_18 3000 t x1 ((0 : Int32)) ((0 : Int32))
def b_X_X0_inOrder__4_4  (t : fw_S) (x1 : Int32) : Option (Int32 × fw_S) := fb_b (f_X_X0_present__4 t) fun v_2 t_1 => (if x1 < v_2 then b_X_X0_inOrder__4_14 t_1 x1 else b_X_X0_inOrder__4_12 t_1)
def b_X_X0_inOrder__4_0  (t : fw_S) (x1 : Int32) : Option (Int32 × fw_S) := if x1 < 0 then b_X_X0_inOrder__4_12 t else b_X_X0_inOrder__4_4 t x1
def f_X_X0_inOrder__4 (t : fw_S) (x1 : Int32) : Option (Int32 × fw_S) := b_X_X0_inOrder__4_0 t x1
set_option maxRecDepth 20000 in
theorem w_X_X0_inOrder__4_12 {p : Program} {l : Launch} {e : Env} {s : State} {m : MethodId} {args : Array Value} {below : List Frame} {meth : Method} {c : Code} {A : Nat → Prop} {Q : State → Prop} {D : va_G} {ca : Nat → ClassId} {a : Nat → Nat} {u : fw_S} {r : Int32}  (C : CX (WX ca a) D (tyv ca) p s m args c A prog_2_method_26_code 5 RX0) (hr : True → RX (WX ca a) D p l e rm_X_X0_inOrder__4 s m args below meth c A prog_2_method_26_code Q .ireturn [.int r] u) {t : fw_S}  {H : Heap} {locs : List Loc} {ls : Array Slot} (hf : b_X_X0_inOrder__4_12  t  = some (r, u)) (hP : va_P D classes (WX ca a t) H) (hS : va_S A s.heap H locs) (hl : lv_has ls 5 []) : W p l e rm_X_X0_inOrder__4 s m args below meth c H locs 0 0 Q (F0 m 12 ls []) := by
  obtain ⟨hx, hb, hml, hown, hts, hN, hK, hD, hA⟩ := id C
  have hf : (some ((-1 : Int32), t)) = some (r, u) := hf
  refine lv_iconst (v := (-1)) hx hb dX0_inOrder_12 (by decide) ?_
  obtain ⟨e_13, e2_13⟩ := fb_e hf
  subst e_13; subst e2_13
  exact hr trivial _ _ _ _ hP hS dX0_inOrder_13
set_option maxRecDepth 20000 in
theorem w_X_X0_inOrder__4_78 {p : Program} {l : Launch} {e : Env} {s : State} {m : MethodId} {args : Array Value} {below : List Frame} {meth : Method} {c : Code} {A : Nat → Prop} {Q : State → Prop} {D : va_G} {ca : Nat → ClassId} {a : Nat → Nat} {u : fw_S} {r : Int32}  (C : CX (WX ca a) D (tyv ca) p s m args c A prog_2_method_26_code 5 RX0) (hr : True → RX (WX ca a) D p l e rm_X_X0_inOrder__4 s m args below meth c A prog_2_method_26_code Q .ireturn [.int r] u) {t : fw_S}  {H : Heap} {locs : List Loc} {ls : Array Slot} (hf : b_X_X0_inOrder__4_78  t  = some (r, u)) (hP : va_P D classes (WX ca a t) H) (hS : va_S A s.heap H locs) (hl : lv_has ls 5 []) : W p l e rm_X_X0_inOrder__4 s m args below meth c H locs 0 0 Q (F0 m 78 ls []) := by
  obtain ⟨hx, hb, hml, hown, hts, hN, hK, hD, hA⟩ := id C
  have hf : (some ((-1 : Int32), t)) = some (r, u) := hf
  refine lv_iconst (v := (-1)) hx hb dX0_inOrder_78 (by decide) ?_
  obtain ⟨e_79, e2_79⟩ := fb_e hf
  subst e_79; subst e2_79
  exact hr trivial _ _ _ _ hP hS dX0_inOrder_79
set_option maxRecDepth 20000 in
theorem w_X_X0_inOrder__4_72 {p : Program} {l : Launch} {e : Env} {s : State} {m : MethodId} {args : Array Value} {below : List Frame} {meth : Method} {c : Code} {A : Nat → Prop} {Q : State → Prop} {D : va_G} {ca : Nat → ClassId} {a : Nat → Nat} {u : fw_S} {r : Int32} {k18 : fw_S → Int32 → Int32 → Int32 → Option (Int32 × fw_S)} (C : CX (WX ca a) D (tyv ca) p s m args c A prog_2_method_26_code 5 RX0) (hr : True → RX (WX ca a) D p l e rm_X_X0_inOrder__4 s m args below meth c A prog_2_method_26_code Q .ireturn [.int r] u) (hk18 : ∀ (t : fw_S) (x1 : Int32) (x2 : Int32) (x3 : Int32) (H : Heap) (locs : List Loc) (ls : Array Slot), k18 t x1 x2 x3 = some (r, u) → va_P D classes (WX ca a t) H → va_S A s.heap H locs → lv_has ls 5 [(0, .ref (a 4)), (1, .int x1), (2, .int x2), (3, .int x3)] → W p l e rm_X_X0_inOrder__4 s m args below meth c H locs 0 0 Q (F0 m 18 ls [])) {t : fw_S} {x1 : Int32} {x2 : Int32} {x3 : Int32} {H : Heap} {locs : List Loc} {ls : Array Slot} (hf : b_X_X0_inOrder__4_72 k18 t x1 x2 x3 = some (r, u)) (hP : va_P D classes (WX ca a t) H) (hS : va_S A s.heap H locs) (hl : lv_has ls 5 [(0, .ref (a 4)), (1, .int x1), (2, .int x2), (3, .int x3)]) : W p l e rm_X_X0_inOrder__4 s m args below meth c H locs 0 0 Q (F0 m 72 ls []) := by
  obtain ⟨hx, hb, hml, hown, hts, hN, hK, hD, hA⟩ := id C
  have hf : (k18 t x1 x2 (x3 + 1)) = some (r, u) := hf
  refine lv_iinc (v := x3 + 1) (lv' := [(3, .int (x3 + 1)), (0, .ref (a 4)), (1, .int x1), (2, .int x2)]) hx hb dX0_inOrder_72 hl (k := 3) rfl rfl (by decide) rfl (fun ls hl => ?_)
  refine lv_goto (tgt := 18) hx hb dX0_inOrder_75 (by decide) ?_
  exact hk18 t x1 x2 (x3 + 1) _ _ _ hf hP hS (lv_sub hl [1, 2, 3, 0] rfl)
set_option maxRecDepth 20000 in
theorem w_X_X0_inOrder__4_66 {p : Program} {l : Launch} {e : Env} {s : State} {m : MethodId} {args : Array Value} {below : List Frame} {meth : Method} {c : Code} {A : Nat → Prop} {Q : State → Prop} {D : va_G} {ca : Nat → ClassId} {a : Nat → Nat} {u : fw_S} {r : Int32} {k18 : fw_S → Int32 → Int32 → Int32 → Option (Int32 × fw_S)} {k27 : fw_S → Int32 → Int32 → Int32 → Int32 → Option (Int32 × fw_S)} (C : CX (WX ca a) D (tyv ca) p s m args c A prog_2_method_26_code 5 RX0) (hr : True → RX (WX ca a) D p l e rm_X_X0_inOrder__4 s m args below meth c A prog_2_method_26_code Q .ireturn [.int r] u) (hk18 : ∀ (t : fw_S) (x1 : Int32) (x2 : Int32) (x3 : Int32) (H : Heap) (locs : List Loc) (ls : Array Slot), k18 t x1 x2 x3 = some (r, u) → va_P D classes (WX ca a t) H → va_S A s.heap H locs → lv_has ls 5 [(0, .ref (a 4)), (1, .int x1), (2, .int x2), (3, .int x3)] → W p l e rm_X_X0_inOrder__4 s m args below meth c H locs 0 0 Q (F0 m 18 ls [])) (hk27 : ∀ (t : fw_S) (x1 : Int32) (x2 : Int32) (x3 : Int32) (x4 : Int32) (H : Heap) (locs : List Loc) (ls : Array Slot), k27 t x1 x2 x3 x4 = some (r, u) → va_P D classes (WX ca a t) H → va_S A s.heap H locs → lv_has ls 5 [(0, .ref (a 4)), (1, .int x1), (2, .int x2), (3, .int x3), (4, .int x4)] → W p l e rm_X_X0_inOrder__4 s m args below meth c H locs 0 0 Q (F0 m 27 ls [])) {t : fw_S} {x1 : Int32} {x2 : Int32} {x3 : Int32} {x4 : Int32} {H : Heap} {locs : List Loc} {ls : Array Slot} (hf : b_X_X0_inOrder__4_66 k18 k27 t x1 x2 x3 x4 = some (r, u)) (hP : va_P D classes (WX ca a t) H) (hS : va_S A s.heap H locs) (hl : lv_has ls 5 [(0, .ref (a 4)), (1, .int x1), (2, .int x2), (3, .int x3), (4, .int x4)]) : W p l e rm_X_X0_inOrder__4 s m args below meth c H locs 0 0 Q (F0 m 66 ls []) := by
  obtain ⟨hx, hb, hml, hown, hts, hN, hK, hD, hA⟩ := id C
  have hf : (k27 t x1 x2 x3 (x4 + 1)) = some (r, u) := hf
  refine lv_iinc (v := x4 + 1) (lv' := [(4, .int (x4 + 1)), (0, .ref (a 4)), (1, .int x1), (2, .int x2), (3, .int x3)]) hx hb dX0_inOrder_66 hl (k := 4) rfl rfl (by decide) rfl (fun ls hl => ?_)
  refine lv_goto (tgt := 27) hx hb dX0_inOrder_69 (by decide) ?_
  exact hk27 t x1 x2 x3 (x4 + 1) _ _ _ hf hP hS (lv_sub hl [1, 2, 3, 4, 0] rfl)
set_option maxRecDepth 20000 in
theorem w_X_X0_inOrder__4_63 {p : Program} {l : Launch} {e : Env} {s : State} {m : MethodId} {args : Array Value} {below : List Frame} {meth : Method} {c : Code} {A : Nat → Prop} {Q : State → Prop} {D : va_G} {ca : Nat → ClassId} {a : Nat → Nat} {u : fw_S} {r : Int32} {k18 : fw_S → Int32 → Int32 → Int32 → Option (Int32 × fw_S)} {k27 : fw_S → Int32 → Int32 → Int32 → Int32 → Option (Int32 × fw_S)} (C : CX (WX ca a) D (tyv ca) p s m args c A prog_2_method_26_code 5 RX0) (hr : True → RX (WX ca a) D p l e rm_X_X0_inOrder__4 s m args below meth c A prog_2_method_26_code Q .ireturn [.int r] u) (hk18 : ∀ (t : fw_S) (x1 : Int32) (x2 : Int32) (x3 : Int32) (H : Heap) (locs : List Loc) (ls : Array Slot), k18 t x1 x2 x3 = some (r, u) → va_P D classes (WX ca a t) H → va_S A s.heap H locs → lv_has ls 5 [(0, .ref (a 4)), (1, .int x1), (2, .int x2), (3, .int x3)] → W p l e rm_X_X0_inOrder__4 s m args below meth c H locs 0 0 Q (F0 m 18 ls [])) (hk27 : ∀ (t : fw_S) (x1 : Int32) (x2 : Int32) (x3 : Int32) (x4 : Int32) (H : Heap) (locs : List Loc) (ls : Array Slot), k27 t x1 x2 x3 x4 = some (r, u) → va_P D classes (WX ca a t) H → va_S A s.heap H locs → lv_has ls 5 [(0, .ref (a 4)), (1, .int x1), (2, .int x2), (3, .int x3), (4, .int x4)] → W p l e rm_X_X0_inOrder__4 s m args below meth c H locs 0 0 Q (F0 m 27 ls [])) {t : fw_S} {x1 : Int32} {x2 : Int32} {x3 : Int32} {x4 : Int32} {H : Heap} {locs : List Loc} {ls : Array Slot} (hf : b_X_X0_inOrder__4_63 k18 k27 t x1 x2 x3 x4 = some (r, u)) (hP : va_P D classes (WX ca a t) H) (hS : va_S A s.heap H locs) (hl : lv_has ls 5 [(0, .ref (a 4)), (1, .int x1), (2, .int x2), (3, .int x3), (4, .int x4)]) : W p l e rm_X_X0_inOrder__4 s m args below meth c H locs 0 0 Q (F0 m 63 ls []) := by
  obtain ⟨hx, hb, hml, hown, hts, hN, hK, hD, hA⟩ := id C
  have hf : (b_X_X0_inOrder__4_66 k18 k27 t x1 (x2 + 1) x3 x4) = some (r, u) := hf
  refine lv_iinc (v := x2 + 1) (lv' := [(2, .int (x2 + 1)), (0, .ref (a 4)), (1, .int x1), (3, .int x3), (4, .int x4)]) hx hb dX0_inOrder_63 hl (k := 2) rfl rfl (by decide) rfl (fun ls hl => ?_)
  exact w_X_X0_inOrder__4_66 C hr hk18 hk27 hf hP hS (lv_sub hl [1, 2, 0, 3, 4] rfl)
set_option maxRecDepth 20000 in
theorem w_X_X0_inOrder__4_60 {p : Program} {l : Launch} {e : Env} {s : State} {m : MethodId} {args : Array Value} {below : List Frame} {meth : Method} {c : Code} {A : Nat → Prop} {Q : State → Prop} {D : va_G} {ca : Nat → ClassId} {a : Nat → Nat} {u : fw_S} {r : Int32}  (C : CX (WX ca a) D (tyv ca) p s m args c A prog_2_method_26_code 5 RX0) (hr : True → RX (WX ca a) D p l e rm_X_X0_inOrder__4 s m args below meth c A prog_2_method_26_code Q .ireturn [.int r] u) {t : fw_S} {x4 : Int32} {H : Heap} {locs : List Loc} {ls : Array Slot} (hf : b_X_X0_inOrder__4_60  t x4 = some (r, u)) (hP : va_P D classes (WX ca a t) H) (hS : va_S A s.heap H locs) (hl : lv_has ls 5 [(4, .int x4)]) : W p l e rm_X_X0_inOrder__4 s m args below meth c H locs 0 0 Q (F0 m 60 ls []) := by
  obtain ⟨hx, hb, hml, hown, hts, hN, hK, hD, hA⟩ := id C
  have hf : (some (x4, t)) = some (r, u) := hf
  refine lv_iload hx hb dX0_inOrder_60 (lv_at hl 0 rfl) ?_
  obtain ⟨e_62, e2_62⟩ := fb_e hf
  subst e_62; subst e2_62
  exact hr trivial _ _ _ _ hP hS dX0_inOrder_62
set_option maxRecDepth 20000 in
theorem w_X_X0_inOrder__4_55 {p : Program} {l : Launch} {e : Env} {s : State} {m : MethodId} {args : Array Value} {below : List Frame} {meth : Method} {c : Code} {A : Nat → Prop} {Q : State → Prop} {D : va_G} {ca : Nat → ClassId} {a : Nat → Nat} {u : fw_S} {r : Int32} {k18 : fw_S → Int32 → Int32 → Int32 → Option (Int32 × fw_S)} {k27 : fw_S → Int32 → Int32 → Int32 → Int32 → Option (Int32 × fw_S)} (C : CX (WX ca a) D (tyv ca) p s m args c A prog_2_method_26_code 5 RX0) (hr : True → RX (WX ca a) D p l e rm_X_X0_inOrder__4 s m args below meth c A prog_2_method_26_code Q .ireturn [.int r] u) (hk18 : ∀ (t : fw_S) (x1 : Int32) (x2 : Int32) (x3 : Int32) (H : Heap) (locs : List Loc) (ls : Array Slot), k18 t x1 x2 x3 = some (r, u) → va_P D classes (WX ca a t) H → va_S A s.heap H locs → lv_has ls 5 [(0, .ref (a 4)), (1, .int x1), (2, .int x2), (3, .int x3)] → W p l e rm_X_X0_inOrder__4 s m args below meth c H locs 0 0 Q (F0 m 18 ls [])) (hk27 : ∀ (t : fw_S) (x1 : Int32) (x2 : Int32) (x3 : Int32) (x4 : Int32) (H : Heap) (locs : List Loc) (ls : Array Slot), k27 t x1 x2 x3 x4 = some (r, u) → va_P D classes (WX ca a t) H → va_S A s.heap H locs → lv_has ls 5 [(0, .ref (a 4)), (1, .int x1), (2, .int x2), (3, .int x3), (4, .int x4)] → W p l e rm_X_X0_inOrder__4 s m args below meth c H locs 0 0 Q (F0 m 27 ls [])) {t : fw_S} {x1 : Int32} {x2 : Int32} {x3 : Int32} {x4 : Int32} {H : Heap} {locs : List Loc} {ls : Array Slot} (hf : b_X_X0_inOrder__4_55 k18 k27 t x1 x2 x3 x4 = some (r, u)) (hP : va_P D classes (WX ca a t) H) (hS : va_S A s.heap H locs) (hl : lv_has ls 5 [(0, .ref (a 4)), (1, .int x1), (2, .int x2), (3, .int x3), (4, .int x4)]) : W p l e rm_X_X0_inOrder__4 s m args below meth c H locs 0 0 Q (F0 m 55 ls []) := by
  obtain ⟨hx, hb, hml, hown, hts, hN, hK, hD, hA⟩ := id C
  have hf : (if x2 = x1 then b_X_X0_inOrder__4_60 t x4 else b_X_X0_inOrder__4_63 k18 k27 t x1 x2 x3 x4) = some (r, u) := hf
  refine lv_iload_n hx hb dX0_inOrder_55 rfl (lv_at hl 2 rfl) ?_
  refine lv_iload_n hx hb dX0_inOrder_56 rfl (lv_at hl 1 rfl) ?_
  refine lv_icmp_ne (tgt := 63) hx hb dX0_inOrder_57 (by decide) (fun h_57 => ?_) (fun h_57 => ?_)
  · have hf := fb_f h_57 hf
    exact w_X_X0_inOrder__4_63 C hr hk18 hk27 hf hP hS (lv_sub hl [0, 1, 2, 3, 4] rfl)
  · have hf := fb_t h_57 hf
    exact w_X_X0_inOrder__4_60 C hr hf hP hS (lv_sub hl [4] rfl)
set_option maxRecDepth 20000 in
theorem w_X_X0_inOrder__4_44 {p : Program} {l : Launch} {e : Env} {s : State} {m : MethodId} {args : Array Value} {below : List Frame} {meth : Method} {c : Code} {A : Nat → Prop} {Q : State → Prop} {D : va_G} {ca : Nat → ClassId} {a : Nat → Nat} {u : fw_S} {r : Int32} {k18 : fw_S → Int32 → Int32 → Int32 → Option (Int32 × fw_S)} {k27 : fw_S → Int32 → Int32 → Int32 → Int32 → Option (Int32 × fw_S)} (C : CX (WX ca a) D (tyv ca) p s m args c A prog_2_method_26_code 5 RX0) (hr : True → RX (WX ca a) D p l e rm_X_X0_inOrder__4 s m args below meth c A prog_2_method_26_code Q .ireturn [.int r] u) (hk18 : ∀ (t : fw_S) (x1 : Int32) (x2 : Int32) (x3 : Int32) (H : Heap) (locs : List Loc) (ls : Array Slot), k18 t x1 x2 x3 = some (r, u) → va_P D classes (WX ca a t) H → va_S A s.heap H locs → lv_has ls 5 [(0, .ref (a 4)), (1, .int x1), (2, .int x2), (3, .int x3)] → W p l e rm_X_X0_inOrder__4 s m args below meth c H locs 0 0 Q (F0 m 18 ls [])) (hk27 : ∀ (t : fw_S) (x1 : Int32) (x2 : Int32) (x3 : Int32) (x4 : Int32) (H : Heap) (locs : List Loc) (ls : Array Slot), k27 t x1 x2 x3 x4 = some (r, u) → va_P D classes (WX ca a t) H → va_S A s.heap H locs → lv_has ls 5 [(0, .ref (a 4)), (1, .int x1), (2, .int x2), (3, .int x3), (4, .int x4)] → W p l e rm_X_X0_inOrder__4 s m args below meth c H locs 0 0 Q (F0 m 27 ls [])) {t : fw_S} {x1 : Int32} {x2 : Int32} {x3 : Int32} {x4 : Int32} {H : Heap} {locs : List Loc} {ls : Array Slot} (hf : b_X_X0_inOrder__4_44 k18 k27 t x1 x2 x3 x4 = some (r, u)) (hP : va_P D classes (WX ca a t) H) (hS : va_S A s.heap H locs) (hl : lv_has ls 5 [(0, .ref (a 4)), (1, .int x1), (2, .int x2), (3, .int x3), (4, .int x4)]) : W p l e rm_X_X0_inOrder__4 s m args below meth c H locs 0 0 Q (F0 m 44 ls []) := by
  obtain ⟨hx, hb, hml, hown, hts, hN, hK, hD, hA⟩ := id C
  have hf : (fb_g (¬ (x4 < 0 ∨ 32 ≤ x4.toNatClampNeg)) (if (st_F t 11 x4.toNatClampNeg) = x3 then b_X_X0_inOrder__4_55 k18 k27 t x1 x2 x3 x4 else b_X_X0_inOrder__4_66 k18 k27 t x1 x2 x3 x4)) = some (r, u) := hf
  refine lv_aload_n hx hb dX0_inOrder_44 rfl (lv_at hl 0 rfl) ?_
  refine va_get (D := D) (ci := 0) (v := .ref (a 27)) (C := RX0) (T := TX0) (N := 12) hx hb hts inX0 hown hK hP 4 (heX_4 ca a t) rfl 5 (by decide) (hts _ kw_192) (fun _ h9 => h9) rfl dX0_inOrder_45 ?_
  refine lv_iload hx hb dX0_inOrder_48 (lv_at hl 4 rfl) ?_
  obtain ⟨h_50, hf⟩ := fb_if hf
  refine va_iald hx hb hK hP 27 0 (haX_27 ca a t) rfl h_50 dX0_inOrder_50 ?_
  refine lv_iload_n hx hb dX0_inOrder_51 rfl (lv_at hl 3 rfl) ?_
  refine lv_icmp_ne (tgt := 66) hx hb dX0_inOrder_52 (by decide) (fun h_52 => ?_) (fun h_52 => ?_)
  · have hf := fb_f h_52 hf
    exact w_X_X0_inOrder__4_66 C hr hk18 hk27 hf hP hS (lv_sub hl [0, 1, 2, 3, 4] rfl)
  · have hf := fb_t h_52 hf
    exact w_X_X0_inOrder__4_55 C hr hk18 hk27 hf hP hS (lv_sub hl [0, 1, 2, 3, 4] rfl)
set_option maxRecDepth 20000 in
theorem w_X_X0_inOrder__4_34 {p : Program} {l : Launch} {e : Env} {s : State} {m : MethodId} {args : Array Value} {below : List Frame} {meth : Method} {c : Code} {A : Nat → Prop} {Q : State → Prop} {D : va_G} {ca : Nat → ClassId} {a : Nat → Nat} {u : fw_S} {r : Int32} {k18 : fw_S → Int32 → Int32 → Int32 → Option (Int32 × fw_S)} {k27 : fw_S → Int32 → Int32 → Int32 → Int32 → Option (Int32 × fw_S)} (C : CX (WX ca a) D (tyv ca) p s m args c A prog_2_method_26_code 5 RX0) (hr : True → RX (WX ca a) D p l e rm_X_X0_inOrder__4 s m args below meth c A prog_2_method_26_code Q .ireturn [.int r] u) (hk18 : ∀ (t : fw_S) (x1 : Int32) (x2 : Int32) (x3 : Int32) (H : Heap) (locs : List Loc) (ls : Array Slot), k18 t x1 x2 x3 = some (r, u) → va_P D classes (WX ca a t) H → va_S A s.heap H locs → lv_has ls 5 [(0, .ref (a 4)), (1, .int x1), (2, .int x2), (3, .int x3)] → W p l e rm_X_X0_inOrder__4 s m args below meth c H locs 0 0 Q (F0 m 18 ls [])) (hk27 : ∀ (t : fw_S) (x1 : Int32) (x2 : Int32) (x3 : Int32) (x4 : Int32) (H : Heap) (locs : List Loc) (ls : Array Slot), k27 t x1 x2 x3 x4 = some (r, u) → va_P D classes (WX ca a t) H → va_S A s.heap H locs → lv_has ls 5 [(0, .ref (a 4)), (1, .int x1), (2, .int x2), (3, .int x3), (4, .int x4)] → W p l e rm_X_X0_inOrder__4 s m args below meth c H locs 0 0 Q (F0 m 27 ls [])) {t : fw_S} {x1 : Int32} {x2 : Int32} {x3 : Int32} {x4 : Int32} {H : Heap} {locs : List Loc} {ls : Array Slot} (hf : b_X_X0_inOrder__4_34 k18 k27 t x1 x2 x3 x4 = some (r, u)) (hP : va_P D classes (WX ca a t) H) (hS : va_S A s.heap H locs) (hl : lv_has ls 5 [(0, .ref (a 4)), (1, .int x1), (2, .int x2), (3, .int x3), (4, .int x4)]) : W p l e rm_X_X0_inOrder__4 s m args below meth c H locs 0 0 Q (F0 m 34 ls []) := by
  obtain ⟨hx, hb, hml, hown, hts, hN, hK, hD, hA⟩ := id C
  have hf : (fb_g (¬ (x4 < 0 ∨ 32 ≤ x4.toNatClampNeg)) (if (st_F t 8 x4.toNatClampNeg) = 0 then b_X_X0_inOrder__4_66 k18 k27 t x1 x2 x3 x4 else b_X_X0_inOrder__4_44 k18 k27 t x1 x2 x3 x4)) = some (r, u) := hf
  refine lv_aload_n hx hb dX0_inOrder_34 rfl (lv_at hl 0 rfl) ?_
  refine va_get (D := D) (ci := 0) (v := .ref (a 22)) (C := RX0) (T := TX0) (N := 12) hx hb hts inX0 hown hK hP 4 (heX_4 ca a t) rfl 0 (by decide) (hts _ kw_187) (fun _ h9 => h9) rfl dX0_inOrder_35 ?_
  refine lv_iload hx hb dX0_inOrder_38 (lv_at hl 4 rfl) ?_
  obtain ⟨h_40, hf⟩ := fb_if hf
  refine va_iald hx hb hK hP 22 0 (haX_22 ca a t) rfl h_40 dX0_inOrder_40 ?_
  refine lv_if_eq (tgt := 66) hx hb dX0_inOrder_41 (by decide) (fun h_41 => ?_) (fun h_41 => ?_)
  · have hf := fb_t h_41 hf
    exact w_X_X0_inOrder__4_66 C hr hk18 hk27 hf hP hS (lv_sub hl [0, 1, 2, 3, 4] rfl)
  · have hf := fb_f h_41 hf
    exact w_X_X0_inOrder__4_44 C hr hk18 hk27 hf hP hS (lv_sub hl [0, 1, 2, 3, 4] rfl)
set_option maxRecDepth 20000 in
theorem w_X_X0_inOrder__4_27 {p : Program} {l : Launch} {e : Env} {s : State} {m : MethodId} {args : Array Value} {below : List Frame} {meth : Method} {c : Code} {A : Nat → Prop} {Q : State → Prop} {D : va_G} {ca : Nat → ClassId} {a : Nat → Nat} {u : fw_S} {r : Int32} {k18 : fw_S → Int32 → Int32 → Int32 → Option (Int32 × fw_S)} (C : CX (WX ca a) D (tyv ca) p s m args c A prog_2_method_26_code 5 RX0) (hr : True → RX (WX ca a) D p l e rm_X_X0_inOrder__4 s m args below meth c A prog_2_method_26_code Q .ireturn [.int r] u) (hk18 : ∀ (t : fw_S) (x1 : Int32) (x2 : Int32) (x3 : Int32) (H : Heap) (locs : List Loc) (ls : Array Slot), k18 t x1 x2 x3 = some (r, u) → va_P D classes (WX ca a t) H → va_S A s.heap H locs → lv_has ls 5 [(0, .ref (a 4)), (1, .int x1), (2, .int x2), (3, .int x3)] → W p l e rm_X_X0_inOrder__4 s m args below meth c H locs 0 0 Q (F0 m 18 ls [])) : ∀ (n : Nat) (t : fw_S) (x1 : Int32) (x2 : Int32) (x3 : Int32) (x4 : Int32) (H : Heap) (locs : List Loc) (ls : Array Slot), b_X_X0_inOrder__4_27 k18 n t x1 x2 x3 x4 = some (r, u) → va_P D classes (WX ca a t) H → va_S A s.heap H locs → lv_has ls 5 [(0, .ref (a 4)), (1, .int x1), (2, .int x2), (3, .int x3), (4, .int x4)] → W p l e rm_X_X0_inOrder__4 s m args below meth c H locs 0 0 Q (F0 m 27 ls []) := by
  obtain ⟨hx, hb, hml, hown, hts, hN, hK, hD, hA⟩ := id C
  intro n
  induction n with
  | zero => intro t x1 x2 x3 x4 H locs ls hf; cases hf
  | succ n hk27 =>
    intro t x1 x2 x3 x4 H locs ls hf hP hS hl
    have hf : (if ((32 : Int32)) ≤ x4 then b_X_X0_inOrder__4_72 k18 t x1 x2 x3 else b_X_X0_inOrder__4_34 k18 (b_X_X0_inOrder__4_27 k18 n) t x1 x2 x3 x4) = some (r, u) := hf
    refine lv_iload hx hb dX0_inOrder_27 (lv_at hl 4 rfl) ?_
    refine lv_bipush (v := 32) hx hb dX0_inOrder_29 (by decide) ?_
    refine lv_icmp_ge (tgt := 72) hx hb dX0_inOrder_31 (by decide) (fun h_31 => ?_) (fun h_31 => ?_)
    · have hf := fb_t h_31 hf
      exact w_X_X0_inOrder__4_72 C hr hk18 hf hP hS (lv_sub hl [0, 1, 2, 3] rfl)
    · have hf := fb_f h_31 hf
      exact w_X_X0_inOrder__4_34 C hr hk18 hk27 hf hP hS (lv_sub hl [0, 1, 2, 3, 4] rfl)
set_option maxRecDepth 20000 in
theorem w_X_X0_inOrder__4_24 {p : Program} {l : Launch} {e : Env} {s : State} {m : MethodId} {args : Array Value} {below : List Frame} {meth : Method} {c : Code} {A : Nat → Prop} {Q : State → Prop} {D : va_G} {ca : Nat → ClassId} {a : Nat → Nat} {u : fw_S} {r : Int32} {k18 : fw_S → Int32 → Int32 → Int32 → Option (Int32 × fw_S)} (C : CX (WX ca a) D (tyv ca) p s m args c A prog_2_method_26_code 5 RX0) (hr : True → RX (WX ca a) D p l e rm_X_X0_inOrder__4 s m args below meth c A prog_2_method_26_code Q .ireturn [.int r] u) (hk18 : ∀ (t : fw_S) (x1 : Int32) (x2 : Int32) (x3 : Int32) (H : Heap) (locs : List Loc) (ls : Array Slot), k18 t x1 x2 x3 = some (r, u) → va_P D classes (WX ca a t) H → va_S A s.heap H locs → lv_has ls 5 [(0, .ref (a 4)), (1, .int x1), (2, .int x2), (3, .int x3)] → W p l e rm_X_X0_inOrder__4 s m args below meth c H locs 0 0 Q (F0 m 18 ls [])) {t : fw_S} {x1 : Int32} {x2 : Int32} {x3 : Int32} {H : Heap} {locs : List Loc} {ls : Array Slot} (hf : b_X_X0_inOrder__4_24 k18 t x1 x2 x3 = some (r, u)) (hP : va_P D classes (WX ca a t) H) (hS : va_S A s.heap H locs) (hl : lv_has ls 5 [(0, .ref (a 4)), (1, .int x1), (2, .int x2), (3, .int x3)]) : W p l e rm_X_X0_inOrder__4 s m args below meth c H locs 0 0 Q (F0 m 24 ls []) := by
  obtain ⟨hx, hb, hml, hown, hts, hN, hK, hD, hA⟩ := id C
  have hf : (b_X_X0_inOrder__4_27 k18 3000 t x1 x2 x3 ((0 : Int32))) = some (r, u) := hf
  refine lv_iconst (v := 0) hx hb dX0_inOrder_24 (by decide) ?_
  refine lv_istore (lv' := [(4, .int ((0 : Int32))), (0, .ref (a 4)), (1, .int x1), (2, .int x2), (3, .int x3)]) hx hb dX0_inOrder_25 hl (by decide) rfl (fun ls hl => ?_)
  exact w_X_X0_inOrder__4_27 C hr hk18 3000 t x1 x2 x3 ((0 : Int32)) _ _ _ hf hP hS (lv_sub hl [1, 2, 3, 4, 0] rfl)
set_option maxRecDepth 20000 in
theorem w_X_X0_inOrder__4_18 {p : Program} {l : Launch} {e : Env} {s : State} {m : MethodId} {args : Array Value} {below : List Frame} {meth : Method} {c : Code} {A : Nat → Prop} {Q : State → Prop} {D : va_G} {ca : Nat → ClassId} {a : Nat → Nat} {u : fw_S} {r : Int32}  (C : CX (WX ca a) D (tyv ca) p s m args c A prog_2_method_26_code 5 RX0) (hr : True → RX (WX ca a) D p l e rm_X_X0_inOrder__4 s m args below meth c A prog_2_method_26_code Q .ireturn [.int r] u) : ∀ (n : Nat) (t : fw_S) (x1 : Int32) (x2 : Int32) (x3 : Int32) (H : Heap) (locs : List Loc) (ls : Array Slot), b_X_X0_inOrder__4_18  n t x1 x2 x3 = some (r, u) → va_P D classes (WX ca a t) H → va_S A s.heap H locs → lv_has ls 5 [(0, .ref (a 4)), (1, .int x1), (2, .int x2), (3, .int x3)] → W p l e rm_X_X0_inOrder__4 s m args below meth c H locs 0 0 Q (F0 m 18 ls []) := by
  obtain ⟨hx, hb, hml, hown, hts, hN, hK, hD, hA⟩ := id C
  intro n
  induction n with
  | zero => intro t x1 x2 x3 H locs ls hf; cases hf
  | succ n hk18 =>
    intro t x1 x2 x3 H locs ls hf hP hS hl
    have hf : (if ((32 : Int32)) < x3 then b_X_X0_inOrder__4_78 t else b_X_X0_inOrder__4_24 (b_X_X0_inOrder__4_18 n) t x1 x2 x3) = some (r, u) := hf
    refine lv_iload_n hx hb dX0_inOrder_18 rfl (lv_at hl 3 rfl) ?_
    refine lv_bipush (v := 32) hx hb dX0_inOrder_19 (by decide) ?_
    refine lv_icmp_gt (tgt := 78) hx hb dX0_inOrder_21 (by decide) (fun h_21 => ?_) (fun h_21 => ?_)
    · have hf := fb_t h_21 hf
      exact w_X_X0_inOrder__4_78 C hr hf hP hS (lv_sub hl [] rfl)
    · have hf := fb_f h_21 hf
      exact w_X_X0_inOrder__4_24 C hr hk18 hf hP hS (lv_sub hl [0, 1, 2, 3] rfl)
set_option maxRecDepth 20000 in
theorem w_X_X0_inOrder__4_14 {p : Program} {l : Launch} {e : Env} {s : State} {m : MethodId} {args : Array Value} {below : List Frame} {meth : Method} {c : Code} {A : Nat → Prop} {Q : State → Prop} {D : va_G} {ca : Nat → ClassId} {a : Nat → Nat} {u : fw_S} {r : Int32}  (C : CX (WX ca a) D (tyv ca) p s m args c A prog_2_method_26_code 5 RX0) (hr : True → RX (WX ca a) D p l e rm_X_X0_inOrder__4 s m args below meth c A prog_2_method_26_code Q .ireturn [.int r] u) {t : fw_S} {x1 : Int32} {H : Heap} {locs : List Loc} {ls : Array Slot} (hf : b_X_X0_inOrder__4_14  t x1 = some (r, u)) (hP : va_P D classes (WX ca a t) H) (hS : va_S A s.heap H locs) (hl : lv_has ls 5 [(0, .ref (a 4)), (1, .int x1)]) : W p l e rm_X_X0_inOrder__4 s m args below meth c H locs 0 0 Q (F0 m 14 ls []) := by
  obtain ⟨hx, hb, hml, hown, hts, hN, hK, hD, hA⟩ := id C
  have hf : (b_X_X0_inOrder__4_18 3000 t x1 ((0 : Int32)) ((0 : Int32))) = some (r, u) := hf
  refine lv_iconst (v := 0) hx hb dX0_inOrder_14 (by decide) ?_
  refine lv_istore_n (lv' := [(2, .int ((0 : Int32))), (0, .ref (a 4)), (1, .int x1)]) hx hb dX0_inOrder_15 rfl hl (by decide) rfl (fun ls hl => ?_)
  refine lv_iconst (v := 0) hx hb dX0_inOrder_16 (by decide) ?_
  refine lv_istore_n (lv' := [(3, .int ((0 : Int32))), (2, .int ((0 : Int32))), (0, .ref (a 4)), (1, .int x1)]) hx hb dX0_inOrder_17 rfl hl (by decide) rfl (fun ls hl => ?_)
  exact w_X_X0_inOrder__4_18 C hr 3000 t x1 ((0 : Int32)) ((0 : Int32)) _ _ _ hf hP hS (lv_sub hl [2, 3, 1, 0] rfl)
set_option maxRecDepth 20000 in
theorem w_X_X0_inOrder__4_4 {p : Program} {l : Launch} {e : Env} {s : State} {m : MethodId} {args : Array Value} {below : List Frame} {meth : Method} {c : Code} {A : Nat → Prop} {Q : State → Prop} {D : va_G} {ca : Nat → ClassId} {a : Nat → Nat} {u : fw_S} {r : Int32}  (C : CX (WX ca a) D (tyv ca) p s m args c A prog_2_method_26_code 5 RX0) (hr : True → RX (WX ca a) D p l e rm_X_X0_inOrder__4 s m args below meth c A prog_2_method_26_code Q .ireturn [.int r] u) {t : fw_S} {x1 : Int32} {H : Heap} {locs : List Loc} {ls : Array Slot} (hf : b_X_X0_inOrder__4_4  t x1 = some (r, u)) (hP : va_P D classes (WX ca a t) H) (hS : va_S A s.heap H locs) (hl : lv_has ls 5 [(0, .ref (a 4)), (1, .int x1)]) : W p l e rm_X_X0_inOrder__4 s m args below meth c H locs 0 0 Q (F0 m 4 ls []) := by
  obtain ⟨hx, hb, hml, hown, hts, hN, hK, hD, hA⟩ := id C
  have hf : (fb_b (f_X_X0_present__4 t) fun v_2 t_1 => (if x1 < v_2 then b_X_X0_inOrder__4_14 t_1 x1 else b_X_X0_inOrder__4_12 t_1)) = some (r, u) := hf
  refine lv_iload_n hx hb dX0_inOrder_4 rfl (lv_at hl 1 rfl) ?_
  refine lv_aload_n hx hb dX0_inOrder_5 rfl (lv_at hl 0 rfl) ?_
  obtain ⟨v_2, t_1, g_6, hf⟩ := fb_bs hf
  refine fw_V1 (As := []) (rest := [.int x1]) (n := 0) (q0 := 4) C (c_X_X0_present__4 (l := l) (D := D) (ca := ca) (a := a) g_6) kw_904 kw_905 kw_96 kw_907 kw_906 hP hS hl (heX_4 ca a t) rfl rfl rfl (by decide) (by decide +kernel) ⟨Nat.le_of_ble_eq_true rfl, Nat.le_of_ble_eq_true rfl⟩ rfl rfl (Nat.le_of_ble_eq_true rfl) dX0_inOrder_6 (fun H locs hP hS => ?_)
  refine W.eq (g2 := F0 m 9 ls [.int v_2, .int x1]) rfl ?_
  refine lv_icmp_lt (tgt := 14) hx hb dX0_inOrder_9 (by decide) (fun h_9 => ?_) (fun h_9 => ?_)
  · have hf := fb_t h_9 hf
    exact w_X_X0_inOrder__4_14 C hr hf hP hS (lv_sub hl [0, 1] rfl)
  · have hf := fb_f h_9 hf
    exact w_X_X0_inOrder__4_12 C hr hf hP hS (lv_sub hl [] rfl)
set_option maxRecDepth 20000 in
theorem w_X_X0_inOrder__4_0 {p : Program} {l : Launch} {e : Env} {s : State} {m : MethodId} {args : Array Value} {below : List Frame} {meth : Method} {c : Code} {A : Nat → Prop} {Q : State → Prop} {D : va_G} {ca : Nat → ClassId} {a : Nat → Nat} {u : fw_S} {r : Int32}  (C : CX (WX ca a) D (tyv ca) p s m args c A prog_2_method_26_code 5 RX0) (hr : True → RX (WX ca a) D p l e rm_X_X0_inOrder__4 s m args below meth c A prog_2_method_26_code Q .ireturn [.int r] u) {t : fw_S} {x1 : Int32} {H : Heap} {locs : List Loc} {ls : Array Slot} (hf : b_X_X0_inOrder__4_0  t x1 = some (r, u)) (hP : va_P D classes (WX ca a t) H) (hS : va_S A s.heap H locs) (hl : lv_has ls 5 [(0, .ref (a 4)), (1, .int x1)]) : W p l e rm_X_X0_inOrder__4 s m args below meth c H locs 0 0 Q (F0 m 0 ls []) := by
  obtain ⟨hx, hb, hml, hown, hts, hN, hK, hD, hA⟩ := id C
  have hf : (if x1 < 0 then b_X_X0_inOrder__4_12 t else b_X_X0_inOrder__4_4 t x1) = some (r, u) := hf
  refine lv_iload_n hx hb dX0_inOrder_0 rfl (lv_at hl 1 rfl) ?_
  refine lv_if_lt (tgt := 12) hx hb dX0_inOrder_1 (by decide) (fun h_1 => ?_) (fun h_1 => ?_)
  · have hf := fb_t h_1 hf
    exact w_X_X0_inOrder__4_12 C hr hf hP hS (lv_sub hl [] rfl)
  · have hf := fb_f h_1 hf
    exact w_X_X0_inOrder__4_4 C hr hf hP hS (lv_sub hl [0, 1] rfl)
set_option maxRecDepth 20000 in
theorem c_X_X0_inOrder__4 {l : Launch} {D : va_G} {ca : Nat → ClassId} {a : Nat → Nat} {t : fw_S} {x1 : Int32} {u : fw_S} {r : Int32} (hf : f_X_X0_inOrder__4 t x1 = some (r, u)) : MC (WX ca a) D (tyv ca) l yX0_inOrder (.code yX0_inOrder prog_2_method_26_code 5 (some .int) :: lw_gd) rm_X_X0_inOrder__4 [.ref (a 4), .int x1] (some (.int r)) t u := by
  refine fw_met (okX ca a) (by decide +kernel) rfl rfl (Nat.le_of_ble_eq_true rfl) ?_
  intro p e s m args below meth c A Q ls C hr hk hP hS hl hQ
  exact w_X_X0_inOrder__4_0 C (fun _ => fw_ri C hr hk hQ) hf hP hS (lv_sub hl [0, 1] rfl)
/-! ReactiveSheet.order(I)I ['x'] -/
abbrev rm_X_X10_order__0 : Room := { frames := 3, cells := 0, slots := 0, locals := 67 }
def b_X_X10_order__0_0  (t : fw_S) (x1 : Int32) : Option (Int32 × fw_S) := fb_v (f_X_X1_now__3 t) fun t_1 => (fb_b (f_X_X0_inOrder__4 t_1 x1) fun v_3 t_2 => (some (v_3, t_2)))
def f_X_X10_order__0 (t : fw_S) (x1 : Int32) : Option (Int32 × fw_S) := b_X_X10_order__0_0 t x1
set_option maxRecDepth 20000 in
theorem w_X_X10_order__0_0 {p : Program} {l : Launch} {e : Env} {s : State} {m : MethodId} {args : Array Value} {below : List Frame} {meth : Method} {c : Code} {A : Nat → Prop} {Q : State → Prop} {D : va_G} {ca : Nat → ClassId} {a : Nat → Nat} {u : fw_S} {r : Int32}  (C : CX (WX ca a) D (tyv ca) p s m args c A prog_1_method_16_code 2 RX10) (hr : True → RX (WX ca a) D p l e rm_X_X10_order__0 s m args below meth c A prog_1_method_16_code Q .ireturn [.int r] u) {t : fw_S} {x1 : Int32} {H : Heap} {locs : List Loc} {ls : Array Slot} (hf : b_X_X10_order__0_0  t x1 = some (r, u)) (hP : va_P D classes (WX ca a t) H) (hS : va_S A s.heap H locs) (hl : lv_has ls 2 [(0, .ref (a 0)), (1, .int x1)]) : W p l e rm_X_X10_order__0 s m args below meth c H locs 0 0 Q (F0 m 0 ls []) := by
  obtain ⟨hx, hb, hml, hown, hts, hN, hK, hD, hA⟩ := id C
  have hf : (fb_v (f_X_X1_now__3 t) fun t_1 => (fb_b (f_X_X0_inOrder__4 t_1 x1) fun v_3 t_2 => (some (v_3, t_2)))) = some (r, u) := hf
  refine lv_aload_n hx hb dX10_order_0 rfl (lv_at hl 0 rfl) ?_
  refine va_get (D := D) (ci := 10) (v := .ref (a 3)) (C := RX10) (T := TX10) (N := 13) hx hb hts inX10 hown hK hP 0 (heX_0 ca a t) rfl 2 (by decide) (hts _ kw_356) (fun _ h9 => h9) rfl dX10_order_1 ?_
  obtain ⟨t_1, g_4, hf⟩ := fb_vs hf
  refine fw_V1 (As := []) (rest := []) (n := 0) (q0 := 3) C (c_X_X1_now__3 (l := l) (D := D) (ca := ca) (a := a) g_4) kw_626 kw_627 kw_95 kw_629 kw_628 hP hS hl (heX_3 ca a t) rfl rfl rfl (by decide) (by decide +kernel) ⟨Nat.le_of_ble_eq_true rfl, Nat.le_of_ble_eq_true rfl⟩ rfl rfl (Nat.le_of_ble_eq_true rfl) dX10_order_4 (fun H locs hP hS => ?_)
  refine W.eq (g2 := F0 m 7 ls [.ref (a 4)]) rfl ?_
  refine lv_iload_n hx hb dX10_order_7 rfl (lv_at hl 1 rfl) ?_
  obtain ⟨v_3, t_2, g_8, hf⟩ := fb_bs hf
  refine fw_V1 (As := [.int x1]) (rest := []) (n := 1) (q0 := 4) C (c_X_X0_inOrder__4 (l := l) (D := D) (ca := ca) (a := a) g_8) kw_900 kw_901 kw_96 kw_903 kw_902 hP hS hl (heX_4 ca a t_1) rfl rfl rfl (by decide) (by decide +kernel) ⟨Nat.le_of_ble_eq_true rfl, Nat.le_of_ble_eq_true rfl⟩ rfl rfl (Nat.le_of_ble_eq_true rfl) dX10_order_8 (fun H locs hP hS => ?_)
  refine W.eq (g2 := F0 m 11 ls [.int v_3]) rfl ?_
  obtain ⟨e_11, e2_11⟩ := fb_e hf
  subst e_11; subst e2_11
  exact hr trivial _ _ _ _ hP hS dX10_order_11
set_option maxRecDepth 20000 in
theorem c_X_X10_order__0 {l : Launch} {D : va_G} {ca : Nat → ClassId} {a : Nat → Nat} {t : fw_S} {x1 : Int32} {u : fw_S} {r : Int32} (hf : f_X_X10_order__0 t x1 = some (r, u)) : MC (WX ca a) D (tyv ca) l yX10_order (.code yX10_order prog_1_method_16_code 2 (some .int) :: lw_gd) rm_X_X10_order__0 [.ref (a 0), .int x1] (some (.int r)) t u := by
  refine fw_met (okX ca a) (by decide +kernel) rfl rfl (Nat.le_of_ble_eq_true rfl) ?_
  intro p e s m args below meth c A Q ls C hr hk hP hS hl hQ
  exact w_X_X10_order__0_0 C (fun _ => fw_ri C hr hk hQ) hf hP hS (lv_sub hl [0, 1] rfl)
/-! ReactiveSheet.Cells.causeAbove(II)I ['x.engine.now'] -/
abbrev rm_X_X0_causeAbove__4 : Room := { frames := 2, cells := 0, slots := 0, locals := 42 }
def b_X_X0_causeAbove__4_61  (t : fw_S) (z0 : Int32) : Option (Int32 × fw_S) := some (z0, t)
def b_X_X0_causeAbove__4_60  (t : fw_S)  : Option (Int32 × fw_S) := b_X_X0_causeAbove__4_61 t ((-1 : Int32))
def b_X_X0_causeAbove__4_56  (t : fw_S) (x3 : Int32) : Option (Int32 × fw_S) := b_X_X0_causeAbove__4_61 t x3
def b_X_X0_causeAbove__4_50  (t : fw_S) (x2 : Int32) (x3 : Int32) : Option (Int32 × fw_S) := if ((32 : Int32)) ≤ x2 then b_X_X0_causeAbove__4_60 t else b_X_X0_causeAbove__4_56 t x3
def b_X_X0_causeAbove__4_42  (t : fw_S) (x2 : Int32) (x3 : Int32) : Option (Int32 × fw_S) := fb_b (f_X_X10_isCell t x3.toInt64) fun v_2 t_1 => (if v_2 = 0 then b_X_X0_causeAbove__4_60 t_1 else b_X_X0_causeAbove__4_50 t_1 x2 x3)
def b_X_X0_causeAbove__4_30 (k9 : fw_S → Int32 → Int32 → Int32 → Option (Int32 × fw_S)) (t : fw_S) (x2 : Int32) (x3 : Int32) (x4 : Int32) : Option (Int32 × fw_S) := fb_b (f_X_X0_causeOf__4 t x3) fun v_2 t_1 => (k9 t_1 x2 v_2 (x4 + 1))
def b_X_X0_causeAbove__4_22 (k9 : fw_S → Int32 → Int32 → Int32 → Option (Int32 × fw_S)) (t : fw_S) (x2 : Int32) (x3 : Int32) (x4 : Int32) : Option (Int32 × fw_S) := fb_b (f_X_X10_isCell t x3.toInt64) fun v_2 t_1 => (if v_2 = 0 then b_X_X0_causeAbove__4_42 t_1 x2 x3 else b_X_X0_causeAbove__4_30 k9 t_1 x2 x3 x4)
def b_X_X0_causeAbove__4_15 (k9 : fw_S → Int32 → Int32 → Int32 → Option (Int32 × fw_S)) (t : fw_S) (x2 : Int32) (x3 : Int32) (x4 : Int32) : Option (Int32 × fw_S) := if ((32 : Int32)) ≤ x4 then b_X_X0_causeAbove__4_42 t x2 x3 else b_X_X0_causeAbove__4_22 k9 t x2 x3 x4
def b_X_X0_causeAbove__4_9  : Nat → (fw_S → Int32 → Int32 → Int32 → Option (Int32 × fw_S))
  | 0 => fun _ _ _ _ => none
  | n + 1 => fun t x2 x3 x4 => if x2 ≤ x4 then b_X_X0_causeAbove__4_42 t x2 x3 else b_X_X0_causeAbove__4_15 (b_X_X0_causeAbove__4_9 n) t x2 x3 x4
def b_X_X0_causeAbove__4_0  (t : fw_S) (x1 : Int32) (x2 : Int32) : Option (Int32 × fw_S) := fb_b (f_X_X0_causeOf__4 t x1) fun v_2 t_1 => (b_X_X0_causeAbove__4_9 3000 t_1 x2 v_2 ((0 : Int32)))
def f_X_X0_causeAbove__4 (t : fw_S) (x1 : Int32) (x2 : Int32) : Option (Int32 × fw_S) := b_X_X0_causeAbove__4_0 t x1 x2
set_option maxRecDepth 20000 in
theorem w_X_X0_causeAbove__4_61 {p : Program} {l : Launch} {e : Env} {s : State} {m : MethodId} {args : Array Value} {below : List Frame} {meth : Method} {c : Code} {A : Nat → Prop} {Q : State → Prop} {D : va_G} {ca : Nat → ClassId} {a : Nat → Nat} {u : fw_S} {r : Int32}  (C : CX (WX ca a) D (tyv ca) p s m args c A prog_2_method_27_code 5 RX0) (hr : True → RX (WX ca a) D p l e rm_X_X0_causeAbove__4 s m args below meth c A prog_2_method_27_code Q .ireturn [.int r] u) {t : fw_S} {z0 : Int32} {H : Heap} {locs : List Loc} {ls : Array Slot} (hf : b_X_X0_causeAbove__4_61  t z0 = some (r, u)) (hP : va_P D classes (WX ca a t) H) (hS : va_S A s.heap H locs) (hl : lv_has ls 5 []) : W p l e rm_X_X0_causeAbove__4 s m args below meth c H locs 0 0 Q (F0 m 61 ls [.int z0]) := by
  obtain ⟨hx, hb, hml, hown, hts, hN, hK, hD, hA⟩ := id C
  have hf : (some (z0, t)) = some (r, u) := hf
  obtain ⟨e_61, e2_61⟩ := fb_e hf
  subst e_61; subst e2_61
  exact hr trivial _ _ _ _ hP hS dX0_causeAbove_61
set_option maxRecDepth 20000 in
theorem w_X_X0_causeAbove__4_60 {p : Program} {l : Launch} {e : Env} {s : State} {m : MethodId} {args : Array Value} {below : List Frame} {meth : Method} {c : Code} {A : Nat → Prop} {Q : State → Prop} {D : va_G} {ca : Nat → ClassId} {a : Nat → Nat} {u : fw_S} {r : Int32}  (C : CX (WX ca a) D (tyv ca) p s m args c A prog_2_method_27_code 5 RX0) (hr : True → RX (WX ca a) D p l e rm_X_X0_causeAbove__4 s m args below meth c A prog_2_method_27_code Q .ireturn [.int r] u) {t : fw_S}  {H : Heap} {locs : List Loc} {ls : Array Slot} (hf : b_X_X0_causeAbove__4_60  t  = some (r, u)) (hP : va_P D classes (WX ca a t) H) (hS : va_S A s.heap H locs) (hl : lv_has ls 5 []) : W p l e rm_X_X0_causeAbove__4 s m args below meth c H locs 0 0 Q (F0 m 60 ls []) := by
  obtain ⟨hx, hb, hml, hown, hts, hN, hK, hD, hA⟩ := id C
  have hf : (b_X_X0_causeAbove__4_61 t ((-1 : Int32))) = some (r, u) := hf
  refine lv_iconst (v := (-1)) hx hb dX0_causeAbove_60 (by decide) ?_
  exact w_X_X0_causeAbove__4_61 C hr hf hP hS (lv_sub hl [] rfl)
set_option maxRecDepth 20000 in
theorem w_X_X0_causeAbove__4_56 {p : Program} {l : Launch} {e : Env} {s : State} {m : MethodId} {args : Array Value} {below : List Frame} {meth : Method} {c : Code} {A : Nat → Prop} {Q : State → Prop} {D : va_G} {ca : Nat → ClassId} {a : Nat → Nat} {u : fw_S} {r : Int32}  (C : CX (WX ca a) D (tyv ca) p s m args c A prog_2_method_27_code 5 RX0) (hr : True → RX (WX ca a) D p l e rm_X_X0_causeAbove__4 s m args below meth c A prog_2_method_27_code Q .ireturn [.int r] u) {t : fw_S} {x3 : Int32} {H : Heap} {locs : List Loc} {ls : Array Slot} (hf : b_X_X0_causeAbove__4_56  t x3 = some (r, u)) (hP : va_P D classes (WX ca a t) H) (hS : va_S A s.heap H locs) (hl : lv_has ls 5 [(3, .int x3)]) : W p l e rm_X_X0_causeAbove__4 s m args below meth c H locs 0 0 Q (F0 m 56 ls []) := by
  obtain ⟨hx, hb, hml, hown, hts, hN, hK, hD, hA⟩ := id C
  have hf : (b_X_X0_causeAbove__4_61 t x3) = some (r, u) := hf
  refine lv_iload_n hx hb dX0_causeAbove_56 rfl (lv_at hl 0 rfl) ?_
  refine lv_goto (tgt := 61) hx hb dX0_causeAbove_57 (by decide) ?_
  exact w_X_X0_causeAbove__4_61 C hr hf hP hS (lv_sub hl [] rfl)
set_option maxRecDepth 20000 in
theorem w_X_X0_causeAbove__4_50 {p : Program} {l : Launch} {e : Env} {s : State} {m : MethodId} {args : Array Value} {below : List Frame} {meth : Method} {c : Code} {A : Nat → Prop} {Q : State → Prop} {D : va_G} {ca : Nat → ClassId} {a : Nat → Nat} {u : fw_S} {r : Int32}  (C : CX (WX ca a) D (tyv ca) p s m args c A prog_2_method_27_code 5 RX0) (hr : True → RX (WX ca a) D p l e rm_X_X0_causeAbove__4 s m args below meth c A prog_2_method_27_code Q .ireturn [.int r] u) {t : fw_S} {x2 : Int32} {x3 : Int32} {H : Heap} {locs : List Loc} {ls : Array Slot} (hf : b_X_X0_causeAbove__4_50  t x2 x3 = some (r, u)) (hP : va_P D classes (WX ca a t) H) (hS : va_S A s.heap H locs) (hl : lv_has ls 5 [(2, .int x2), (3, .int x3)]) : W p l e rm_X_X0_causeAbove__4 s m args below meth c H locs 0 0 Q (F0 m 50 ls []) := by
  obtain ⟨hx, hb, hml, hown, hts, hN, hK, hD, hA⟩ := id C
  have hf : (if ((32 : Int32)) ≤ x2 then b_X_X0_causeAbove__4_60 t else b_X_X0_causeAbove__4_56 t x3) = some (r, u) := hf
  refine lv_iload_n hx hb dX0_causeAbove_50 rfl (lv_at hl 0 rfl) ?_
  refine lv_bipush (v := 32) hx hb dX0_causeAbove_51 (by decide) ?_
  refine lv_icmp_ge (tgt := 60) hx hb dX0_causeAbove_53 (by decide) (fun h_53 => ?_) (fun h_53 => ?_)
  · have hf := fb_t h_53 hf
    exact w_X_X0_causeAbove__4_60 C hr hf hP hS (lv_sub hl [] rfl)
  · have hf := fb_f h_53 hf
    exact w_X_X0_causeAbove__4_56 C hr hf hP hS (lv_sub hl [1] rfl)
set_option maxRecDepth 20000 in
theorem w_X_X0_causeAbove__4_42 {p : Program} {l : Launch} {e : Env} {s : State} {m : MethodId} {args : Array Value} {below : List Frame} {meth : Method} {c : Code} {A : Nat → Prop} {Q : State → Prop} {D : va_G} {ca : Nat → ClassId} {a : Nat → Nat} {u : fw_S} {r : Int32}  (C : CX (WX ca a) D (tyv ca) p s m args c A prog_2_method_27_code 5 RX0) (hr : True → RX (WX ca a) D p l e rm_X_X0_causeAbove__4 s m args below meth c A prog_2_method_27_code Q .ireturn [.int r] u) {t : fw_S} {x2 : Int32} {x3 : Int32} {H : Heap} {locs : List Loc} {ls : Array Slot} (hf : b_X_X0_causeAbove__4_42  t x2 x3 = some (r, u)) (hP : va_P D classes (WX ca a t) H) (hS : va_S A s.heap H locs) (hl : lv_has ls 5 [(2, .int x2), (3, .int x3)]) : W p l e rm_X_X0_causeAbove__4 s m args below meth c H locs 0 0 Q (F0 m 42 ls []) := by
  obtain ⟨hx, hb, hml, hown, hts, hN, hK, hD, hA⟩ := id C
  have hf : (fb_b (f_X_X10_isCell t x3.toInt64) fun v_2 t_1 => (if v_2 = 0 then b_X_X0_causeAbove__4_60 t_1 else b_X_X0_causeAbove__4_50 t_1 x2 x3)) = some (r, u) := hf
  refine lv_iload_n hx hb dX0_causeAbove_42 rfl (lv_at hl 1 rfl) ?_
  refine lv_i2l hx hb dX0_causeAbove_43 rfl ?_
  obtain ⟨v_2, t_1, g_44, hf⟩ := fb_bs hf
  refine fw_S2 (As := [.long x3.toInt64]) (rest := []) (n := 1) C (c_X_X10_isCell (l := l) (D := D) (ca := ca) (a := a) g_44) kw_429 kw_399 kw_92 kw_400 hP hS hl rfl rfl (by decide) (by decide +kernel) ⟨Nat.le_of_ble_eq_true rfl, Nat.le_of_ble_eq_true rfl⟩ rfl rfl (Nat.le_of_ble_eq_true rfl) dX0_causeAbove_44 (fun H locs hP hS => ?_)
  refine W.eq (g2 := F0 m 47 ls [.int v_2]) rfl ?_
  refine lv_if_eq (tgt := 60) hx hb dX0_causeAbove_47 (by decide) (fun h_47 => ?_) (fun h_47 => ?_)
  · have hf := fb_t h_47 hf
    exact w_X_X0_causeAbove__4_60 C hr hf hP hS (lv_sub hl [] rfl)
  · have hf := fb_f h_47 hf
    exact w_X_X0_causeAbove__4_50 C hr hf hP hS (lv_sub hl [0, 1] rfl)
set_option maxRecDepth 20000 in
theorem w_X_X0_causeAbove__4_30 {p : Program} {l : Launch} {e : Env} {s : State} {m : MethodId} {args : Array Value} {below : List Frame} {meth : Method} {c : Code} {A : Nat → Prop} {Q : State → Prop} {D : va_G} {ca : Nat → ClassId} {a : Nat → Nat} {u : fw_S} {r : Int32} {k9 : fw_S → Int32 → Int32 → Int32 → Option (Int32 × fw_S)} (C : CX (WX ca a) D (tyv ca) p s m args c A prog_2_method_27_code 5 RX0) (hr : True → RX (WX ca a) D p l e rm_X_X0_causeAbove__4 s m args below meth c A prog_2_method_27_code Q .ireturn [.int r] u) (hk9 : ∀ (t : fw_S) (x2 : Int32) (x3 : Int32) (x4 : Int32) (H : Heap) (locs : List Loc) (ls : Array Slot), k9 t x2 x3 x4 = some (r, u) → va_P D classes (WX ca a t) H → va_S A s.heap H locs → lv_has ls 5 [(0, .ref (a 4)), (2, .int x2), (3, .int x3), (4, .int x4)] → W p l e rm_X_X0_causeAbove__4 s m args below meth c H locs 0 0 Q (F0 m 9 ls [])) {t : fw_S} {x2 : Int32} {x3 : Int32} {x4 : Int32} {H : Heap} {locs : List Loc} {ls : Array Slot} (hf : b_X_X0_causeAbove__4_30 k9 t x2 x3 x4 = some (r, u)) (hP : va_P D classes (WX ca a t) H) (hS : va_S A s.heap H locs) (hl : lv_has ls 5 [(0, .ref (a 4)), (2, .int x2), (3, .int x3), (4, .int x4)]) : W p l e rm_X_X0_causeAbove__4 s m args below meth c H locs 0 0 Q (F0 m 30 ls []) := by
  obtain ⟨hx, hb, hml, hown, hts, hN, hK, hD, hA⟩ := id C
  have hf : (fb_b (f_X_X0_causeOf__4 t x3) fun v_2 t_1 => (k9 t_1 x2 v_2 (x4 + 1))) = some (r, u) := hf
  refine lv_aload_n hx hb dX0_causeAbove_30 rfl (lv_at hl 0 rfl) ?_
  refine lv_iload_n hx hb dX0_causeAbove_31 rfl (lv_at hl 2 rfl) ?_
  obtain ⟨v_2, t_1, g_32, hf⟩ := fb_bs hf
  refine fw_V1 (As := [.int x3]) (rest := []) (n := 1) (q0 := 4) C (c_X_X0_causeOf__4 (l := l) (D := D) (ca := ca) (a := a) g_32) kw_920 kw_878 kw_96 kw_880 kw_879 hP hS hl (heX_4 ca a t) rfl rfl rfl (by decide) (by decide +kernel) ⟨Nat.le_of_ble_eq_true rfl, Nat.le_of_ble_eq_true rfl⟩ rfl rfl (Nat.le_of_ble_eq_true rfl) dX0_causeAbove_32 (fun H locs hP hS => ?_)
  refine W.eq (g2 := F0 m 35 ls [.int v_2]) rfl ?_
  refine lv_istore_n (lv' := [(3, .int v_2), (0, .ref (a 4)), (2, .int x2), (4, .int x4)]) hx hb dX0_causeAbove_35 rfl hl (by decide) rfl (fun ls hl => ?_)
  refine lv_iinc (v := x4 + 1) (lv' := [(4, .int (x4 + 1)), (3, .int v_2), (0, .ref (a 4)), (2, .int x2)]) hx hb dX0_causeAbove_36 hl (k := 3) rfl rfl (by decide) rfl (fun ls hl => ?_)
  refine lv_goto (tgt := 9) hx hb dX0_causeAbove_39 (by decide) ?_
  exact hk9 t_1 x2 v_2 (x4 + 1) _ _ _ hf hP hS (lv_sub hl [2, 3, 1, 0] rfl)
set_option maxRecDepth 20000 in
theorem w_X_X0_causeAbove__4_22 {p : Program} {l : Launch} {e : Env} {s : State} {m : MethodId} {args : Array Value} {below : List Frame} {meth : Method} {c : Code} {A : Nat → Prop} {Q : State → Prop} {D : va_G} {ca : Nat → ClassId} {a : Nat → Nat} {u : fw_S} {r : Int32} {k9 : fw_S → Int32 → Int32 → Int32 → Option (Int32 × fw_S)} (C : CX (WX ca a) D (tyv ca) p s m args c A prog_2_method_27_code 5 RX0) (hr : True → RX (WX ca a) D p l e rm_X_X0_causeAbove__4 s m args below meth c A prog_2_method_27_code Q .ireturn [.int r] u) (hk9 : ∀ (t : fw_S) (x2 : Int32) (x3 : Int32) (x4 : Int32) (H : Heap) (locs : List Loc) (ls : Array Slot), k9 t x2 x3 x4 = some (r, u) → va_P D classes (WX ca a t) H → va_S A s.heap H locs → lv_has ls 5 [(0, .ref (a 4)), (2, .int x2), (3, .int x3), (4, .int x4)] → W p l e rm_X_X0_causeAbove__4 s m args below meth c H locs 0 0 Q (F0 m 9 ls [])) {t : fw_S} {x2 : Int32} {x3 : Int32} {x4 : Int32} {H : Heap} {locs : List Loc} {ls : Array Slot} (hf : b_X_X0_causeAbove__4_22 k9 t x2 x3 x4 = some (r, u)) (hP : va_P D classes (WX ca a t) H) (hS : va_S A s.heap H locs) (hl : lv_has ls 5 [(0, .ref (a 4)), (2, .int x2), (3, .int x3), (4, .int x4)]) : W p l e rm_X_X0_causeAbove__4 s m args below meth c H locs 0 0 Q (F0 m 22 ls []) := by
  obtain ⟨hx, hb, hml, hown, hts, hN, hK, hD, hA⟩ := id C
  have hf : (fb_b (f_X_X10_isCell t x3.toInt64) fun v_2 t_1 => (if v_2 = 0 then b_X_X0_causeAbove__4_42 t_1 x2 x3 else b_X_X0_causeAbove__4_30 k9 t_1 x2 x3 x4)) = some (r, u) := hf
  refine lv_iload_n hx hb dX0_causeAbove_22 rfl (lv_at hl 2 rfl) ?_
  refine lv_i2l hx hb dX0_causeAbove_23 rfl ?_
  obtain ⟨v_2, t_1, g_24, hf⟩ := fb_bs hf
  refine fw_S2 (As := [.long x3.toInt64]) (rest := []) (n := 1) C (c_X_X10_isCell (l := l) (D := D) (ca := ca) (a := a) g_24) kw_429 kw_399 kw_92 kw_400 hP hS hl rfl rfl (by decide) (by decide +kernel) ⟨Nat.le_of_ble_eq_true rfl, Nat.le_of_ble_eq_true rfl⟩ rfl rfl (Nat.le_of_ble_eq_true rfl) dX0_causeAbove_24 (fun H locs hP hS => ?_)
  refine W.eq (g2 := F0 m 27 ls [.int v_2]) rfl ?_
  refine lv_if_eq (tgt := 42) hx hb dX0_causeAbove_27 (by decide) (fun h_27 => ?_) (fun h_27 => ?_)
  · have hf := fb_t h_27 hf
    exact w_X_X0_causeAbove__4_42 C hr hf hP hS (lv_sub hl [1, 2] rfl)
  · have hf := fb_f h_27 hf
    exact w_X_X0_causeAbove__4_30 C hr hk9 hf hP hS (lv_sub hl [0, 1, 2, 3] rfl)
set_option maxRecDepth 20000 in
theorem w_X_X0_causeAbove__4_15 {p : Program} {l : Launch} {e : Env} {s : State} {m : MethodId} {args : Array Value} {below : List Frame} {meth : Method} {c : Code} {A : Nat → Prop} {Q : State → Prop} {D : va_G} {ca : Nat → ClassId} {a : Nat → Nat} {u : fw_S} {r : Int32} {k9 : fw_S → Int32 → Int32 → Int32 → Option (Int32 × fw_S)} (C : CX (WX ca a) D (tyv ca) p s m args c A prog_2_method_27_code 5 RX0) (hr : True → RX (WX ca a) D p l e rm_X_X0_causeAbove__4 s m args below meth c A prog_2_method_27_code Q .ireturn [.int r] u) (hk9 : ∀ (t : fw_S) (x2 : Int32) (x3 : Int32) (x4 : Int32) (H : Heap) (locs : List Loc) (ls : Array Slot), k9 t x2 x3 x4 = some (r, u) → va_P D classes (WX ca a t) H → va_S A s.heap H locs → lv_has ls 5 [(0, .ref (a 4)), (2, .int x2), (3, .int x3), (4, .int x4)] → W p l e rm_X_X0_causeAbove__4 s m args below meth c H locs 0 0 Q (F0 m 9 ls [])) {t : fw_S} {x2 : Int32} {x3 : Int32} {x4 : Int32} {H : Heap} {locs : List Loc} {ls : Array Slot} (hf : b_X_X0_causeAbove__4_15 k9 t x2 x3 x4 = some (r, u)) (hP : va_P D classes (WX ca a t) H) (hS : va_S A s.heap H locs) (hl : lv_has ls 5 [(0, .ref (a 4)), (2, .int x2), (3, .int x3), (4, .int x4)]) : W p l e rm_X_X0_causeAbove__4 s m args below meth c H locs 0 0 Q (F0 m 15 ls []) := by
  obtain ⟨hx, hb, hml, hown, hts, hN, hK, hD, hA⟩ := id C
  have hf : (if ((32 : Int32)) ≤ x4 then b_X_X0_causeAbove__4_42 t x2 x3 else b_X_X0_causeAbove__4_22 k9 t x2 x3 x4) = some (r, u) := hf
  refine lv_iload hx hb dX0_causeAbove_15 (lv_at hl 3 rfl) ?_
  refine lv_bipush (v := 32) hx hb dX0_causeAbove_17 (by decide) ?_
  refine lv_icmp_ge (tgt := 42) hx hb dX0_causeAbove_19 (by decide) (fun h_19 => ?_) (fun h_19 => ?_)
  · have hf := fb_t h_19 hf
    exact w_X_X0_causeAbove__4_42 C hr hf hP hS (lv_sub hl [1, 2] rfl)
  · have hf := fb_f h_19 hf
    exact w_X_X0_causeAbove__4_22 C hr hk9 hf hP hS (lv_sub hl [0, 1, 2, 3] rfl)
set_option maxRecDepth 20000 in
theorem w_X_X0_causeAbove__4_9 {p : Program} {l : Launch} {e : Env} {s : State} {m : MethodId} {args : Array Value} {below : List Frame} {meth : Method} {c : Code} {A : Nat → Prop} {Q : State → Prop} {D : va_G} {ca : Nat → ClassId} {a : Nat → Nat} {u : fw_S} {r : Int32}  (C : CX (WX ca a) D (tyv ca) p s m args c A prog_2_method_27_code 5 RX0) (hr : True → RX (WX ca a) D p l e rm_X_X0_causeAbove__4 s m args below meth c A prog_2_method_27_code Q .ireturn [.int r] u) : ∀ (n : Nat) (t : fw_S) (x2 : Int32) (x3 : Int32) (x4 : Int32) (H : Heap) (locs : List Loc) (ls : Array Slot), b_X_X0_causeAbove__4_9  n t x2 x3 x4 = some (r, u) → va_P D classes (WX ca a t) H → va_S A s.heap H locs → lv_has ls 5 [(0, .ref (a 4)), (2, .int x2), (3, .int x3), (4, .int x4)] → W p l e rm_X_X0_causeAbove__4 s m args below meth c H locs 0 0 Q (F0 m 9 ls []) := by
  obtain ⟨hx, hb, hml, hown, hts, hN, hK, hD, hA⟩ := id C
  intro n
  induction n with
  | zero => intro t x2 x3 x4 H locs ls hf; cases hf
  | succ n hk9 =>
    intro t x2 x3 x4 H locs ls hf hP hS hl
    have hf : (if x2 ≤ x4 then b_X_X0_causeAbove__4_42 t x2 x3 else b_X_X0_causeAbove__4_15 (b_X_X0_causeAbove__4_9 n) t x2 x3 x4) = some (r, u) := hf
    refine lv_iload hx hb dX0_causeAbove_9 (lv_at hl 3 rfl) ?_
    refine lv_iload_n hx hb dX0_causeAbove_11 rfl (lv_at hl 1 rfl) ?_
    refine lv_icmp_ge (tgt := 42) hx hb dX0_causeAbove_12 (by decide) (fun h_12 => ?_) (fun h_12 => ?_)
    · have hf := fb_t h_12 hf
      exact w_X_X0_causeAbove__4_42 C hr hf hP hS (lv_sub hl [1, 2] rfl)
    · have hf := fb_f h_12 hf
      exact w_X_X0_causeAbove__4_15 C hr hk9 hf hP hS (lv_sub hl [0, 1, 2, 3] rfl)
set_option maxRecDepth 20000 in
theorem w_X_X0_causeAbove__4_0 {p : Program} {l : Launch} {e : Env} {s : State} {m : MethodId} {args : Array Value} {below : List Frame} {meth : Method} {c : Code} {A : Nat → Prop} {Q : State → Prop} {D : va_G} {ca : Nat → ClassId} {a : Nat → Nat} {u : fw_S} {r : Int32}  (C : CX (WX ca a) D (tyv ca) p s m args c A prog_2_method_27_code 5 RX0) (hr : True → RX (WX ca a) D p l e rm_X_X0_causeAbove__4 s m args below meth c A prog_2_method_27_code Q .ireturn [.int r] u) {t : fw_S} {x1 : Int32} {x2 : Int32} {H : Heap} {locs : List Loc} {ls : Array Slot} (hf : b_X_X0_causeAbove__4_0  t x1 x2 = some (r, u)) (hP : va_P D classes (WX ca a t) H) (hS : va_S A s.heap H locs) (hl : lv_has ls 5 [(0, .ref (a 4)), (1, .int x1), (2, .int x2)]) : W p l e rm_X_X0_causeAbove__4 s m args below meth c H locs 0 0 Q (F0 m 0 ls []) := by
  obtain ⟨hx, hb, hml, hown, hts, hN, hK, hD, hA⟩ := id C
  have hf : (fb_b (f_X_X0_causeOf__4 t x1) fun v_2 t_1 => (b_X_X0_causeAbove__4_9 3000 t_1 x2 v_2 ((0 : Int32)))) = some (r, u) := hf
  refine lv_aload_n hx hb dX0_causeAbove_0 rfl (lv_at hl 0 rfl) ?_
  refine lv_iload_n hx hb dX0_causeAbove_1 rfl (lv_at hl 1 rfl) ?_
  obtain ⟨v_2, t_1, g_2, hf⟩ := fb_bs hf
  refine fw_V1 (As := [.int x1]) (rest := []) (n := 1) (q0 := 4) C (c_X_X0_causeOf__4 (l := l) (D := D) (ca := ca) (a := a) g_2) kw_920 kw_878 kw_96 kw_880 kw_879 hP hS hl (heX_4 ca a t) rfl rfl rfl (by decide) (by decide +kernel) ⟨Nat.le_of_ble_eq_true rfl, Nat.le_of_ble_eq_true rfl⟩ rfl rfl (Nat.le_of_ble_eq_true rfl) dX0_causeAbove_2 (fun H locs hP hS => ?_)
  refine W.eq (g2 := F0 m 5 ls [.int v_2]) rfl ?_
  refine lv_istore_n (lv' := [(3, .int v_2), (0, .ref (a 4)), (1, .int x1), (2, .int x2)]) hx hb dX0_causeAbove_5 rfl hl (by decide) rfl (fun ls hl => ?_)
  refine lv_iconst (v := 0) hx hb dX0_causeAbove_6 (by decide) ?_
  refine lv_istore (lv' := [(4, .int ((0 : Int32))), (3, .int v_2), (0, .ref (a 4)), (1, .int x1), (2, .int x2)]) hx hb dX0_causeAbove_7 hl (by decide) rfl (fun ls hl => ?_)
  exact w_X_X0_causeAbove__4_9 C hr 3000 t_1 x2 v_2 ((0 : Int32)) _ _ _ hf hP hS (lv_sub hl [2, 4, 1, 0] rfl)
set_option maxRecDepth 20000 in
theorem c_X_X0_causeAbove__4 {l : Launch} {D : va_G} {ca : Nat → ClassId} {a : Nat → Nat} {t : fw_S} {x1 : Int32} {x2 : Int32} {u : fw_S} {r : Int32} (hf : f_X_X0_causeAbove__4 t x1 x2 = some (r, u)) : MC (WX ca a) D (tyv ca) l yX0_causeAbove (.code yX0_causeAbove prog_2_method_27_code 5 (some .int) :: lw_gd) rm_X_X0_causeAbove__4 [.ref (a 4), .int x1, .int x2] (some (.int r)) t u := by
  refine fw_met (okX ca a) (by decide +kernel) rfl rfl (Nat.le_of_ble_eq_true rfl) ?_
  intro p e s m args below meth c A Q ls C hr hk hP hS hl hQ
  exact w_X_X0_causeAbove__4_0 C (fun _ => fw_ri C hr hk hQ) hf hP hS (lv_sub hl [0, 1, 2] rfl)
/-! ReactiveSheet.why(II)I ['x'] -/
abbrev rm_X_X10_why__0 : Room := { frames := 3, cells := 0, slots := 0, locals := 66 }
def b_X_X10_why__0_28  (t : fw_S) (z0 : Int32) : Option (Int32 × fw_S) := some (z0, t)
def b_X_X10_why__0_27  (t : fw_S)  : Option (Int32 × fw_S) := b_X_X10_why__0_28 t ((-1 : Int32))
def b_X_X10_why__0_12  (t : fw_S) (x1 : Int32) (x2 : Int32) : Option (Int32 × fw_S) := fb_v (f_X_X1_now__3 t) fun t_1 => (fb_b (f_X_X0_causeAbove__4 t_1 x1 x2) fun v_3 t_2 => (b_X_X10_why__0_28 t_2 v_3))
def b_X_X10_why__0_8  (t : fw_S) (x1 : Int32) (x2 : Int32) : Option (Int32 × fw_S) := if x2 < 0 then b_X_X10_why__0_27 t else b_X_X10_why__0_12 t x1 x2
def b_X_X10_why__0_0  (t : fw_S) (x1 : Int32) (x2 : Int32) : Option (Int32 × fw_S) := fb_b (f_X_X10_isCell t x1.toInt64) fun v_2 t_1 => (if v_2 = 0 then b_X_X10_why__0_27 t_1 else b_X_X10_why__0_8 t_1 x1 x2)
def f_X_X10_why__0 (t : fw_S) (x1 : Int32) (x2 : Int32) : Option (Int32 × fw_S) := b_X_X10_why__0_0 t x1 x2
set_option maxRecDepth 20000 in
theorem w_X_X10_why__0_28 {p : Program} {l : Launch} {e : Env} {s : State} {m : MethodId} {args : Array Value} {below : List Frame} {meth : Method} {c : Code} {A : Nat → Prop} {Q : State → Prop} {D : va_G} {ca : Nat → ClassId} {a : Nat → Nat} {u : fw_S} {r : Int32}  (C : CX (WX ca a) D (tyv ca) p s m args c A prog_1_method_17_code 3 RX10) (hr : True → RX (WX ca a) D p l e rm_X_X10_why__0 s m args below meth c A prog_1_method_17_code Q .ireturn [.int r] u) {t : fw_S} {z0 : Int32} {H : Heap} {locs : List Loc} {ls : Array Slot} (hf : b_X_X10_why__0_28  t z0 = some (r, u)) (hP : va_P D classes (WX ca a t) H) (hS : va_S A s.heap H locs) (hl : lv_has ls 3 []) : W p l e rm_X_X10_why__0 s m args below meth c H locs 0 0 Q (F0 m 28 ls [.int z0]) := by
  obtain ⟨hx, hb, hml, hown, hts, hN, hK, hD, hA⟩ := id C
  have hf : (some (z0, t)) = some (r, u) := hf
  obtain ⟨e_28, e2_28⟩ := fb_e hf
  subst e_28; subst e2_28
  exact hr trivial _ _ _ _ hP hS dX10_why_28
set_option maxRecDepth 20000 in
theorem w_X_X10_why__0_27 {p : Program} {l : Launch} {e : Env} {s : State} {m : MethodId} {args : Array Value} {below : List Frame} {meth : Method} {c : Code} {A : Nat → Prop} {Q : State → Prop} {D : va_G} {ca : Nat → ClassId} {a : Nat → Nat} {u : fw_S} {r : Int32}  (C : CX (WX ca a) D (tyv ca) p s m args c A prog_1_method_17_code 3 RX10) (hr : True → RX (WX ca a) D p l e rm_X_X10_why__0 s m args below meth c A prog_1_method_17_code Q .ireturn [.int r] u) {t : fw_S}  {H : Heap} {locs : List Loc} {ls : Array Slot} (hf : b_X_X10_why__0_27  t  = some (r, u)) (hP : va_P D classes (WX ca a t) H) (hS : va_S A s.heap H locs) (hl : lv_has ls 3 []) : W p l e rm_X_X10_why__0 s m args below meth c H locs 0 0 Q (F0 m 27 ls []) := by
  obtain ⟨hx, hb, hml, hown, hts, hN, hK, hD, hA⟩ := id C
  have hf : (b_X_X10_why__0_28 t ((-1 : Int32))) = some (r, u) := hf
  refine lv_iconst (v := (-1)) hx hb dX10_why_27 (by decide) ?_
  exact w_X_X10_why__0_28 C hr hf hP hS (lv_sub hl [] rfl)
set_option maxRecDepth 20000 in
theorem w_X_X10_why__0_12 {p : Program} {l : Launch} {e : Env} {s : State} {m : MethodId} {args : Array Value} {below : List Frame} {meth : Method} {c : Code} {A : Nat → Prop} {Q : State → Prop} {D : va_G} {ca : Nat → ClassId} {a : Nat → Nat} {u : fw_S} {r : Int32}  (C : CX (WX ca a) D (tyv ca) p s m args c A prog_1_method_17_code 3 RX10) (hr : True → RX (WX ca a) D p l e rm_X_X10_why__0 s m args below meth c A prog_1_method_17_code Q .ireturn [.int r] u) {t : fw_S} {x1 : Int32} {x2 : Int32} {H : Heap} {locs : List Loc} {ls : Array Slot} (hf : b_X_X10_why__0_12  t x1 x2 = some (r, u)) (hP : va_P D classes (WX ca a t) H) (hS : va_S A s.heap H locs) (hl : lv_has ls 3 [(0, .ref (a 0)), (1, .int x1), (2, .int x2)]) : W p l e rm_X_X10_why__0 s m args below meth c H locs 0 0 Q (F0 m 12 ls []) := by
  obtain ⟨hx, hb, hml, hown, hts, hN, hK, hD, hA⟩ := id C
  have hf : (fb_v (f_X_X1_now__3 t) fun t_1 => (fb_b (f_X_X0_causeAbove__4 t_1 x1 x2) fun v_3 t_2 => (b_X_X10_why__0_28 t_2 v_3))) = some (r, u) := hf
  refine lv_aload_n hx hb dX10_why_12 rfl (lv_at hl 0 rfl) ?_
  refine va_get (D := D) (ci := 10) (v := .ref (a 3)) (C := RX10) (T := TX10) (N := 13) hx hb hts inX10 hown hK hP 0 (heX_0 ca a t) rfl 2 (by decide) (hts _ kw_356) (fun _ h9 => h9) rfl dX10_why_13 ?_
  obtain ⟨t_1, g_16, hf⟩ := fb_vs hf
  refine fw_V1 (As := []) (rest := []) (n := 0) (q0 := 3) C (c_X_X1_now__3 (l := l) (D := D) (ca := ca) (a := a) g_16) kw_626 kw_627 kw_95 kw_629 kw_628 hP hS hl (heX_3 ca a t) rfl rfl rfl (by decide) (by decide +kernel) ⟨Nat.le_of_ble_eq_true rfl, Nat.le_of_ble_eq_true rfl⟩ rfl rfl (Nat.le_of_ble_eq_true rfl) dX10_why_16 (fun H locs hP hS => ?_)
  refine W.eq (g2 := F0 m 19 ls [.ref (a 4)]) rfl ?_
  refine lv_iload_n hx hb dX10_why_19 rfl (lv_at hl 1 rfl) ?_
  refine lv_iload_n hx hb dX10_why_20 rfl (lv_at hl 2 rfl) ?_
  obtain ⟨v_3, t_2, g_21, hf⟩ := fb_bs hf
  refine fw_V1 (As := [.int x1, .int x2]) (rest := []) (n := 2) (q0 := 4) C (c_X_X0_causeAbove__4 (l := l) (D := D) (ca := ca) (a := a) g_21) kw_916 kw_917 kw_96 kw_919 kw_918 hP hS hl (heX_4 ca a t_1) rfl rfl rfl (by decide) (by decide +kernel) ⟨Nat.le_of_ble_eq_true rfl, Nat.le_of_ble_eq_true rfl⟩ rfl rfl (Nat.le_of_ble_eq_true rfl) dX10_why_21 (fun H locs hP hS => ?_)
  refine W.eq (g2 := F0 m 24 ls [.int v_3]) rfl ?_
  refine lv_goto (tgt := 28) hx hb dX10_why_24 (by decide) ?_
  exact w_X_X10_why__0_28 C hr hf hP hS (lv_sub hl [] rfl)
set_option maxRecDepth 20000 in
theorem w_X_X10_why__0_8 {p : Program} {l : Launch} {e : Env} {s : State} {m : MethodId} {args : Array Value} {below : List Frame} {meth : Method} {c : Code} {A : Nat → Prop} {Q : State → Prop} {D : va_G} {ca : Nat → ClassId} {a : Nat → Nat} {u : fw_S} {r : Int32}  (C : CX (WX ca a) D (tyv ca) p s m args c A prog_1_method_17_code 3 RX10) (hr : True → RX (WX ca a) D p l e rm_X_X10_why__0 s m args below meth c A prog_1_method_17_code Q .ireturn [.int r] u) {t : fw_S} {x1 : Int32} {x2 : Int32} {H : Heap} {locs : List Loc} {ls : Array Slot} (hf : b_X_X10_why__0_8  t x1 x2 = some (r, u)) (hP : va_P D classes (WX ca a t) H) (hS : va_S A s.heap H locs) (hl : lv_has ls 3 [(0, .ref (a 0)), (1, .int x1), (2, .int x2)]) : W p l e rm_X_X10_why__0 s m args below meth c H locs 0 0 Q (F0 m 8 ls []) := by
  obtain ⟨hx, hb, hml, hown, hts, hN, hK, hD, hA⟩ := id C
  have hf : (if x2 < 0 then b_X_X10_why__0_27 t else b_X_X10_why__0_12 t x1 x2) = some (r, u) := hf
  refine lv_iload_n hx hb dX10_why_8 rfl (lv_at hl 2 rfl) ?_
  refine lv_if_lt (tgt := 27) hx hb dX10_why_9 (by decide) (fun h_9 => ?_) (fun h_9 => ?_)
  · have hf := fb_t h_9 hf
    exact w_X_X10_why__0_27 C hr hf hP hS (lv_sub hl [] rfl)
  · have hf := fb_f h_9 hf
    exact w_X_X10_why__0_12 C hr hf hP hS (lv_sub hl [0, 1, 2] rfl)
set_option maxRecDepth 20000 in
theorem w_X_X10_why__0_0 {p : Program} {l : Launch} {e : Env} {s : State} {m : MethodId} {args : Array Value} {below : List Frame} {meth : Method} {c : Code} {A : Nat → Prop} {Q : State → Prop} {D : va_G} {ca : Nat → ClassId} {a : Nat → Nat} {u : fw_S} {r : Int32}  (C : CX (WX ca a) D (tyv ca) p s m args c A prog_1_method_17_code 3 RX10) (hr : True → RX (WX ca a) D p l e rm_X_X10_why__0 s m args below meth c A prog_1_method_17_code Q .ireturn [.int r] u) {t : fw_S} {x1 : Int32} {x2 : Int32} {H : Heap} {locs : List Loc} {ls : Array Slot} (hf : b_X_X10_why__0_0  t x1 x2 = some (r, u)) (hP : va_P D classes (WX ca a t) H) (hS : va_S A s.heap H locs) (hl : lv_has ls 3 [(0, .ref (a 0)), (1, .int x1), (2, .int x2)]) : W p l e rm_X_X10_why__0 s m args below meth c H locs 0 0 Q (F0 m 0 ls []) := by
  obtain ⟨hx, hb, hml, hown, hts, hN, hK, hD, hA⟩ := id C
  have hf : (fb_b (f_X_X10_isCell t x1.toInt64) fun v_2 t_1 => (if v_2 = 0 then b_X_X10_why__0_27 t_1 else b_X_X10_why__0_8 t_1 x1 x2)) = some (r, u) := hf
  refine lv_iload_n hx hb dX10_why_0 rfl (lv_at hl 1 rfl) ?_
  refine lv_i2l hx hb dX10_why_1 rfl ?_
  obtain ⟨v_2, t_1, g_2, hf⟩ := fb_bs hf
  refine fw_S1 (As := [.long x1.toInt64]) (rest := []) (n := 1) C (c_X_X10_isCell (l := l) (D := D) (ca := ca) (a := a) g_2) kw_398 kw_399 kw_92 kw_400 hP hS hl rfl rfl (by decide) (by decide +kernel) ⟨Nat.le_of_ble_eq_true rfl, Nat.le_of_ble_eq_true rfl⟩ rfl rfl (Nat.le_of_ble_eq_true rfl) dX10_why_2 (fun H locs hP hS => ?_)
  refine W.eq (g2 := F0 m 5 ls [.int v_2]) rfl ?_
  refine lv_if_eq (tgt := 27) hx hb dX10_why_5 (by decide) (fun h_5 => ?_) (fun h_5 => ?_)
  · have hf := fb_t h_5 hf
    exact w_X_X10_why__0_27 C hr hf hP hS (lv_sub hl [] rfl)
  · have hf := fb_f h_5 hf
    exact w_X_X10_why__0_8 C hr hf hP hS (lv_sub hl [0, 1, 2] rfl)
set_option maxRecDepth 20000 in
theorem c_X_X10_why__0 {l : Launch} {D : va_G} {ca : Nat → ClassId} {a : Nat → Nat} {t : fw_S} {x1 : Int32} {x2 : Int32} {u : fw_S} {r : Int32} (hf : f_X_X10_why__0 t x1 x2 = some (r, u)) : MC (WX ca a) D (tyv ca) l yX10_why (.code yX10_why prog_1_method_17_code 3 (some .int) :: lw_gd) rm_X_X10_why__0 [.ref (a 0), .int x1, .int x2] (some (.int r)) t u := by
  refine fw_met (okX ca a) (by decide +kernel) rfl rfl (Nat.le_of_ble_eq_true rfl) ?_
  intro p e s m args below meth c A Q ls C hr hk hP hS hl hQ
  exact w_X_X10_why__0_0 C (fun _ => fw_ri C hr hk hQ) hf hP hS (lv_sub hl [0, 1, 2] rfl)
/-! ReactiveSheet.Trail.onward(I)I ['x.trail'] -/
abbrev rm_X_X8_onward__11 : Room := { frames := 1, cells := 0, slots := 0, locals := 21 }
def b_X_X8_onward__11_18  (t : fw_S) (z0 : Int32) : Option (Int32 × fw_S) := some (z0, t)
def b_X_X8_onward__11_17  (t : fw_S) (x1 : Int32) : Option (Int32 × fw_S) := b_X_X8_onward__11_18 t x1
def b_X_X8_onward__11_8  (t : fw_S) (x1 : Int32) : Option (Int32 × fw_S) := fb_g (¬ (x1 < 0 ∨ 32 ≤ x1.toNatClampNeg)) (b_X_X8_onward__11_18 t (st_F t 32 x1.toNatClampNeg))
def b_X_X8_onward__11_0  (t : fw_S) (x1 : Int32) : Option (Int32 × fw_S) := fb_b (f_X_X10_isCell t x1.toInt64) fun v_2 t_1 => (if v_2 = 0 then b_X_X8_onward__11_17 t_1 x1 else b_X_X8_onward__11_8 t_1 x1)
def f_X_X8_onward__11 (t : fw_S) (x1 : Int32) : Option (Int32 × fw_S) := b_X_X8_onward__11_0 t x1
set_option maxRecDepth 20000 in
theorem w_X_X8_onward__11_18 {p : Program} {l : Launch} {e : Env} {s : State} {m : MethodId} {args : Array Value} {below : List Frame} {meth : Method} {c : Code} {A : Nat → Prop} {Q : State → Prop} {D : va_G} {ca : Nat → ClassId} {a : Nat → Nat} {u : fw_S} {r : Int32}  (C : CX (WX ca a) D (tyv ca) p s m args c A prog_10_method_4_code 2 RX8) (hr : True → RX (WX ca a) D p l e rm_X_X8_onward__11 s m args below meth c A prog_10_method_4_code Q .ireturn [.int r] u) {t : fw_S} {z0 : Int32} {H : Heap} {locs : List Loc} {ls : Array Slot} (hf : b_X_X8_onward__11_18  t z0 = some (r, u)) (hP : va_P D classes (WX ca a t) H) (hS : va_S A s.heap H locs) (hl : lv_has ls 2 []) : W p l e rm_X_X8_onward__11 s m args below meth c H locs 0 0 Q (F0 m 18 ls [.int z0]) := by
  obtain ⟨hx, hb, hml, hown, hts, hN, hK, hD, hA⟩ := id C
  have hf : (some (z0, t)) = some (r, u) := hf
  obtain ⟨e_18, e2_18⟩ := fb_e hf
  subst e_18; subst e2_18
  exact hr trivial _ _ _ _ hP hS dX8_onward_18
set_option maxRecDepth 20000 in
theorem w_X_X8_onward__11_17 {p : Program} {l : Launch} {e : Env} {s : State} {m : MethodId} {args : Array Value} {below : List Frame} {meth : Method} {c : Code} {A : Nat → Prop} {Q : State → Prop} {D : va_G} {ca : Nat → ClassId} {a : Nat → Nat} {u : fw_S} {r : Int32}  (C : CX (WX ca a) D (tyv ca) p s m args c A prog_10_method_4_code 2 RX8) (hr : True → RX (WX ca a) D p l e rm_X_X8_onward__11 s m args below meth c A prog_10_method_4_code Q .ireturn [.int r] u) {t : fw_S} {x1 : Int32} {H : Heap} {locs : List Loc} {ls : Array Slot} (hf : b_X_X8_onward__11_17  t x1 = some (r, u)) (hP : va_P D classes (WX ca a t) H) (hS : va_S A s.heap H locs) (hl : lv_has ls 2 [(1, .int x1)]) : W p l e rm_X_X8_onward__11 s m args below meth c H locs 0 0 Q (F0 m 17 ls []) := by
  obtain ⟨hx, hb, hml, hown, hts, hN, hK, hD, hA⟩ := id C
  have hf : (b_X_X8_onward__11_18 t x1) = some (r, u) := hf
  refine lv_iload_n hx hb dX8_onward_17 rfl (lv_at hl 0 rfl) ?_
  exact w_X_X8_onward__11_18 C hr hf hP hS (lv_sub hl [] rfl)
set_option maxRecDepth 20000 in
theorem w_X_X8_onward__11_8 {p : Program} {l : Launch} {e : Env} {s : State} {m : MethodId} {args : Array Value} {below : List Frame} {meth : Method} {c : Code} {A : Nat → Prop} {Q : State → Prop} {D : va_G} {ca : Nat → ClassId} {a : Nat → Nat} {u : fw_S} {r : Int32}  (C : CX (WX ca a) D (tyv ca) p s m args c A prog_10_method_4_code 2 RX8) (hr : True → RX (WX ca a) D p l e rm_X_X8_onward__11 s m args below meth c A prog_10_method_4_code Q .ireturn [.int r] u) {t : fw_S} {x1 : Int32} {H : Heap} {locs : List Loc} {ls : Array Slot} (hf : b_X_X8_onward__11_8  t x1 = some (r, u)) (hP : va_P D classes (WX ca a t) H) (hS : va_S A s.heap H locs) (hl : lv_has ls 2 [(0, .ref (a 11)), (1, .int x1)]) : W p l e rm_X_X8_onward__11 s m args below meth c H locs 0 0 Q (F0 m 8 ls []) := by
  obtain ⟨hx, hb, hml, hown, hts, hN, hK, hD, hA⟩ := id C
  have hf : (fb_g (¬ (x1 < 0 ∨ 32 ≤ x1.toNatClampNeg)) (b_X_X8_onward__11_18 t (st_F t 32 x1.toNatClampNeg))) = some (r, u) := hf
  refine lv_aload_n hx hb dX8_onward_8 rfl (lv_at hl 0 rfl) ?_
  refine va_get (D := D) (ci := 8) (v := .ref (a 61)) (C := RX8) (T := TX8) (N := 2) hx hb hts inX8 hown hK hP 11 (heX_11 ca a t) rfl 1 (by decide) (hts _ kw_346) (fun _ h9 => h9) rfl dX8_onward_9 ?_
  refine lv_iload_n hx hb dX8_onward_12 rfl (lv_at hl 1 rfl) ?_
  obtain ⟨h_13, hf⟩ := fb_if hf
  refine va_iald hx hb hK hP 61 0 (haX_61 ca a t) rfl h_13 dX8_onward_13 ?_
  refine lv_goto (tgt := 18) hx hb dX8_onward_14 (by decide) ?_
  exact w_X_X8_onward__11_18 C hr hf hP hS (lv_sub hl [] rfl)
set_option maxRecDepth 20000 in
theorem w_X_X8_onward__11_0 {p : Program} {l : Launch} {e : Env} {s : State} {m : MethodId} {args : Array Value} {below : List Frame} {meth : Method} {c : Code} {A : Nat → Prop} {Q : State → Prop} {D : va_G} {ca : Nat → ClassId} {a : Nat → Nat} {u : fw_S} {r : Int32}  (C : CX (WX ca a) D (tyv ca) p s m args c A prog_10_method_4_code 2 RX8) (hr : True → RX (WX ca a) D p l e rm_X_X8_onward__11 s m args below meth c A prog_10_method_4_code Q .ireturn [.int r] u) {t : fw_S} {x1 : Int32} {H : Heap} {locs : List Loc} {ls : Array Slot} (hf : b_X_X8_onward__11_0  t x1 = some (r, u)) (hP : va_P D classes (WX ca a t) H) (hS : va_S A s.heap H locs) (hl : lv_has ls 2 [(0, .ref (a 11)), (1, .int x1)]) : W p l e rm_X_X8_onward__11 s m args below meth c H locs 0 0 Q (F0 m 0 ls []) := by
  obtain ⟨hx, hb, hml, hown, hts, hN, hK, hD, hA⟩ := id C
  have hf : (fb_b (f_X_X10_isCell t x1.toInt64) fun v_2 t_1 => (if v_2 = 0 then b_X_X8_onward__11_17 t_1 x1 else b_X_X8_onward__11_8 t_1 x1)) = some (r, u) := hf
  refine lv_iload_n hx hb dX8_onward_0 rfl (lv_at hl 1 rfl) ?_
  refine lv_i2l hx hb dX8_onward_1 rfl ?_
  obtain ⟨v_2, t_1, g_2, hf⟩ := fb_bs hf
  refine fw_S2 (As := [.long x1.toInt64]) (rest := []) (n := 1) C (c_X_X10_isCell (l := l) (D := D) (ca := ca) (a := a) g_2) kw_929 kw_399 kw_92 kw_400 hP hS hl rfl rfl (by decide) (by decide +kernel) ⟨Nat.le_of_ble_eq_true rfl, Nat.le_of_ble_eq_true rfl⟩ rfl rfl (Nat.le_of_ble_eq_true rfl) dX8_onward_2 (fun H locs hP hS => ?_)
  refine W.eq (g2 := F0 m 5 ls [.int v_2]) rfl ?_
  refine lv_if_eq (tgt := 17) hx hb dX8_onward_5 (by decide) (fun h_5 => ?_) (fun h_5 => ?_)
  · have hf := fb_t h_5 hf
    exact w_X_X8_onward__11_17 C hr hf hP hS (lv_sub hl [1] rfl)
  · have hf := fb_f h_5 hf
    exact w_X_X8_onward__11_8 C hr hf hP hS (lv_sub hl [0, 1] rfl)
set_option maxRecDepth 20000 in
theorem c_X_X8_onward__11 {l : Launch} {D : va_G} {ca : Nat → ClassId} {a : Nat → Nat} {t : fw_S} {x1 : Int32} {u : fw_S} {r : Int32} (hf : f_X_X8_onward__11 t x1 = some (r, u)) : MC (WX ca a) D (tyv ca) l yX8_onward (.code yX8_onward prog_10_method_4_code 2 (some .int) :: lw_gd) rm_X_X8_onward__11 [.ref (a 11), .int x1] (some (.int r)) t u := by
  refine fw_met (okX ca a) (by decide +kernel) rfl rfl (Nat.le_of_ble_eq_true rfl) ?_
  intro p e s m args below meth c A Q ls C hr hk hP hS hl hQ
  exact w_X_X8_onward__11_0 C (fun _ => fw_ri C hr hk hQ) hf hP hS (lv_sub hl [0, 1] rfl)
/-! ReactiveSheet.Trail.stepsTo(II)I ['x.trail'] -/
abbrev rm_X_X8_stepsTo__11 : Room := { frames := 2, cells := 0, slots := 0, locals := 42 }
def b_X_X8_stepsTo__11_31  (t : fw_S) (x3 : Int32) : Option (Int32 × fw_S) := some (x3, t)
def b_X_X8_stepsTo__11_17 (k5 : fw_S → Int32 → Int32 → Int32 → Option (Int32 × fw_S)) (t : fw_S) (x2 : Int32) (x3 : Int32) (x4 : Int32) : Option (Int32 × fw_S) := fb_b (f_X_X8_onward__11 t x4) fun v_2 t_1 => (k5 t_1 x2 (x3 + 1) v_2)
def b_X_X8_stepsTo__11_11 (k5 : fw_S → Int32 → Int32 → Int32 → Option (Int32 × fw_S)) (t : fw_S) (x2 : Int32) (x3 : Int32) (x4 : Int32) : Option (Int32 × fw_S) := if ((32 : Int32)) ≤ x3 then b_X_X8_stepsTo__11_31 t x3 else b_X_X8_stepsTo__11_17 k5 t x2 x3 x4
def b_X_X8_stepsTo__11_5  : Nat → (fw_S → Int32 → Int32 → Int32 → Option (Int32 × fw_S))
  | 0 => fun _ _ _ _ => none
  | n + 1 => fun t x2 x3 x4 => if x4 = x2 then b_X_X8_stepsTo__11_31 t x3 else b_X_X8_stepsTo__11_11 (b_X_X8_stepsTo__11_5 n) t x2 x3 x4
def b_X_X8_stepsTo__11_0  (t : fw_S) (x1 : Int32) (x2 : Int32) : Option (Int32 × fw_S) := b_X_X8_stepsTo__11_5 3000 t x2 ((0 : Int32)) x1
def f_X_X8_stepsTo__11 (t : fw_S) (x1 : Int32) (x2 : Int32) : Option (Int32 × fw_S) := b_X_X8_stepsTo__11_0 t x1 x2
set_option maxRecDepth 20000 in
theorem w_X_X8_stepsTo__11_31 {p : Program} {l : Launch} {e : Env} {s : State} {m : MethodId} {args : Array Value} {below : List Frame} {meth : Method} {c : Code} {A : Nat → Prop} {Q : State → Prop} {D : va_G} {ca : Nat → ClassId} {a : Nat → Nat} {u : fw_S} {r : Int32}  (C : CX (WX ca a) D (tyv ca) p s m args c A prog_10_method_3_code 5 RX8) (hr : True → RX (WX ca a) D p l e rm_X_X8_stepsTo__11 s m args below meth c A prog_10_method_3_code Q .ireturn [.int r] u) {t : fw_S} {x3 : Int32} {H : Heap} {locs : List Loc} {ls : Array Slot} (hf : b_X_X8_stepsTo__11_31  t x3 = some (r, u)) (hP : va_P D classes (WX ca a t) H) (hS : va_S A s.heap H locs) (hl : lv_has ls 5 [(3, .int x3)]) : W p l e rm_X_X8_stepsTo__11 s m args below meth c H locs 0 0 Q (F0 m 31 ls []) := by
  obtain ⟨hx, hb, hml, hown, hts, hN, hK, hD, hA⟩ := id C
  have hf : (some (x3, t)) = some (r, u) := hf
  refine lv_iload_n hx hb dX8_stepsTo_31 rfl (lv_at hl 0 rfl) ?_
  obtain ⟨e_32, e2_32⟩ := fb_e hf
  subst e_32; subst e2_32
  exact hr trivial _ _ _ _ hP hS dX8_stepsTo_32
set_option maxRecDepth 20000 in
theorem w_X_X8_stepsTo__11_17 {p : Program} {l : Launch} {e : Env} {s : State} {m : MethodId} {args : Array Value} {below : List Frame} {meth : Method} {c : Code} {A : Nat → Prop} {Q : State → Prop} {D : va_G} {ca : Nat → ClassId} {a : Nat → Nat} {u : fw_S} {r : Int32} {k5 : fw_S → Int32 → Int32 → Int32 → Option (Int32 × fw_S)} (C : CX (WX ca a) D (tyv ca) p s m args c A prog_10_method_3_code 5 RX8) (hr : True → RX (WX ca a) D p l e rm_X_X8_stepsTo__11 s m args below meth c A prog_10_method_3_code Q .ireturn [.int r] u) (hk5 : ∀ (t : fw_S) (x2 : Int32) (x3 : Int32) (x4 : Int32) (H : Heap) (locs : List Loc) (ls : Array Slot), k5 t x2 x3 x4 = some (r, u) → va_P D classes (WX ca a t) H → va_S A s.heap H locs → lv_has ls 5 [(0, .ref (a 11)), (2, .int x2), (3, .int x3), (4, .int x4)] → W p l e rm_X_X8_stepsTo__11 s m args below meth c H locs 0 0 Q (F0 m 5 ls [])) {t : fw_S} {x2 : Int32} {x3 : Int32} {x4 : Int32} {H : Heap} {locs : List Loc} {ls : Array Slot} (hf : b_X_X8_stepsTo__11_17 k5 t x2 x3 x4 = some (r, u)) (hP : va_P D classes (WX ca a t) H) (hS : va_S A s.heap H locs) (hl : lv_has ls 5 [(0, .ref (a 11)), (2, .int x2), (3, .int x3), (4, .int x4)]) : W p l e rm_X_X8_stepsTo__11 s m args below meth c H locs 0 0 Q (F0 m 17 ls []) := by
  obtain ⟨hx, hb, hml, hown, hts, hN, hK, hD, hA⟩ := id C
  have hf : (fb_b (f_X_X8_onward__11 t x4) fun v_2 t_1 => (k5 t_1 x2 (x3 + 1) v_2)) = some (r, u) := hf
  refine lv_aload_n hx hb dX8_stepsTo_17 rfl (lv_at hl 0 rfl) ?_
  refine lv_iload hx hb dX8_stepsTo_18 (lv_at hl 3 rfl) ?_
  obtain ⟨v_2, t_1, g_20, hf⟩ := fb_bs hf
  refine fw_V1 (As := [.int x4]) (rest := []) (n := 1) (q0 := 11) C (c_X_X8_onward__11 (l := l) (D := D) (ca := ca) (a := a) g_20) kw_938 kw_940 kw_101 kw_941 kw_34 hP hS hl (heX_11 ca a t) rfl rfl rfl (by decide) (by decide +kernel) ⟨Nat.le_of_ble_eq_true rfl, Nat.le_of_ble_eq_true rfl⟩ rfl rfl (Nat.le_of_ble_eq_true rfl) dX8_stepsTo_20 (fun H locs hP hS => ?_)
  refine W.eq (g2 := F0 m 23 ls [.int v_2]) rfl ?_
  refine lv_istore (lv' := [(4, .int v_2), (0, .ref (a 11)), (2, .int x2), (3, .int x3)]) hx hb dX8_stepsTo_23 hl (by decide) rfl (fun ls hl => ?_)
  refine lv_iinc (v := x3 + 1) (lv' := [(3, .int (x3 + 1)), (4, .int v_2), (0, .ref (a 11)), (2, .int x2)]) hx hb dX8_stepsTo_25 hl (k := 3) rfl rfl (by decide) rfl (fun ls hl => ?_)
  refine lv_goto (tgt := 5) hx hb dX8_stepsTo_28 (by decide) ?_
  exact hk5 t_1 x2 (x3 + 1) v_2 _ _ _ hf hP hS (lv_sub hl [2, 3, 0, 1] rfl)
set_option maxRecDepth 20000 in
theorem w_X_X8_stepsTo__11_11 {p : Program} {l : Launch} {e : Env} {s : State} {m : MethodId} {args : Array Value} {below : List Frame} {meth : Method} {c : Code} {A : Nat → Prop} {Q : State → Prop} {D : va_G} {ca : Nat → ClassId} {a : Nat → Nat} {u : fw_S} {r : Int32} {k5 : fw_S → Int32 → Int32 → Int32 → Option (Int32 × fw_S)} (C : CX (WX ca a) D (tyv ca) p s m args c A prog_10_method_3_code 5 RX8) (hr : True → RX (WX ca a) D p l e rm_X_X8_stepsTo__11 s m args below meth c A prog_10_method_3_code Q .ireturn [.int r] u) (hk5 : ∀ (t : fw_S) (x2 : Int32) (x3 : Int32) (x4 : Int32) (H : Heap) (locs : List Loc) (ls : Array Slot), k5 t x2 x3 x4 = some (r, u) → va_P D classes (WX ca a t) H → va_S A s.heap H locs → lv_has ls 5 [(0, .ref (a 11)), (2, .int x2), (3, .int x3), (4, .int x4)] → W p l e rm_X_X8_stepsTo__11 s m args below meth c H locs 0 0 Q (F0 m 5 ls [])) {t : fw_S} {x2 : Int32} {x3 : Int32} {x4 : Int32} {H : Heap} {locs : List Loc} {ls : Array Slot} (hf : b_X_X8_stepsTo__11_11 k5 t x2 x3 x4 = some (r, u)) (hP : va_P D classes (WX ca a t) H) (hS : va_S A s.heap H locs) (hl : lv_has ls 5 [(0, .ref (a 11)), (2, .int x2), (3, .int x3), (4, .int x4)]) : W p l e rm_X_X8_stepsTo__11 s m args below meth c H locs 0 0 Q (F0 m 11 ls []) := by
  obtain ⟨hx, hb, hml, hown, hts, hN, hK, hD, hA⟩ := id C
  have hf : (if ((32 : Int32)) ≤ x3 then b_X_X8_stepsTo__11_31 t x3 else b_X_X8_stepsTo__11_17 k5 t x2 x3 x4) = some (r, u) := hf
  refine lv_iload_n hx hb dX8_stepsTo_11 rfl (lv_at hl 2 rfl) ?_
  refine lv_bipush (v := 32) hx hb dX8_stepsTo_12 (by decide) ?_
  refine lv_icmp_ge (tgt := 31) hx hb dX8_stepsTo_14 (by decide) (fun h_14 => ?_) (fun h_14 => ?_)
  · have hf := fb_t h_14 hf
    exact w_X_X8_stepsTo__11_31 C hr hf hP hS (lv_sub hl [2] rfl)
  · have hf := fb_f h_14 hf
    exact w_X_X8_stepsTo__11_17 C hr hk5 hf hP hS (lv_sub hl [0, 1, 2, 3] rfl)
set_option maxRecDepth 20000 in
theorem w_X_X8_stepsTo__11_5 {p : Program} {l : Launch} {e : Env} {s : State} {m : MethodId} {args : Array Value} {below : List Frame} {meth : Method} {c : Code} {A : Nat → Prop} {Q : State → Prop} {D : va_G} {ca : Nat → ClassId} {a : Nat → Nat} {u : fw_S} {r : Int32}  (C : CX (WX ca a) D (tyv ca) p s m args c A prog_10_method_3_code 5 RX8) (hr : True → RX (WX ca a) D p l e rm_X_X8_stepsTo__11 s m args below meth c A prog_10_method_3_code Q .ireturn [.int r] u) : ∀ (n : Nat) (t : fw_S) (x2 : Int32) (x3 : Int32) (x4 : Int32) (H : Heap) (locs : List Loc) (ls : Array Slot), b_X_X8_stepsTo__11_5  n t x2 x3 x4 = some (r, u) → va_P D classes (WX ca a t) H → va_S A s.heap H locs → lv_has ls 5 [(0, .ref (a 11)), (2, .int x2), (3, .int x3), (4, .int x4)] → W p l e rm_X_X8_stepsTo__11 s m args below meth c H locs 0 0 Q (F0 m 5 ls []) := by
  obtain ⟨hx, hb, hml, hown, hts, hN, hK, hD, hA⟩ := id C
  intro n
  induction n with
  | zero => intro t x2 x3 x4 H locs ls hf; cases hf
  | succ n hk5 =>
    intro t x2 x3 x4 H locs ls hf hP hS hl
    have hf : (if x4 = x2 then b_X_X8_stepsTo__11_31 t x3 else b_X_X8_stepsTo__11_11 (b_X_X8_stepsTo__11_5 n) t x2 x3 x4) = some (r, u) := hf
    refine lv_iload hx hb dX8_stepsTo_5 (lv_at hl 3 rfl) ?_
    refine lv_iload_n hx hb dX8_stepsTo_7 rfl (lv_at hl 1 rfl) ?_
    refine lv_icmp_eq (tgt := 31) hx hb dX8_stepsTo_8 (by decide) (fun h_8 => ?_) (fun h_8 => ?_)
    · have hf := fb_t h_8 hf
      exact w_X_X8_stepsTo__11_31 C hr hf hP hS (lv_sub hl [2] rfl)
    · have hf := fb_f h_8 hf
      exact w_X_X8_stepsTo__11_11 C hr hk5 hf hP hS (lv_sub hl [0, 1, 2, 3] rfl)
set_option maxRecDepth 20000 in
theorem w_X_X8_stepsTo__11_0 {p : Program} {l : Launch} {e : Env} {s : State} {m : MethodId} {args : Array Value} {below : List Frame} {meth : Method} {c : Code} {A : Nat → Prop} {Q : State → Prop} {D : va_G} {ca : Nat → ClassId} {a : Nat → Nat} {u : fw_S} {r : Int32}  (C : CX (WX ca a) D (tyv ca) p s m args c A prog_10_method_3_code 5 RX8) (hr : True → RX (WX ca a) D p l e rm_X_X8_stepsTo__11 s m args below meth c A prog_10_method_3_code Q .ireturn [.int r] u) {t : fw_S} {x1 : Int32} {x2 : Int32} {H : Heap} {locs : List Loc} {ls : Array Slot} (hf : b_X_X8_stepsTo__11_0  t x1 x2 = some (r, u)) (hP : va_P D classes (WX ca a t) H) (hS : va_S A s.heap H locs) (hl : lv_has ls 5 [(0, .ref (a 11)), (1, .int x1), (2, .int x2)]) : W p l e rm_X_X8_stepsTo__11 s m args below meth c H locs 0 0 Q (F0 m 0 ls []) := by
  obtain ⟨hx, hb, hml, hown, hts, hN, hK, hD, hA⟩ := id C
  have hf : (b_X_X8_stepsTo__11_5 3000 t x2 ((0 : Int32)) x1) = some (r, u) := hf
  refine lv_iconst (v := 0) hx hb dX8_stepsTo_0 (by decide) ?_
  refine lv_istore_n (lv' := [(3, .int ((0 : Int32))), (0, .ref (a 11)), (1, .int x1), (2, .int x2)]) hx hb dX8_stepsTo_1 rfl hl (by decide) rfl (fun ls hl => ?_)
  refine lv_iload_n hx hb dX8_stepsTo_2 rfl (lv_at hl 2 rfl) ?_
  refine lv_istore (lv' := [(4, .int x1), (3, .int ((0 : Int32))), (0, .ref (a 11)), (1, .int x1), (2, .int x2)]) hx hb dX8_stepsTo_3 hl (by decide) rfl (fun ls hl => ?_)
  exact w_X_X8_stepsTo__11_5 C hr 3000 t x2 ((0 : Int32)) x1 _ _ _ hf hP hS (lv_sub hl [2, 4, 1, 0] rfl)
set_option maxRecDepth 20000 in
theorem c_X_X8_stepsTo__11 {l : Launch} {D : va_G} {ca : Nat → ClassId} {a : Nat → Nat} {t : fw_S} {x1 : Int32} {x2 : Int32} {u : fw_S} {r : Int32} (hf : f_X_X8_stepsTo__11 t x1 x2 = some (r, u)) : MC (WX ca a) D (tyv ca) l yX8_stepsTo (.code yX8_stepsTo prog_10_method_3_code 5 (some .int) :: lw_gd) rm_X_X8_stepsTo__11 [.ref (a 11), .int x1, .int x2] (some (.int r)) t u := by
  refine fw_met (okX ca a) (by decide +kernel) rfl rfl (Nat.le_of_ble_eq_true rfl) ?_
  intro p e s m args below meth c A Q ls C hr hk hP hS hl hQ
  exact w_X_X8_stepsTo__11_0 C (fun _ => fw_ri C hr hk hQ) hf hP hS (lv_sub hl [0, 1, 2] rfl)
/-! ReactiveSheet.Trail.trace(LReactiveSheet.Cells;II)I ['x.trail', 'x.engine.now'] -/
abbrev rm_X_X8_trace__11_4 : Room := { frames := 3, cells := 0, slots := 0, locals := 66 }
def b_X_X8_trace__11_4_16  (t : fw_S)  : Option (Int32 × fw_S) := some ((-1 : Int32), t)
def b_X_X8_trace__11_4_179  (t : fw_S) (z0 : Int32) : Option (Int32 × fw_S) := some (z0, t)
def b_X_X8_trace__11_4_178  (t : fw_S)  : Option (Int32 × fw_S) := b_X_X8_trace__11_4_179 t ((-1 : Int32))
def b_X_X8_trace__11_4_169  (t : fw_S) (x2 : Int32) (x3 : Int32) : Option (Int32 × fw_S) := fb_b (f_X_X8_stepsTo__11 t x2 x3) fun v_2 t_1 => (b_X_X8_trace__11_4_179 t_1 v_2)
def b_X_X8_trace__11_4_160  (t : fw_S) (x2 : Int32) (x3 : Int32) (y4 : Int64) : Option (Int32 × fw_S) := fb_b (f_X_X10_has t y4 x2) fun v_2 t_1 => (if v_2 = 0 then b_X_X8_trace__11_4_178 t_1 else b_X_X8_trace__11_4_169 t_1 x2 x3)
def b_X_X8_trace__11_4_154 (k44 : fw_S → Int32 → Int32 → Int64 → Int32 → Int32 → Option (Int32 × fw_S)) (t : fw_S) (x2 : Int32) (x3 : Int32) (y4 : Int64) (x6 : Int32) (x7 : Int32) : Option (Int32 × fw_S) := k44 t x2 x3 y4 x6 (x7 + 1)
def b_X_X8_trace__11_4_148 (k44 : fw_S → Int32 → Int32 → Int64 → Int32 → Int32 → Option (Int32 × fw_S)) (k70 : fw_S → Int32 → Int32 → Int64 → Int32 → Int32 → Int32 → Int32 → Option (Int32 × fw_S)) (t : fw_S) (x2 : Int32) (x3 : Int32) (y4 : Int64) (x6 : Int32) (x7 : Int32) (x8 : Int32) (x9 : Int32) : Option (Int32 × fw_S) := k70 t x2 x3 y4 x6 x7 x8 (x9 + 1)
def b_X_X8_trace__11_4_117 (k44 : fw_S → Int32 → Int32 → Int64 → Int32 → Int32 → Option (Int32 × fw_S)) (k70 : fw_S → Int32 → Int32 → Int64 → Int32 → Int32 → Int32 → Int32 → Option (Int32 × fw_S)) (t : fw_S) (x2 : Int32) (x3 : Int32) (y4 : Int64) (x6 : Int32) (x7 : Int32) (x8 : Int32) (x9 : Int32) (x10 : Int32) : Option (Int32 × fw_S) := fb_b (f_X_X10_bit t x10) fun v_2 t_1 => (fb_g (¬ (x10 < 0 ∨ 32 ≤ x10.toNatClampNeg)) (fb_l (up_F t_1 32 (upd (st_F t_1 32) x10.toNatClampNeg x8)) fun t_3 => (fb_g (¬ (x6 < 0 ∨ 32 ≤ x6.toNatClampNeg)) (fb_l (up_F t_3 31 (upd (st_F t_3 31) x6.toNatClampNeg x10)) fun t_4 => (b_X_X8_trace__11_4_148 k44 k70 t_4 x2 x3 (y4 ||| v_2) (x6 + 1) x7 x8 x9)))))
def b_X_X8_trace__11_4_110 (k44 : fw_S → Int32 → Int32 → Int64 → Int32 → Int32 → Option (Int32 × fw_S)) (k70 : fw_S → Int32 → Int32 → Int64 → Int32 → Int32 → Int32 → Int32 → Option (Int32 × fw_S)) (t : fw_S) (x2 : Int32) (x3 : Int32) (y4 : Int64) (x6 : Int32) (x7 : Int32) (x8 : Int32) (x9 : Int32) (x10 : Int32) : Option (Int32 × fw_S) := if ((32 : Int32)) ≤ x6 then b_X_X8_trace__11_4_148 k44 k70 t x2 x3 y4 x6 x7 x8 x9 else b_X_X8_trace__11_4_117 k44 k70 t x2 x3 y4 x6 x7 x8 x9 x10
def b_X_X8_trace__11_4_100 (k44 : fw_S → Int32 → Int32 → Int64 → Int32 → Int32 → Option (Int32 × fw_S)) (k70 : fw_S → Int32 → Int32 → Int64 → Int32 → Int32 → Int32 → Int32 → Option (Int32 × fw_S)) (t : fw_S) (x2 : Int32) (x3 : Int32) (y4 : Int64) (x6 : Int32) (x7 : Int32) (x8 : Int32) (x9 : Int32) (x10 : Int32) : Option (Int32 × fw_S) := fb_b (f_X_X10_has t y4 x10) fun v_2 t_1 => (if v_2 = 0 then b_X_X8_trace__11_4_110 k44 k70 t_1 x2 x3 y4 x6 x7 x8 x9 x10 else b_X_X8_trace__11_4_148 k44 k70 t_1 x2 x3 y4 x6 x7 x8 x9)
def b_X_X8_trace__11_4_81 (k44 : fw_S → Int32 → Int32 → Int64 → Int32 → Int32 → Option (Int32 × fw_S)) (k70 : fw_S → Int32 → Int32 → Int64 → Int32 → Int32 → Int32 → Int32 → Option (Int32 × fw_S)) (t : fw_S) (x2 : Int32) (x3 : Int32) (y4 : Int64) (x6 : Int32) (x7 : Int32) (x8 : Int32) (x9 : Int32) : Option (Int32 × fw_S) := fb_b (f_X_X0_readOf__4 t x8 x9) fun v_2 t_1 => (fb_b (f_X_X10_isCell t_1 v_2.toInt64) fun v_4 t_3 => (if v_4 = 0 then b_X_X8_trace__11_4_148 k44 k70 t_3 x2 x3 y4 x6 x7 x8 x9 else b_X_X8_trace__11_4_100 k44 k70 t_3 x2 x3 y4 x6 x7 x8 x9 v_2))
def b_X_X8_trace__11_4_70 (k44 : fw_S → Int32 → Int32 → Int64 → Int32 → Int32 → Option (Int32 × fw_S)) : Nat → (fw_S → Int32 → Int32 → Int64 → Int32 → Int32 → Int32 → Int32 → Option (Int32 × fw_S))
  | 0 => fun _ _ _ _ _ _ _ _ => none
  | n + 1 => fun t x2 x3 y4 x6 x7 x8 x9 => fb_b (f_X_X0_readCount__4 t x8) fun v_2 t_1 => (if v_2 ≤ x9 then b_X_X8_trace__11_4_154 k44 t_1 x2 x3 y4 x6 x7 else b_X_X8_trace__11_4_81 k44 (b_X_X8_trace__11_4_70 k44 n) t_1 x2 x3 y4 x6 x7 x8 x9)
def b_X_X8_trace__11_4_58 (k44 : fw_S → Int32 → Int32 → Int64 → Int32 → Int32 → Option (Int32 × fw_S)) (t : fw_S) (x2 : Int32) (x3 : Int32) (y4 : Int64) (x6 : Int32) (x7 : Int32) : Option (Int32 × fw_S) := fb_g (¬ (x7 < 0 ∨ 32 ≤ x7.toNatClampNeg)) (b_X_X8_trace__11_4_70 k44 3000 t x2 x3 y4 x6 x7 (st_F t 31 x7.toNatClampNeg) ((0 : Int32)))
def b_X_X8_trace__11_4_51 (k44 : fw_S → Int32 → Int32 → Int64 → Int32 → Int32 → Option (Int32 × fw_S)) (t : fw_S) (x2 : Int32) (x3 : Int32) (y4 : Int64) (x6 : Int32) (x7 : Int32) : Option (Int32 × fw_S) := if ((32 : Int32)) ≤ x7 then b_X_X8_trace__11_4_160 t x2 x3 y4 else b_X_X8_trace__11_4_58 k44 t x2 x3 y4 x6 x7
def b_X_X8_trace__11_4_44  : Nat → (fw_S → Int32 → Int32 → Int64 → Int32 → Int32 → Option (Int32 × fw_S))
  | 0 => fun _ _ _ _ _ _ => none
  | n + 1 => fun t x2 x3 y4 x6 x7 => if x6 ≤ x7 then b_X_X8_trace__11_4_160 t x2 x3 y4 else b_X_X8_trace__11_4_51 (b_X_X8_trace__11_4_44 n) t x2 x3 y4 x6 x7
def b_X_X8_trace__11_4_18  (t : fw_S) (x2 : Int32) (x3 : Int32) : Option (Int32 × fw_S) := fb_b (f_X_X10_bit t x3) fun v_2 t_1 => (fb_g (¬ (((0 : Int32)) < 0 ∨ 32 ≤ ((0 : Int32)).toNatClampNeg)) (fb_l (up_F t_1 31 (upd (st_F t_1 31) ((0 : Int32)).toNatClampNeg x3)) fun t_3 => (fb_g (¬ (x3 < 0 ∨ 32 ≤ x3.toNatClampNeg)) (fb_l (up_F t_3 32 (upd (st_F t_3 32) x3.toNatClampNeg x3)) fun t_4 => (b_X_X8_trace__11_4_44 3000 t_4 x2 x3 v_2 ((1 : Int32)) ((0 : Int32)))))))
def b_X_X8_trace__11_4_8  (t : fw_S) (x2 : Int32) (x3 : Int32) : Option (Int32 × fw_S) := fb_b (f_X_X10_isCell t x3.toInt64) fun v_2 t_1 => (if v_2 = 0 then b_X_X8_trace__11_4_16 t_1 else b_X_X8_trace__11_4_18 t_1 x2 x3)
def b_X_X8_trace__11_4_0  (t : fw_S) (x2 : Int32) (x3 : Int32) : Option (Int32 × fw_S) := fb_b (f_X_X10_isCell t x2.toInt64) fun v_2 t_1 => (if v_2 = 0 then b_X_X8_trace__11_4_16 t_1 else b_X_X8_trace__11_4_8 t_1 x2 x3)
def f_X_X8_trace__11_4 (t : fw_S) (x2 : Int32) (x3 : Int32) : Option (Int32 × fw_S) := b_X_X8_trace__11_4_0 t x2 x3
set_option maxRecDepth 20000 in
theorem w_X_X8_trace__11_4_16 {p : Program} {l : Launch} {e : Env} {s : State} {m : MethodId} {args : Array Value} {below : List Frame} {meth : Method} {c : Code} {A : Nat → Prop} {Q : State → Prop} {D : va_G} {ca : Nat → ClassId} {a : Nat → Nat} {u : fw_S} {r : Int32}  (C : CX (WX ca a) D (tyv ca) p s m args c A prog_10_method_2_code 11 RX8) (hr : True → RX (WX ca a) D p l e rm_X_X8_trace__11_4 s m args below meth c A prog_10_method_2_code Q .ireturn [.int r] u) {t : fw_S}  {H : Heap} {locs : List Loc} {ls : Array Slot} (hf : b_X_X8_trace__11_4_16  t  = some (r, u)) (hP : va_P D classes (WX ca a t) H) (hS : va_S A s.heap H locs) (hl : lv_has ls 11 []) : W p l e rm_X_X8_trace__11_4 s m args below meth c H locs 0 0 Q (F0 m 16 ls []) := by
  obtain ⟨hx, hb, hml, hown, hts, hN, hK, hD, hA⟩ := id C
  have hf : (some ((-1 : Int32), t)) = some (r, u) := hf
  refine lv_iconst (v := (-1)) hx hb dX8_trace_16 (by decide) ?_
  obtain ⟨e_17, e2_17⟩ := fb_e hf
  subst e_17; subst e2_17
  exact hr trivial _ _ _ _ hP hS dX8_trace_17
set_option maxRecDepth 20000 in
theorem w_X_X8_trace__11_4_179 {p : Program} {l : Launch} {e : Env} {s : State} {m : MethodId} {args : Array Value} {below : List Frame} {meth : Method} {c : Code} {A : Nat → Prop} {Q : State → Prop} {D : va_G} {ca : Nat → ClassId} {a : Nat → Nat} {u : fw_S} {r : Int32}  (C : CX (WX ca a) D (tyv ca) p s m args c A prog_10_method_2_code 11 RX8) (hr : True → RX (WX ca a) D p l e rm_X_X8_trace__11_4 s m args below meth c A prog_10_method_2_code Q .ireturn [.int r] u) {t : fw_S} {z0 : Int32} {H : Heap} {locs : List Loc} {ls : Array Slot} (hf : b_X_X8_trace__11_4_179  t z0 = some (r, u)) (hP : va_P D classes (WX ca a t) H) (hS : va_S A s.heap H locs) (hl : lv_has ls 11 []) : W p l e rm_X_X8_trace__11_4 s m args below meth c H locs 0 0 Q (F0 m 179 ls [.int z0]) := by
  obtain ⟨hx, hb, hml, hown, hts, hN, hK, hD, hA⟩ := id C
  have hf : (some (z0, t)) = some (r, u) := hf
  obtain ⟨e_179, e2_179⟩ := fb_e hf
  subst e_179; subst e2_179
  exact hr trivial _ _ _ _ hP hS dX8_trace_179
set_option maxRecDepth 20000 in
theorem w_X_X8_trace__11_4_178 {p : Program} {l : Launch} {e : Env} {s : State} {m : MethodId} {args : Array Value} {below : List Frame} {meth : Method} {c : Code} {A : Nat → Prop} {Q : State → Prop} {D : va_G} {ca : Nat → ClassId} {a : Nat → Nat} {u : fw_S} {r : Int32}  (C : CX (WX ca a) D (tyv ca) p s m args c A prog_10_method_2_code 11 RX8) (hr : True → RX (WX ca a) D p l e rm_X_X8_trace__11_4 s m args below meth c A prog_10_method_2_code Q .ireturn [.int r] u) {t : fw_S}  {H : Heap} {locs : List Loc} {ls : Array Slot} (hf : b_X_X8_trace__11_4_178  t  = some (r, u)) (hP : va_P D classes (WX ca a t) H) (hS : va_S A s.heap H locs) (hl : lv_has ls 11 []) : W p l e rm_X_X8_trace__11_4 s m args below meth c H locs 0 0 Q (F0 m 178 ls []) := by
  obtain ⟨hx, hb, hml, hown, hts, hN, hK, hD, hA⟩ := id C
  have hf : (b_X_X8_trace__11_4_179 t ((-1 : Int32))) = some (r, u) := hf
  refine lv_iconst (v := (-1)) hx hb dX8_trace_178 (by decide) ?_
  exact w_X_X8_trace__11_4_179 C hr hf hP hS (lv_sub hl [] rfl)
set_option maxRecDepth 20000 in
theorem w_X_X8_trace__11_4_169 {p : Program} {l : Launch} {e : Env} {s : State} {m : MethodId} {args : Array Value} {below : List Frame} {meth : Method} {c : Code} {A : Nat → Prop} {Q : State → Prop} {D : va_G} {ca : Nat → ClassId} {a : Nat → Nat} {u : fw_S} {r : Int32}  (C : CX (WX ca a) D (tyv ca) p s m args c A prog_10_method_2_code 11 RX8) (hr : True → RX (WX ca a) D p l e rm_X_X8_trace__11_4 s m args below meth c A prog_10_method_2_code Q .ireturn [.int r] u) {t : fw_S} {x2 : Int32} {x3 : Int32} {H : Heap} {locs : List Loc} {ls : Array Slot} (hf : b_X_X8_trace__11_4_169  t x2 x3 = some (r, u)) (hP : va_P D classes (WX ca a t) H) (hS : va_S A s.heap H locs) (hl : lv_has ls 11 [(0, .ref (a 11)), (2, .int x2), (3, .int x3)]) : W p l e rm_X_X8_trace__11_4 s m args below meth c H locs 0 0 Q (F0 m 169 ls []) := by
  obtain ⟨hx, hb, hml, hown, hts, hN, hK, hD, hA⟩ := id C
  have hf : (fb_b (f_X_X8_stepsTo__11 t x2 x3) fun v_2 t_1 => (b_X_X8_trace__11_4_179 t_1 v_2)) = some (r, u) := hf
  refine lv_aload_n hx hb dX8_trace_169 rfl (lv_at hl 0 rfl) ?_
  refine lv_iload_n hx hb dX8_trace_170 rfl (lv_at hl 1 rfl) ?_
  refine lv_iload_n hx hb dX8_trace_171 rfl (lv_at hl 2 rfl) ?_
  obtain ⟨v_2, t_1, g_172, hf⟩ := fb_bs hf
  refine fw_V1 (As := [.int x2, .int x3]) (rest := []) (n := 2) (q0 := 11) C (c_X_X8_stepsTo__11 (l := l) (D := D) (ca := ca) (a := a) g_172) kw_934 kw_936 kw_101 kw_937 kw_33 hP hS hl (heX_11 ca a t) rfl rfl rfl (by decide) (by decide +kernel) ⟨Nat.le_of_ble_eq_true rfl, Nat.le_of_ble_eq_true rfl⟩ rfl rfl (Nat.le_of_ble_eq_true rfl) dX8_trace_172 (fun H locs hP hS => ?_)
  refine W.eq (g2 := F0 m 175 ls [.int v_2]) rfl ?_
  refine lv_goto (tgt := 179) hx hb dX8_trace_175 (by decide) ?_
  exact w_X_X8_trace__11_4_179 C hr hf hP hS (lv_sub hl [] rfl)
set_option maxRecDepth 20000 in
theorem w_X_X8_trace__11_4_160 {p : Program} {l : Launch} {e : Env} {s : State} {m : MethodId} {args : Array Value} {below : List Frame} {meth : Method} {c : Code} {A : Nat → Prop} {Q : State → Prop} {D : va_G} {ca : Nat → ClassId} {a : Nat → Nat} {u : fw_S} {r : Int32}  (C : CX (WX ca a) D (tyv ca) p s m args c A prog_10_method_2_code 11 RX8) (hr : True → RX (WX ca a) D p l e rm_X_X8_trace__11_4 s m args below meth c A prog_10_method_2_code Q .ireturn [.int r] u) {t : fw_S} {x2 : Int32} {x3 : Int32} {y4 : Int64} {H : Heap} {locs : List Loc} {ls : Array Slot} (hf : b_X_X8_trace__11_4_160  t x2 x3 y4 = some (r, u)) (hP : va_P D classes (WX ca a t) H) (hS : va_S A s.heap H locs) (hl : lv_has ls 11 [(0, .ref (a 11)), (2, .int x2), (3, .int x3), (4, .long y4)]) : W p l e rm_X_X8_trace__11_4 s m args below meth c H locs 0 0 Q (F0 m 160 ls []) := by
  obtain ⟨hx, hb, hml, hown, hts, hN, hK, hD, hA⟩ := id C
  have hf : (fb_b (f_X_X10_has t y4 x2) fun v_2 t_1 => (if v_2 = 0 then b_X_X8_trace__11_4_178 t_1 else b_X_X8_trace__11_4_169 t_1 x2 x3)) = some (r, u) := hf
  refine lv_lload hx hb dX8_trace_160 (lv_at hl 3 rfl) ?_
  refine lv_iload_n hx hb dX8_trace_162 rfl (lv_at hl 1 rfl) ?_
  obtain ⟨v_2, t_1, g_163, hf⟩ := fb_bs hf
  refine fw_S2 (As := [.long y4, .int x2]) (rest := []) (n := 2) C (c_X_X10_has (l := l) (D := D) (ca := ca) (a := a) g_163) kw_933 kw_442 kw_92 kw_443 hP hS hl rfl rfl (by decide) (by decide +kernel) ⟨Nat.le_of_ble_eq_true rfl, Nat.le_of_ble_eq_true rfl⟩ rfl rfl (Nat.le_of_ble_eq_true rfl) dX8_trace_163 (fun H locs hP hS => ?_)
  refine W.eq (g2 := F0 m 166 ls [.int v_2]) rfl ?_
  refine lv_if_eq (tgt := 178) hx hb dX8_trace_166 (by decide) (fun h_166 => ?_) (fun h_166 => ?_)
  · have hf := fb_t h_166 hf
    exact w_X_X8_trace__11_4_178 C hr hf hP hS (lv_sub hl [] rfl)
  · have hf := fb_f h_166 hf
    exact w_X_X8_trace__11_4_169 C hr hf hP hS (lv_sub hl [0, 1, 2] rfl)
set_option maxRecDepth 20000 in
theorem w_X_X8_trace__11_4_154 {p : Program} {l : Launch} {e : Env} {s : State} {m : MethodId} {args : Array Value} {below : List Frame} {meth : Method} {c : Code} {A : Nat → Prop} {Q : State → Prop} {D : va_G} {ca : Nat → ClassId} {a : Nat → Nat} {u : fw_S} {r : Int32} {k44 : fw_S → Int32 → Int32 → Int64 → Int32 → Int32 → Option (Int32 × fw_S)} (C : CX (WX ca a) D (tyv ca) p s m args c A prog_10_method_2_code 11 RX8) (hr : True → RX (WX ca a) D p l e rm_X_X8_trace__11_4 s m args below meth c A prog_10_method_2_code Q .ireturn [.int r] u) (hk44 : ∀ (t : fw_S) (x2 : Int32) (x3 : Int32) (y4 : Int64) (x6 : Int32) (x7 : Int32) (H : Heap) (locs : List Loc) (ls : Array Slot), k44 t x2 x3 y4 x6 x7 = some (r, u) → va_P D classes (WX ca a t) H → va_S A s.heap H locs → lv_has ls 11 [(0, .ref (a 11)), (1, .ref (a 4)), (2, .int x2), (3, .int x3), (4, .long y4), (6, .int x6), (7, .int x7)] → W p l e rm_X_X8_trace__11_4 s m args below meth c H locs 0 0 Q (F0 m 44 ls [])) {t : fw_S} {x2 : Int32} {x3 : Int32} {y4 : Int64} {x6 : Int32} {x7 : Int32} {H : Heap} {locs : List Loc} {ls : Array Slot} (hf : b_X_X8_trace__11_4_154 k44 t x2 x3 y4 x6 x7 = some (r, u)) (hP : va_P D classes (WX ca a t) H) (hS : va_S A s.heap H locs) (hl : lv_has ls 11 [(0, .ref (a 11)), (1, .ref (a 4)), (2, .int x2), (3, .int x3), (4, .long y4), (6, .int x6), (7, .int x7)]) : W p l e rm_X_X8_trace__11_4 s m args below meth c H locs 0 0 Q (F0 m 154 ls []) := by
  obtain ⟨hx, hb, hml, hown, hts, hN, hK, hD, hA⟩ := id C
  have hf : (k44 t x2 x3 y4 x6 (x7 + 1)) = some (r, u) := hf
  refine lv_iinc (v := x7 + 1) (lv' := [(7, .int (x7 + 1)), (0, .ref (a 11)), (1, .ref (a 4)), (2, .int x2), (3, .int x3), (4, .long y4), (6, .int x6)]) hx hb dX8_trace_154 hl (k := 6) rfl rfl (by decide) rfl (fun ls hl => ?_)
  refine lv_goto (tgt := 44) hx hb dX8_trace_157 (by decide) ?_
  exact hk44 t x2 x3 y4 x6 (x7 + 1) _ _ _ hf hP hS (lv_sub hl [1, 2, 3, 4, 5, 6, 0] rfl)
set_option maxRecDepth 20000 in
theorem w_X_X8_trace__11_4_148 {p : Program} {l : Launch} {e : Env} {s : State} {m : MethodId} {args : Array Value} {below : List Frame} {meth : Method} {c : Code} {A : Nat → Prop} {Q : State → Prop} {D : va_G} {ca : Nat → ClassId} {a : Nat → Nat} {u : fw_S} {r : Int32} {k44 : fw_S → Int32 → Int32 → Int64 → Int32 → Int32 → Option (Int32 × fw_S)} {k70 : fw_S → Int32 → Int32 → Int64 → Int32 → Int32 → Int32 → Int32 → Option (Int32 × fw_S)} (C : CX (WX ca a) D (tyv ca) p s m args c A prog_10_method_2_code 11 RX8) (hr : True → RX (WX ca a) D p l e rm_X_X8_trace__11_4 s m args below meth c A prog_10_method_2_code Q .ireturn [.int r] u) (hk44 : ∀ (t : fw_S) (x2 : Int32) (x3 : Int32) (y4 : Int64) (x6 : Int32) (x7 : Int32) (H : Heap) (locs : List Loc) (ls : Array Slot), k44 t x2 x3 y4 x6 x7 = some (r, u) → va_P D classes (WX ca a t) H → va_S A s.heap H locs → lv_has ls 11 [(0, .ref (a 11)), (1, .ref (a 4)), (2, .int x2), (3, .int x3), (4, .long y4), (6, .int x6), (7, .int x7)] → W p l e rm_X_X8_trace__11_4 s m args below meth c H locs 0 0 Q (F0 m 44 ls [])) (hk70 : ∀ (t : fw_S) (x2 : Int32) (x3 : Int32) (y4 : Int64) (x6 : Int32) (x7 : Int32) (x8 : Int32) (x9 : Int32) (H : Heap) (locs : List Loc) (ls : Array Slot), k70 t x2 x3 y4 x6 x7 x8 x9 = some (r, u) → va_P D classes (WX ca a t) H → va_S A s.heap H locs → lv_has ls 11 [(0, .ref (a 11)), (1, .ref (a 4)), (2, .int x2), (3, .int x3), (4, .long y4), (6, .int x6), (7, .int x7), (8, .int x8), (9, .int x9)] → W p l e rm_X_X8_trace__11_4 s m args below meth c H locs 0 0 Q (F0 m 70 ls [])) {t : fw_S} {x2 : Int32} {x3 : Int32} {y4 : Int64} {x6 : Int32} {x7 : Int32} {x8 : Int32} {x9 : Int32} {H : Heap} {locs : List Loc} {ls : Array Slot} (hf : b_X_X8_trace__11_4_148 k44 k70 t x2 x3 y4 x6 x7 x8 x9 = some (r, u)) (hP : va_P D classes (WX ca a t) H) (hS : va_S A s.heap H locs) (hl : lv_has ls 11 [(0, .ref (a 11)), (1, .ref (a 4)), (2, .int x2), (3, .int x3), (4, .long y4), (6, .int x6), (7, .int x7), (8, .int x8), (9, .int x9)]) : W p l e rm_X_X8_trace__11_4 s m args below meth c H locs 0 0 Q (F0 m 148 ls []) := by
  obtain ⟨hx, hb, hml, hown, hts, hN, hK, hD, hA⟩ := id C
  have hf : (k70 t x2 x3 y4 x6 x7 x8 (x9 + 1)) = some (r, u) := hf
  refine lv_iinc (v := x9 + 1) (lv' := [(9, .int (x9 + 1)), (0, .ref (a 11)), (1, .ref (a 4)), (2, .int x2), (3, .int x3), (4, .long y4), (6, .int x6), (7, .int x7), (8, .int x8)]) hx hb dX8_trace_148 hl (k := 8) rfl rfl (by decide) rfl (fun ls hl => ?_)
  refine lv_goto (tgt := 70) hx hb dX8_trace_151 (by decide) ?_
  exact hk70 t x2 x3 y4 x6 x7 x8 (x9 + 1) _ _ _ hf hP hS (lv_sub hl [1, 2, 3, 4, 5, 6, 7, 8, 0] rfl)
set_option maxRecDepth 20000 in
theorem w_X_X8_trace__11_4_117 {p : Program} {l : Launch} {e : Env} {s : State} {m : MethodId} {args : Array Value} {below : List Frame} {meth : Method} {c : Code} {A : Nat → Prop} {Q : State → Prop} {D : va_G} {ca : Nat → ClassId} {a : Nat → Nat} {u : fw_S} {r : Int32} {k44 : fw_S → Int32 → Int32 → Int64 → Int32 → Int32 → Option (Int32 × fw_S)} {k70 : fw_S → Int32 → Int32 → Int64 → Int32 → Int32 → Int32 → Int32 → Option (Int32 × fw_S)} (C : CX (WX ca a) D (tyv ca) p s m args c A prog_10_method_2_code 11 RX8) (hr : True → RX (WX ca a) D p l e rm_X_X8_trace__11_4 s m args below meth c A prog_10_method_2_code Q .ireturn [.int r] u) (hk44 : ∀ (t : fw_S) (x2 : Int32) (x3 : Int32) (y4 : Int64) (x6 : Int32) (x7 : Int32) (H : Heap) (locs : List Loc) (ls : Array Slot), k44 t x2 x3 y4 x6 x7 = some (r, u) → va_P D classes (WX ca a t) H → va_S A s.heap H locs → lv_has ls 11 [(0, .ref (a 11)), (1, .ref (a 4)), (2, .int x2), (3, .int x3), (4, .long y4), (6, .int x6), (7, .int x7)] → W p l e rm_X_X8_trace__11_4 s m args below meth c H locs 0 0 Q (F0 m 44 ls [])) (hk70 : ∀ (t : fw_S) (x2 : Int32) (x3 : Int32) (y4 : Int64) (x6 : Int32) (x7 : Int32) (x8 : Int32) (x9 : Int32) (H : Heap) (locs : List Loc) (ls : Array Slot), k70 t x2 x3 y4 x6 x7 x8 x9 = some (r, u) → va_P D classes (WX ca a t) H → va_S A s.heap H locs → lv_has ls 11 [(0, .ref (a 11)), (1, .ref (a 4)), (2, .int x2), (3, .int x3), (4, .long y4), (6, .int x6), (7, .int x7), (8, .int x8), (9, .int x9)] → W p l e rm_X_X8_trace__11_4 s m args below meth c H locs 0 0 Q (F0 m 70 ls [])) {t : fw_S} {x2 : Int32} {x3 : Int32} {y4 : Int64} {x6 : Int32} {x7 : Int32} {x8 : Int32} {x9 : Int32} {x10 : Int32} {H : Heap} {locs : List Loc} {ls : Array Slot} (hf : b_X_X8_trace__11_4_117 k44 k70 t x2 x3 y4 x6 x7 x8 x9 x10 = some (r, u)) (hP : va_P D classes (WX ca a t) H) (hS : va_S A s.heap H locs) (hl : lv_has ls 11 [(0, .ref (a 11)), (1, .ref (a 4)), (2, .int x2), (3, .int x3), (4, .long y4), (6, .int x6), (7, .int x7), (8, .int x8), (9, .int x9), (10, .int x10)]) : W p l e rm_X_X8_trace__11_4 s m args below meth c H locs 0 0 Q (F0 m 117 ls []) := by
  obtain ⟨hx, hb, hml, hown, hts, hN, hK, hD, hA⟩ := id C
  have hf : (fb_b (f_X_X10_bit t x10) fun v_2 t_1 => (fb_g (¬ (x10 < 0 ∨ 32 ≤ x10.toNatClampNeg)) (fb_l (up_F t_1 32 (upd (st_F t_1 32) x10.toNatClampNeg x8)) fun t_3 => (fb_g (¬ (x6 < 0 ∨ 32 ≤ x6.toNatClampNeg)) (fb_l (up_F t_3 31 (upd (st_F t_3 31) x6.toNatClampNeg x10)) fun t_4 => (b_X_X8_trace__11_4_148 k44 k70 t_4 x2 x3 (y4 ||| v_2) (x6 + 1) x7 x8 x9)))))) = some (r, u) := hf
  refine lv_lload hx hb dX8_trace_117 (lv_at hl 4 rfl) ?_
  refine lv_iload hx hb dX8_trace_119 (lv_at hl 9 rfl) ?_
  obtain ⟨v_2, t_1, g_121, hf⟩ := fb_bs hf
  refine fw_S2 (As := [.int x10]) (rest := [.long y4]) (n := 1) C (c_X_X10_bit (l := l) (D := D) (ca := ca) (a := a) g_121) kw_930 kw_408 kw_92 kw_409 hP hS hl rfl rfl (by decide) (by decide +kernel) ⟨Nat.le_of_ble_eq_true rfl, Nat.le_of_ble_eq_true rfl⟩ rfl rfl (Nat.le_of_ble_eq_true rfl) dX8_trace_121 (fun H locs hP hS => ?_)
  refine W.eq (g2 := F0 m 124 ls [.long v_2, .long y4]) rfl ?_
  refine lv_lor hx hb dX8_trace_124 ?_
  refine lv_lstore (lv' := [(4, .long (y4 ||| v_2)), (0, .ref (a 11)), (1, .ref (a 4)), (2, .int x2), (3, .int x3), (6, .int x6), (7, .int x7), (8, .int x8), (9, .int x9), (10, .int x10)]) hx hb dX8_trace_125 hl (by decide) rfl (fun ls hl => ?_)
  refine lv_aload_n hx hb dX8_trace_127 rfl (lv_at hl 1 rfl) ?_
  refine va_get (D := D) (ci := 8) (v := .ref (a 61)) (C := RX8) (T := TX8) (N := 2) hx hb hts inX8 hown hK hP 11 (heX_11 ca a t_1) rfl 1 (by decide) (hts _ kw_346) (fun _ h9 => h9) rfl dX8_trace_128 ?_
  refine lv_iload hx hb dX8_trace_131 (lv_at hl 9 rfl) ?_
  refine lv_iload hx hb dX8_trace_133 (lv_at hl 7 rfl) ?_
  obtain ⟨h_135, hf⟩ := fb_if hf
  refine va_iast hx hb hK hP (hD t_1) hS 61 0 (haX_61 ca a t_1) rfl h_135 dX8_trace_135 (fun H locs hP _ hS => ?_)
  rw [saX_61] at hP
  obtain ⟨t_3, e_135, hf⟩ := fb_ls hf
  rw [← e_135] at hP
  refine lv_aload_n hx hb dX8_trace_136 rfl (lv_at hl 1 rfl) ?_
  refine va_get (D := D) (ci := 8) (v := .ref (a 60)) (C := RX8) (T := TX8) (N := 2) hx hb hts inX8 hown hK hP 11 (heX_11 ca a t_3) rfl 0 (by decide) (hts _ kw_345) (fun _ h9 => h9) rfl dX8_trace_137 ?_
  refine lv_iload hx hb dX8_trace_140 (lv_at hl 5 rfl) ?_
  refine lv_iload hx hb dX8_trace_142 (lv_at hl 9 rfl) ?_
  obtain ⟨h_144, hf⟩ := fb_if hf
  refine va_iast hx hb hK hP (hD t_3) hS 60 0 (haX_60 ca a t_3) rfl h_144 dX8_trace_144 (fun H locs hP _ hS => ?_)
  rw [saX_60] at hP
  obtain ⟨t_4, e_144, hf⟩ := fb_ls hf
  rw [← e_144] at hP
  refine lv_iinc (v := x6 + 1) (lv' := [(6, .int (x6 + 1)), (4, .long (y4 ||| v_2)), (0, .ref (a 11)), (1, .ref (a 4)), (2, .int x2), (3, .int x3), (7, .int x7), (8, .int x8), (9, .int x9), (10, .int x10)]) hx hb dX8_trace_145 hl (k := 5) rfl rfl (by decide) rfl (fun ls hl => ?_)
  exact w_X_X8_trace__11_4_148 C hr hk44 hk70 hf hP hS (lv_sub hl [2, 3, 4, 5, 1, 0, 6, 7, 8] rfl)
set_option maxRecDepth 20000 in
theorem w_X_X8_trace__11_4_110 {p : Program} {l : Launch} {e : Env} {s : State} {m : MethodId} {args : Array Value} {below : List Frame} {meth : Method} {c : Code} {A : Nat → Prop} {Q : State → Prop} {D : va_G} {ca : Nat → ClassId} {a : Nat → Nat} {u : fw_S} {r : Int32} {k44 : fw_S → Int32 → Int32 → Int64 → Int32 → Int32 → Option (Int32 × fw_S)} {k70 : fw_S → Int32 → Int32 → Int64 → Int32 → Int32 → Int32 → Int32 → Option (Int32 × fw_S)} (C : CX (WX ca a) D (tyv ca) p s m args c A prog_10_method_2_code 11 RX8) (hr : True → RX (WX ca a) D p l e rm_X_X8_trace__11_4 s m args below meth c A prog_10_method_2_code Q .ireturn [.int r] u) (hk44 : ∀ (t : fw_S) (x2 : Int32) (x3 : Int32) (y4 : Int64) (x6 : Int32) (x7 : Int32) (H : Heap) (locs : List Loc) (ls : Array Slot), k44 t x2 x3 y4 x6 x7 = some (r, u) → va_P D classes (WX ca a t) H → va_S A s.heap H locs → lv_has ls 11 [(0, .ref (a 11)), (1, .ref (a 4)), (2, .int x2), (3, .int x3), (4, .long y4), (6, .int x6), (7, .int x7)] → W p l e rm_X_X8_trace__11_4 s m args below meth c H locs 0 0 Q (F0 m 44 ls [])) (hk70 : ∀ (t : fw_S) (x2 : Int32) (x3 : Int32) (y4 : Int64) (x6 : Int32) (x7 : Int32) (x8 : Int32) (x9 : Int32) (H : Heap) (locs : List Loc) (ls : Array Slot), k70 t x2 x3 y4 x6 x7 x8 x9 = some (r, u) → va_P D classes (WX ca a t) H → va_S A s.heap H locs → lv_has ls 11 [(0, .ref (a 11)), (1, .ref (a 4)), (2, .int x2), (3, .int x3), (4, .long y4), (6, .int x6), (7, .int x7), (8, .int x8), (9, .int x9)] → W p l e rm_X_X8_trace__11_4 s m args below meth c H locs 0 0 Q (F0 m 70 ls [])) {t : fw_S} {x2 : Int32} {x3 : Int32} {y4 : Int64} {x6 : Int32} {x7 : Int32} {x8 : Int32} {x9 : Int32} {x10 : Int32} {H : Heap} {locs : List Loc} {ls : Array Slot} (hf : b_X_X8_trace__11_4_110 k44 k70 t x2 x3 y4 x6 x7 x8 x9 x10 = some (r, u)) (hP : va_P D classes (WX ca a t) H) (hS : va_S A s.heap H locs) (hl : lv_has ls 11 [(0, .ref (a 11)), (1, .ref (a 4)), (2, .int x2), (3, .int x3), (4, .long y4), (6, .int x6), (7, .int x7), (8, .int x8), (9, .int x9), (10, .int x10)]) : W p l e rm_X_X8_trace__11_4 s m args below meth c H locs 0 0 Q (F0 m 110 ls []) := by
  obtain ⟨hx, hb, hml, hown, hts, hN, hK, hD, hA⟩ := id C
  have hf : (if ((32 : Int32)) ≤ x6 then b_X_X8_trace__11_4_148 k44 k70 t x2 x3 y4 x6 x7 x8 x9 else b_X_X8_trace__11_4_117 k44 k70 t x2 x3 y4 x6 x7 x8 x9 x10) = some (r, u) := hf
  refine lv_iload hx hb dX8_trace_110 (lv_at hl 5 rfl) ?_
  refine lv_bipush (v := 32) hx hb dX8_trace_112 (by decide) ?_
  refine lv_icmp_ge (tgt := 148) hx hb dX8_trace_114 (by decide) (fun h_114 => ?_) (fun h_114 => ?_)
  · have hf := fb_t h_114 hf
    exact w_X_X8_trace__11_4_148 C hr hk44 hk70 hf hP hS (lv_sub hl [0, 1, 2, 3, 4, 5, 6, 7, 8] rfl)
  · have hf := fb_f h_114 hf
    exact w_X_X8_trace__11_4_117 C hr hk44 hk70 hf hP hS (lv_sub hl [0, 1, 2, 3, 4, 5, 6, 7, 8, 9] rfl)
set_option maxRecDepth 20000 in
theorem w_X_X8_trace__11_4_100 {p : Program} {l : Launch} {e : Env} {s : State} {m : MethodId} {args : Array Value} {below : List Frame} {meth : Method} {c : Code} {A : Nat → Prop} {Q : State → Prop} {D : va_G} {ca : Nat → ClassId} {a : Nat → Nat} {u : fw_S} {r : Int32} {k44 : fw_S → Int32 → Int32 → Int64 → Int32 → Int32 → Option (Int32 × fw_S)} {k70 : fw_S → Int32 → Int32 → Int64 → Int32 → Int32 → Int32 → Int32 → Option (Int32 × fw_S)} (C : CX (WX ca a) D (tyv ca) p s m args c A prog_10_method_2_code 11 RX8) (hr : True → RX (WX ca a) D p l e rm_X_X8_trace__11_4 s m args below meth c A prog_10_method_2_code Q .ireturn [.int r] u) (hk44 : ∀ (t : fw_S) (x2 : Int32) (x3 : Int32) (y4 : Int64) (x6 : Int32) (x7 : Int32) (H : Heap) (locs : List Loc) (ls : Array Slot), k44 t x2 x3 y4 x6 x7 = some (r, u) → va_P D classes (WX ca a t) H → va_S A s.heap H locs → lv_has ls 11 [(0, .ref (a 11)), (1, .ref (a 4)), (2, .int x2), (3, .int x3), (4, .long y4), (6, .int x6), (7, .int x7)] → W p l e rm_X_X8_trace__11_4 s m args below meth c H locs 0 0 Q (F0 m 44 ls [])) (hk70 : ∀ (t : fw_S) (x2 : Int32) (x3 : Int32) (y4 : Int64) (x6 : Int32) (x7 : Int32) (x8 : Int32) (x9 : Int32) (H : Heap) (locs : List Loc) (ls : Array Slot), k70 t x2 x3 y4 x6 x7 x8 x9 = some (r, u) → va_P D classes (WX ca a t) H → va_S A s.heap H locs → lv_has ls 11 [(0, .ref (a 11)), (1, .ref (a 4)), (2, .int x2), (3, .int x3), (4, .long y4), (6, .int x6), (7, .int x7), (8, .int x8), (9, .int x9)] → W p l e rm_X_X8_trace__11_4 s m args below meth c H locs 0 0 Q (F0 m 70 ls [])) {t : fw_S} {x2 : Int32} {x3 : Int32} {y4 : Int64} {x6 : Int32} {x7 : Int32} {x8 : Int32} {x9 : Int32} {x10 : Int32} {H : Heap} {locs : List Loc} {ls : Array Slot} (hf : b_X_X8_trace__11_4_100 k44 k70 t x2 x3 y4 x6 x7 x8 x9 x10 = some (r, u)) (hP : va_P D classes (WX ca a t) H) (hS : va_S A s.heap H locs) (hl : lv_has ls 11 [(0, .ref (a 11)), (1, .ref (a 4)), (2, .int x2), (3, .int x3), (4, .long y4), (6, .int x6), (7, .int x7), (8, .int x8), (9, .int x9), (10, .int x10)]) : W p l e rm_X_X8_trace__11_4 s m args below meth c H locs 0 0 Q (F0 m 100 ls []) := by
  obtain ⟨hx, hb, hml, hown, hts, hN, hK, hD, hA⟩ := id C
  have hf : (fb_b (f_X_X10_has t y4 x10) fun v_2 t_1 => (if v_2 = 0 then b_X_X8_trace__11_4_110 k44 k70 t_1 x2 x3 y4 x6 x7 x8 x9 x10 else b_X_X8_trace__11_4_148 k44 k70 t_1 x2 x3 y4 x6 x7 x8 x9)) = some (r, u) := hf
  refine lv_lload hx hb dX8_trace_100 (lv_at hl 4 rfl) ?_
  refine lv_iload hx hb dX8_trace_102 (lv_at hl 9 rfl) ?_
  obtain ⟨v_2, t_1, g_104, hf⟩ := fb_bs hf
  refine fw_S2 (As := [.long y4, .int x10]) (rest := []) (n := 2) C (c_X_X10_has (l := l) (D := D) (ca := ca) (a := a) g_104) kw_933 kw_442 kw_92 kw_443 hP hS hl rfl rfl (by decide) (by decide +kernel) ⟨Nat.le_of_ble_eq_true rfl, Nat.le_of_ble_eq_true rfl⟩ rfl rfl (Nat.le_of_ble_eq_true rfl) dX8_trace_104 (fun H locs hP hS => ?_)
  refine W.eq (g2 := F0 m 107 ls [.int v_2]) rfl ?_
  refine lv_if_ne (tgt := 148) hx hb dX8_trace_107 (by decide) (fun h_107 => ?_) (fun h_107 => ?_)
  · have hf := fb_f h_107 hf
    exact w_X_X8_trace__11_4_148 C hr hk44 hk70 hf hP hS (lv_sub hl [0, 1, 2, 3, 4, 5, 6, 7, 8] rfl)
  · have hf := fb_t h_107 hf
    exact w_X_X8_trace__11_4_110 C hr hk44 hk70 hf hP hS (lv_sub hl [0, 1, 2, 3, 4, 5, 6, 7, 8, 9] rfl)
set_option maxRecDepth 20000 in
theorem w_X_X8_trace__11_4_81 {p : Program} {l : Launch} {e : Env} {s : State} {m : MethodId} {args : Array Value} {below : List Frame} {meth : Method} {c : Code} {A : Nat → Prop} {Q : State → Prop} {D : va_G} {ca : Nat → ClassId} {a : Nat → Nat} {u : fw_S} {r : Int32} {k44 : fw_S → Int32 → Int32 → Int64 → Int32 → Int32 → Option (Int32 × fw_S)} {k70 : fw_S → Int32 → Int32 → Int64 → Int32 → Int32 → Int32 → Int32 → Option (Int32 × fw_S)} (C : CX (WX ca a) D (tyv ca) p s m args c A prog_10_method_2_code 11 RX8) (hr : True → RX (WX ca a) D p l e rm_X_X8_trace__11_4 s m args below meth c A prog_10_method_2_code Q .ireturn [.int r] u) (hk44 : ∀ (t : fw_S) (x2 : Int32) (x3 : Int32) (y4 : Int64) (x6 : Int32) (x7 : Int32) (H : Heap) (locs : List Loc) (ls : Array Slot), k44 t x2 x3 y4 x6 x7 = some (r, u) → va_P D classes (WX ca a t) H → va_S A s.heap H locs → lv_has ls 11 [(0, .ref (a 11)), (1, .ref (a 4)), (2, .int x2), (3, .int x3), (4, .long y4), (6, .int x6), (7, .int x7)] → W p l e rm_X_X8_trace__11_4 s m args below meth c H locs 0 0 Q (F0 m 44 ls [])) (hk70 : ∀ (t : fw_S) (x2 : Int32) (x3 : Int32) (y4 : Int64) (x6 : Int32) (x7 : Int32) (x8 : Int32) (x9 : Int32) (H : Heap) (locs : List Loc) (ls : Array Slot), k70 t x2 x3 y4 x6 x7 x8 x9 = some (r, u) → va_P D classes (WX ca a t) H → va_S A s.heap H locs → lv_has ls 11 [(0, .ref (a 11)), (1, .ref (a 4)), (2, .int x2), (3, .int x3), (4, .long y4), (6, .int x6), (7, .int x7), (8, .int x8), (9, .int x9)] → W p l e rm_X_X8_trace__11_4 s m args below meth c H locs 0 0 Q (F0 m 70 ls [])) {t : fw_S} {x2 : Int32} {x3 : Int32} {y4 : Int64} {x6 : Int32} {x7 : Int32} {x8 : Int32} {x9 : Int32} {H : Heap} {locs : List Loc} {ls : Array Slot} (hf : b_X_X8_trace__11_4_81 k44 k70 t x2 x3 y4 x6 x7 x8 x9 = some (r, u)) (hP : va_P D classes (WX ca a t) H) (hS : va_S A s.heap H locs) (hl : lv_has ls 11 [(0, .ref (a 11)), (1, .ref (a 4)), (2, .int x2), (3, .int x3), (4, .long y4), (6, .int x6), (7, .int x7), (8, .int x8), (9, .int x9)]) : W p l e rm_X_X8_trace__11_4 s m args below meth c H locs 0 0 Q (F0 m 81 ls []) := by
  obtain ⟨hx, hb, hml, hown, hts, hN, hK, hD, hA⟩ := id C
  have hf : (fb_b (f_X_X0_readOf__4 t x8 x9) fun v_2 t_1 => (fb_b (f_X_X10_isCell t_1 v_2.toInt64) fun v_4 t_3 => (if v_4 = 0 then b_X_X8_trace__11_4_148 k44 k70 t_3 x2 x3 y4 x6 x7 x8 x9 else b_X_X8_trace__11_4_100 k44 k70 t_3 x2 x3 y4 x6 x7 x8 x9 v_2))) = some (r, u) := hf
  refine lv_aload_n hx hb dX8_trace_81 rfl (lv_at hl 1 rfl) ?_
  refine lv_iload hx hb dX8_trace_82 (lv_at hl 7 rfl) ?_
  refine lv_iload hx hb dX8_trace_84 (lv_at hl 8 rfl) ?_
  obtain ⟨v_2, t_1, g_86, hf⟩ := fb_bs hf
  refine fw_V1 (As := [.int x8, .int x9]) (rest := []) (n := 2) (q0 := 4) C (c_X_X0_readOf__4 (l := l) (D := D) (ca := ca) (a := a) g_86) kw_932 kw_473 kw_96 kw_475 kw_474 hP hS hl (heX_4 ca a t) rfl rfl rfl (by decide) (by decide +kernel) ⟨Nat.le_of_ble_eq_true rfl, Nat.le_of_ble_eq_true rfl⟩ rfl rfl (Nat.le_of_ble_eq_true rfl) dX8_trace_86 (fun H locs hP hS => ?_)
  refine W.eq (g2 := F0 m 89 ls [.int v_2]) rfl ?_
  refine lv_istore (lv' := [(10, .int v_2), (0, .ref (a 11)), (1, .ref (a 4)), (2, .int x2), (3, .int x3), (4, .long y4), (6, .int x6), (7, .int x7), (8, .int x8), (9, .int x9)]) hx hb dX8_trace_89 hl (by decide) rfl (fun ls hl => ?_)
  refine lv_iload hx hb dX8_trace_91 (lv_at hl 0 rfl) ?_
  refine lv_i2l hx hb dX8_trace_93 rfl ?_
  obtain ⟨v_4, t_3, g_94, hf⟩ := fb_bs hf
  refine fw_S2 (As := [.long v_2.toInt64]) (rest := []) (n := 1) C (c_X_X10_isCell (l := l) (D := D) (ca := ca) (a := a) g_94) kw_929 kw_399 kw_92 kw_400 hP hS hl rfl rfl (by decide) (by decide +kernel) ⟨Nat.le_of_ble_eq_true rfl, Nat.le_of_ble_eq_true rfl⟩ rfl rfl (Nat.le_of_ble_eq_true rfl) dX8_trace_94 (fun H locs hP hS => ?_)
  refine W.eq (g2 := F0 m 97 ls [.int v_4]) rfl ?_
  refine lv_if_eq (tgt := 148) hx hb dX8_trace_97 (by decide) (fun h_97 => ?_) (fun h_97 => ?_)
  · have hf := fb_t h_97 hf
    exact w_X_X8_trace__11_4_148 C hr hk44 hk70 hf hP hS (lv_sub hl [1, 2, 3, 4, 5, 6, 7, 8, 9] rfl)
  · have hf := fb_f h_97 hf
    exact w_X_X8_trace__11_4_100 C hr hk44 hk70 hf hP hS (lv_sub hl [1, 2, 3, 4, 5, 6, 7, 8, 9, 0] rfl)
set_option maxRecDepth 20000 in
theorem w_X_X8_trace__11_4_70 {p : Program} {l : Launch} {e : Env} {s : State} {m : MethodId} {args : Array Value} {below : List Frame} {meth : Method} {c : Code} {A : Nat → Prop} {Q : State → Prop} {D : va_G} {ca : Nat → ClassId} {a : Nat → Nat} {u : fw_S} {r : Int32} {k44 : fw_S → Int32 → Int32 → Int64 → Int32 → Int32 → Option (Int32 × fw_S)} (C : CX (WX ca a) D (tyv ca) p s m args c A prog_10_method_2_code 11 RX8) (hr : True → RX (WX ca a) D p l e rm_X_X8_trace__11_4 s m args below meth c A prog_10_method_2_code Q .ireturn [.int r] u) (hk44 : ∀ (t : fw_S) (x2 : Int32) (x3 : Int32) (y4 : Int64) (x6 : Int32) (x7 : Int32) (H : Heap) (locs : List Loc) (ls : Array Slot), k44 t x2 x3 y4 x6 x7 = some (r, u) → va_P D classes (WX ca a t) H → va_S A s.heap H locs → lv_has ls 11 [(0, .ref (a 11)), (1, .ref (a 4)), (2, .int x2), (3, .int x3), (4, .long y4), (6, .int x6), (7, .int x7)] → W p l e rm_X_X8_trace__11_4 s m args below meth c H locs 0 0 Q (F0 m 44 ls [])) : ∀ (n : Nat) (t : fw_S) (x2 : Int32) (x3 : Int32) (y4 : Int64) (x6 : Int32) (x7 : Int32) (x8 : Int32) (x9 : Int32) (H : Heap) (locs : List Loc) (ls : Array Slot), b_X_X8_trace__11_4_70 k44 n t x2 x3 y4 x6 x7 x8 x9 = some (r, u) → va_P D classes (WX ca a t) H → va_S A s.heap H locs → lv_has ls 11 [(0, .ref (a 11)), (1, .ref (a 4)), (2, .int x2), (3, .int x3), (4, .long y4), (6, .int x6), (7, .int x7), (8, .int x8), (9, .int x9)] → W p l e rm_X_X8_trace__11_4 s m args below meth c H locs 0 0 Q (F0 m 70 ls []) := by
  obtain ⟨hx, hb, hml, hown, hts, hN, hK, hD, hA⟩ := id C
  intro n
  induction n with
  | zero => intro t x2 x3 y4 x6 x7 x8 x9 H locs ls hf; cases hf
  | succ n hk70 =>
    intro t x2 x3 y4 x6 x7 x8 x9 H locs ls hf hP hS hl
    have hf : (fb_b (f_X_X0_readCount__4 t x8) fun v_2 t_1 => (if v_2 ≤ x9 then b_X_X8_trace__11_4_154 k44 t_1 x2 x3 y4 x6 x7 else b_X_X8_trace__11_4_81 k44 (b_X_X8_trace__11_4_70 k44 n) t_1 x2 x3 y4 x6 x7 x8 x9)) = some (r, u) := hf
    refine lv_iload hx hb dX8_trace_70 (lv_at hl 8 rfl) ?_
    refine lv_aload_n hx hb dX8_trace_72 rfl (lv_at hl 1 rfl) ?_
    refine lv_iload hx hb dX8_trace_73 (lv_at hl 7 rfl) ?_
    obtain ⟨v_2, t_1, g_75, hf⟩ := fb_bs hf
    refine fw_V1 (As := [.int x8]) (rest := [.int x9]) (n := 1) (q0 := 4) C (c_X_X0_readCount__4 (l := l) (D := D) (ca := ca) (a := a) g_75) kw_931 kw_426 kw_96 kw_428 kw_427 hP hS hl (heX_4 ca a t) rfl rfl rfl (by decide) (by decide +kernel) ⟨Nat.le_of_ble_eq_true rfl, Nat.le_of_ble_eq_true rfl⟩ rfl rfl (Nat.le_of_ble_eq_true rfl) dX8_trace_75 (fun H locs hP hS => ?_)
    refine W.eq (g2 := F0 m 78 ls [.int v_2, .int x9]) rfl ?_
    refine lv_icmp_ge (tgt := 154) hx hb dX8_trace_78 (by decide) (fun h_78 => ?_) (fun h_78 => ?_)
    · have hf := fb_t h_78 hf
      exact w_X_X8_trace__11_4_154 C hr hk44 hf hP hS (lv_sub hl [0, 1, 2, 3, 4, 5, 6] rfl)
    · have hf := fb_f h_78 hf
      exact w_X_X8_trace__11_4_81 C hr hk44 hk70 hf hP hS (lv_sub hl [0, 1, 2, 3, 4, 5, 6, 7, 8] rfl)
set_option maxRecDepth 20000 in
theorem w_X_X8_trace__11_4_58 {p : Program} {l : Launch} {e : Env} {s : State} {m : MethodId} {args : Array Value} {below : List Frame} {meth : Method} {c : Code} {A : Nat → Prop} {Q : State → Prop} {D : va_G} {ca : Nat → ClassId} {a : Nat → Nat} {u : fw_S} {r : Int32} {k44 : fw_S → Int32 → Int32 → Int64 → Int32 → Int32 → Option (Int32 × fw_S)} (C : CX (WX ca a) D (tyv ca) p s m args c A prog_10_method_2_code 11 RX8) (hr : True → RX (WX ca a) D p l e rm_X_X8_trace__11_4 s m args below meth c A prog_10_method_2_code Q .ireturn [.int r] u) (hk44 : ∀ (t : fw_S) (x2 : Int32) (x3 : Int32) (y4 : Int64) (x6 : Int32) (x7 : Int32) (H : Heap) (locs : List Loc) (ls : Array Slot), k44 t x2 x3 y4 x6 x7 = some (r, u) → va_P D classes (WX ca a t) H → va_S A s.heap H locs → lv_has ls 11 [(0, .ref (a 11)), (1, .ref (a 4)), (2, .int x2), (3, .int x3), (4, .long y4), (6, .int x6), (7, .int x7)] → W p l e rm_X_X8_trace__11_4 s m args below meth c H locs 0 0 Q (F0 m 44 ls [])) {t : fw_S} {x2 : Int32} {x3 : Int32} {y4 : Int64} {x6 : Int32} {x7 : Int32} {H : Heap} {locs : List Loc} {ls : Array Slot} (hf : b_X_X8_trace__11_4_58 k44 t x2 x3 y4 x6 x7 = some (r, u)) (hP : va_P D classes (WX ca a t) H) (hS : va_S A s.heap H locs) (hl : lv_has ls 11 [(0, .ref (a 11)), (1, .ref (a 4)), (2, .int x2), (3, .int x3), (4, .long y4), (6, .int x6), (7, .int x7)]) : W p l e rm_X_X8_trace__11_4 s m args below meth c H locs 0 0 Q (F0 m 58 ls []) := by
  obtain ⟨hx, hb, hml, hown, hts, hN, hK, hD, hA⟩ := id C
  have hf : (fb_g (¬ (x7 < 0 ∨ 32 ≤ x7.toNatClampNeg)) (b_X_X8_trace__11_4_70 k44 3000 t x2 x3 y4 x6 x7 (st_F t 31 x7.toNatClampNeg) ((0 : Int32)))) = some (r, u) := hf
  refine lv_aload_n hx hb dX8_trace_58 rfl (lv_at hl 0 rfl) ?_
  refine va_get (D := D) (ci := 8) (v := .ref (a 60)) (C := RX8) (T := TX8) (N := 2) hx hb hts inX8 hown hK hP 11 (heX_11 ca a t) rfl 0 (by decide) (hts _ kw_345) (fun _ h9 => h9) rfl dX8_trace_59 ?_
  refine lv_iload hx hb dX8_trace_62 (lv_at hl 6 rfl) ?_
  obtain ⟨h_64, hf⟩ := fb_if hf
  refine va_iald hx hb hK hP 60 0 (haX_60 ca a t) rfl h_64 dX8_trace_64 ?_
  refine lv_istore (lv' := [(8, .int (st_F t 31 x7.toNatClampNeg)), (0, .ref (a 11)), (1, .ref (a 4)), (2, .int x2), (3, .int x3), (4, .long y4), (6, .int x6), (7, .int x7)]) hx hb dX8_trace_65 hl (by decide) rfl (fun ls hl => ?_)
  refine lv_iconst (v := 0) hx hb dX8_trace_67 (by decide) ?_
  refine lv_istore (lv' := [(9, .int ((0 : Int32))), (8, .int (st_F t 31 x7.toNatClampNeg)), (0, .ref (a 11)), (1, .ref (a 4)), (2, .int x2), (3, .int x3), (4, .long y4), (6, .int x6), (7, .int x7)]) hx hb dX8_trace_68 hl (by decide) rfl (fun ls hl => ?_)
  exact w_X_X8_trace__11_4_70 C hr hk44 3000 t x2 x3 y4 x6 x7 (st_F t 31 x7.toNatClampNeg) ((0 : Int32)) _ _ _ hf hP hS (lv_sub hl [2, 3, 4, 5, 6, 7, 8, 1, 0] rfl)
set_option maxRecDepth 20000 in
theorem w_X_X8_trace__11_4_51 {p : Program} {l : Launch} {e : Env} {s : State} {m : MethodId} {args : Array Value} {below : List Frame} {meth : Method} {c : Code} {A : Nat → Prop} {Q : State → Prop} {D : va_G} {ca : Nat → ClassId} {a : Nat → Nat} {u : fw_S} {r : Int32} {k44 : fw_S → Int32 → Int32 → Int64 → Int32 → Int32 → Option (Int32 × fw_S)} (C : CX (WX ca a) D (tyv ca) p s m args c A prog_10_method_2_code 11 RX8) (hr : True → RX (WX ca a) D p l e rm_X_X8_trace__11_4 s m args below meth c A prog_10_method_2_code Q .ireturn [.int r] u) (hk44 : ∀ (t : fw_S) (x2 : Int32) (x3 : Int32) (y4 : Int64) (x6 : Int32) (x7 : Int32) (H : Heap) (locs : List Loc) (ls : Array Slot), k44 t x2 x3 y4 x6 x7 = some (r, u) → va_P D classes (WX ca a t) H → va_S A s.heap H locs → lv_has ls 11 [(0, .ref (a 11)), (1, .ref (a 4)), (2, .int x2), (3, .int x3), (4, .long y4), (6, .int x6), (7, .int x7)] → W p l e rm_X_X8_trace__11_4 s m args below meth c H locs 0 0 Q (F0 m 44 ls [])) {t : fw_S} {x2 : Int32} {x3 : Int32} {y4 : Int64} {x6 : Int32} {x7 : Int32} {H : Heap} {locs : List Loc} {ls : Array Slot} (hf : b_X_X8_trace__11_4_51 k44 t x2 x3 y4 x6 x7 = some (r, u)) (hP : va_P D classes (WX ca a t) H) (hS : va_S A s.heap H locs) (hl : lv_has ls 11 [(0, .ref (a 11)), (1, .ref (a 4)), (2, .int x2), (3, .int x3), (4, .long y4), (6, .int x6), (7, .int x7)]) : W p l e rm_X_X8_trace__11_4 s m args below meth c H locs 0 0 Q (F0 m 51 ls []) := by
  obtain ⟨hx, hb, hml, hown, hts, hN, hK, hD, hA⟩ := id C
  have hf : (if ((32 : Int32)) ≤ x7 then b_X_X8_trace__11_4_160 t x2 x3 y4 else b_X_X8_trace__11_4_58 k44 t x2 x3 y4 x6 x7) = some (r, u) := hf
  refine lv_iload hx hb dX8_trace_51 (lv_at hl 6 rfl) ?_
  refine lv_bipush (v := 32) hx hb dX8_trace_53 (by decide) ?_
  refine lv_icmp_ge (tgt := 160) hx hb dX8_trace_55 (by decide) (fun h_55 => ?_) (fun h_55 => ?_)
  · have hf := fb_t h_55 hf
    exact w_X_X8_trace__11_4_160 C hr hf hP hS (lv_sub hl [0, 2, 3, 4] rfl)
  · have hf := fb_f h_55 hf
    exact w_X_X8_trace__11_4_58 C hr hk44 hf hP hS (lv_sub hl [0, 1, 2, 3, 4, 5, 6] rfl)
set_option maxRecDepth 20000 in
theorem w_X_X8_trace__11_4_44 {p : Program} {l : Launch} {e : Env} {s : State} {m : MethodId} {args : Array Value} {below : List Frame} {meth : Method} {c : Code} {A : Nat → Prop} {Q : State → Prop} {D : va_G} {ca : Nat → ClassId} {a : Nat → Nat} {u : fw_S} {r : Int32}  (C : CX (WX ca a) D (tyv ca) p s m args c A prog_10_method_2_code 11 RX8) (hr : True → RX (WX ca a) D p l e rm_X_X8_trace__11_4 s m args below meth c A prog_10_method_2_code Q .ireturn [.int r] u) : ∀ (n : Nat) (t : fw_S) (x2 : Int32) (x3 : Int32) (y4 : Int64) (x6 : Int32) (x7 : Int32) (H : Heap) (locs : List Loc) (ls : Array Slot), b_X_X8_trace__11_4_44  n t x2 x3 y4 x6 x7 = some (r, u) → va_P D classes (WX ca a t) H → va_S A s.heap H locs → lv_has ls 11 [(0, .ref (a 11)), (1, .ref (a 4)), (2, .int x2), (3, .int x3), (4, .long y4), (6, .int x6), (7, .int x7)] → W p l e rm_X_X8_trace__11_4 s m args below meth c H locs 0 0 Q (F0 m 44 ls []) := by
  obtain ⟨hx, hb, hml, hown, hts, hN, hK, hD, hA⟩ := id C
  intro n
  induction n with
  | zero => intro t x2 x3 y4 x6 x7 H locs ls hf; cases hf
  | succ n hk44 =>
    intro t x2 x3 y4 x6 x7 H locs ls hf hP hS hl
    have hf : (if x6 ≤ x7 then b_X_X8_trace__11_4_160 t x2 x3 y4 else b_X_X8_trace__11_4_51 (b_X_X8_trace__11_4_44 n) t x2 x3 y4 x6 x7) = some (r, u) := hf
    refine lv_iload hx hb dX8_trace_44 (lv_at hl 6 rfl) ?_
    refine lv_iload hx hb dX8_trace_46 (lv_at hl 5 rfl) ?_
    refine lv_icmp_ge (tgt := 160) hx hb dX8_trace_48 (by decide) (fun h_48 => ?_) (fun h_48 => ?_)
    · have hf := fb_t h_48 hf
      exact w_X_X8_trace__11_4_160 C hr hf hP hS (lv_sub hl [0, 2, 3, 4] rfl)
    · have hf := fb_f h_48 hf
      exact w_X_X8_trace__11_4_51 C hr hk44 hf hP hS (lv_sub hl [0, 1, 2, 3, 4, 5, 6] rfl)
set_option maxRecDepth 20000 in
theorem w_X_X8_trace__11_4_18 {p : Program} {l : Launch} {e : Env} {s : State} {m : MethodId} {args : Array Value} {below : List Frame} {meth : Method} {c : Code} {A : Nat → Prop} {Q : State → Prop} {D : va_G} {ca : Nat → ClassId} {a : Nat → Nat} {u : fw_S} {r : Int32}  (C : CX (WX ca a) D (tyv ca) p s m args c A prog_10_method_2_code 11 RX8) (hr : True → RX (WX ca a) D p l e rm_X_X8_trace__11_4 s m args below meth c A prog_10_method_2_code Q .ireturn [.int r] u) {t : fw_S} {x2 : Int32} {x3 : Int32} {H : Heap} {locs : List Loc} {ls : Array Slot} (hf : b_X_X8_trace__11_4_18  t x2 x3 = some (r, u)) (hP : va_P D classes (WX ca a t) H) (hS : va_S A s.heap H locs) (hl : lv_has ls 11 [(0, .ref (a 11)), (1, .ref (a 4)), (2, .int x2), (3, .int x3)]) : W p l e rm_X_X8_trace__11_4 s m args below meth c H locs 0 0 Q (F0 m 18 ls []) := by
  obtain ⟨hx, hb, hml, hown, hts, hN, hK, hD, hA⟩ := id C
  have hf : (fb_b (f_X_X10_bit t x3) fun v_2 t_1 => (fb_g (¬ (((0 : Int32)) < 0 ∨ 32 ≤ ((0 : Int32)).toNatClampNeg)) (fb_l (up_F t_1 31 (upd (st_F t_1 31) ((0 : Int32)).toNatClampNeg x3)) fun t_3 => (fb_g (¬ (x3 < 0 ∨ 32 ≤ x3.toNatClampNeg)) (fb_l (up_F t_3 32 (upd (st_F t_3 32) x3.toNatClampNeg x3)) fun t_4 => (b_X_X8_trace__11_4_44 3000 t_4 x2 x3 v_2 ((1 : Int32)) ((0 : Int32)))))))) = some (r, u) := hf
  refine lv_iload_n hx hb dX8_trace_18 rfl (lv_at hl 3 rfl) ?_
  obtain ⟨v_2, t_1, g_19, hf⟩ := fb_bs hf
  refine fw_S2 (As := [.int x3]) (rest := []) (n := 1) C (c_X_X10_bit (l := l) (D := D) (ca := ca) (a := a) g_19) kw_930 kw_408 kw_92 kw_409 hP hS hl rfl rfl (by decide) (by decide +kernel) ⟨Nat.le_of_ble_eq_true rfl, Nat.le_of_ble_eq_true rfl⟩ rfl rfl (Nat.le_of_ble_eq_true rfl) dX8_trace_19 (fun H locs hP hS => ?_)
  refine W.eq (g2 := F0 m 22 ls [.long v_2]) rfl ?_
  refine lv_lstore (lv' := [(4, .long v_2), (0, .ref (a 11)), (1, .ref (a 4)), (2, .int x2), (3, .int x3)]) hx hb dX8_trace_22 hl (by decide) rfl (fun ls hl => ?_)
  refine lv_iconst (v := 1) hx hb dX8_trace_24 (by decide) ?_
  refine lv_istore (lv' := [(6, .int ((1 : Int32))), (4, .long v_2), (0, .ref (a 11)), (1, .ref (a 4)), (2, .int x2), (3, .int x3)]) hx hb dX8_trace_25 hl (by decide) rfl (fun ls hl => ?_)
  refine lv_aload_n hx hb dX8_trace_27 rfl (lv_at hl 2 rfl) ?_
  refine va_get (D := D) (ci := 8) (v := .ref (a 60)) (C := RX8) (T := TX8) (N := 2) hx hb hts inX8 hown hK hP 11 (heX_11 ca a t_1) rfl 0 (by decide) (hts _ kw_345) (fun _ h9 => h9) rfl dX8_trace_28 ?_
  refine lv_iconst (v := 0) hx hb dX8_trace_31 (by decide) ?_
  refine lv_iload_n hx hb dX8_trace_32 rfl (lv_at hl 5 rfl) ?_
  obtain ⟨h_33, hf⟩ := fb_if hf
  refine va_iast hx hb hK hP (hD t_1) hS 60 0 (haX_60 ca a t_1) rfl h_33 dX8_trace_33 (fun H locs hP _ hS => ?_)
  rw [saX_60] at hP
  obtain ⟨t_3, e_33, hf⟩ := fb_ls hf
  rw [← e_33] at hP
  refine lv_aload_n hx hb dX8_trace_34 rfl (lv_at hl 2 rfl) ?_
  refine va_get (D := D) (ci := 8) (v := .ref (a 61)) (C := RX8) (T := TX8) (N := 2) hx hb hts inX8 hown hK hP 11 (heX_11 ca a t_3) rfl 1 (by decide) (hts _ kw_346) (fun _ h9 => h9) rfl dX8_trace_35 ?_
  refine lv_iload_n hx hb dX8_trace_38 rfl (lv_at hl 5 rfl) ?_
  refine lv_iload_n hx hb dX8_trace_39 rfl (lv_at hl 5 rfl) ?_
  obtain ⟨h_40, hf⟩ := fb_if hf
  refine va_iast hx hb hK hP (hD t_3) hS 61 0 (haX_61 ca a t_3) rfl h_40 dX8_trace_40 (fun H locs hP _ hS => ?_)
  rw [saX_61] at hP
  obtain ⟨t_4, e_40, hf⟩ := fb_ls hf
  rw [← e_40] at hP
  refine lv_iconst (v := 0) hx hb dX8_trace_41 (by decide) ?_
  refine lv_istore (lv' := [(7, .int ((0 : Int32))), (6, .int ((1 : Int32))), (4, .long v_2), (0, .ref (a 11)), (1, .ref (a 4)), (2, .int x2), (3, .int x3)]) hx hb dX8_trace_42 hl (by decide) rfl (fun ls hl => ?_)
  exact w_X_X8_trace__11_4_44 C hr 3000 t_4 x2 x3 v_2 ((1 : Int32)) ((0 : Int32)) _ _ _ hf hP hS (lv_sub hl [3, 4, 5, 6, 2, 1, 0] rfl)
set_option maxRecDepth 20000 in
theorem w_X_X8_trace__11_4_8 {p : Program} {l : Launch} {e : Env} {s : State} {m : MethodId} {args : Array Value} {below : List Frame} {meth : Method} {c : Code} {A : Nat → Prop} {Q : State → Prop} {D : va_G} {ca : Nat → ClassId} {a : Nat → Nat} {u : fw_S} {r : Int32}  (C : CX (WX ca a) D (tyv ca) p s m args c A prog_10_method_2_code 11 RX8) (hr : True → RX (WX ca a) D p l e rm_X_X8_trace__11_4 s m args below meth c A prog_10_method_2_code Q .ireturn [.int r] u) {t : fw_S} {x2 : Int32} {x3 : Int32} {H : Heap} {locs : List Loc} {ls : Array Slot} (hf : b_X_X8_trace__11_4_8  t x2 x3 = some (r, u)) (hP : va_P D classes (WX ca a t) H) (hS : va_S A s.heap H locs) (hl : lv_has ls 11 [(0, .ref (a 11)), (1, .ref (a 4)), (2, .int x2), (3, .int x3)]) : W p l e rm_X_X8_trace__11_4 s m args below meth c H locs 0 0 Q (F0 m 8 ls []) := by
  obtain ⟨hx, hb, hml, hown, hts, hN, hK, hD, hA⟩ := id C
  have hf : (fb_b (f_X_X10_isCell t x3.toInt64) fun v_2 t_1 => (if v_2 = 0 then b_X_X8_trace__11_4_16 t_1 else b_X_X8_trace__11_4_18 t_1 x2 x3)) = some (r, u) := hf
  refine lv_iload_n hx hb dX8_trace_8 rfl (lv_at hl 3 rfl) ?_
  refine lv_i2l hx hb dX8_trace_9 rfl ?_
  obtain ⟨v_2, t_1, g_10, hf⟩ := fb_bs hf
  refine fw_S2 (As := [.long x3.toInt64]) (rest := []) (n := 1) C (c_X_X10_isCell (l := l) (D := D) (ca := ca) (a := a) g_10) kw_929 kw_399 kw_92 kw_400 hP hS hl rfl rfl (by decide) (by decide +kernel) ⟨Nat.le_of_ble_eq_true rfl, Nat.le_of_ble_eq_true rfl⟩ rfl rfl (Nat.le_of_ble_eq_true rfl) dX8_trace_10 (fun H locs hP hS => ?_)
  refine W.eq (g2 := F0 m 13 ls [.int v_2]) rfl ?_
  refine lv_if_ne (tgt := 18) hx hb dX8_trace_13 (by decide) (fun h_13 => ?_) (fun h_13 => ?_)
  · have hf := fb_f h_13 hf
    exact w_X_X8_trace__11_4_18 C hr hf hP hS (lv_sub hl [0, 1, 2, 3] rfl)
  · have hf := fb_t h_13 hf
    exact w_X_X8_trace__11_4_16 C hr hf hP hS (lv_sub hl [] rfl)
set_option maxRecDepth 20000 in
theorem w_X_X8_trace__11_4_0 {p : Program} {l : Launch} {e : Env} {s : State} {m : MethodId} {args : Array Value} {below : List Frame} {meth : Method} {c : Code} {A : Nat → Prop} {Q : State → Prop} {D : va_G} {ca : Nat → ClassId} {a : Nat → Nat} {u : fw_S} {r : Int32}  (C : CX (WX ca a) D (tyv ca) p s m args c A prog_10_method_2_code 11 RX8) (hr : True → RX (WX ca a) D p l e rm_X_X8_trace__11_4 s m args below meth c A prog_10_method_2_code Q .ireturn [.int r] u) {t : fw_S} {x2 : Int32} {x3 : Int32} {H : Heap} {locs : List Loc} {ls : Array Slot} (hf : b_X_X8_trace__11_4_0  t x2 x3 = some (r, u)) (hP : va_P D classes (WX ca a t) H) (hS : va_S A s.heap H locs) (hl : lv_has ls 11 [(0, .ref (a 11)), (1, .ref (a 4)), (2, .int x2), (3, .int x3)]) : W p l e rm_X_X8_trace__11_4 s m args below meth c H locs 0 0 Q (F0 m 0 ls []) := by
  obtain ⟨hx, hb, hml, hown, hts, hN, hK, hD, hA⟩ := id C
  have hf : (fb_b (f_X_X10_isCell t x2.toInt64) fun v_2 t_1 => (if v_2 = 0 then b_X_X8_trace__11_4_16 t_1 else b_X_X8_trace__11_4_8 t_1 x2 x3)) = some (r, u) := hf
  refine lv_iload_n hx hb dX8_trace_0 rfl (lv_at hl 2 rfl) ?_
  refine lv_i2l hx hb dX8_trace_1 rfl ?_
  obtain ⟨v_2, t_1, g_2, hf⟩ := fb_bs hf
  refine fw_S2 (As := [.long x2.toInt64]) (rest := []) (n := 1) C (c_X_X10_isCell (l := l) (D := D) (ca := ca) (a := a) g_2) kw_929 kw_399 kw_92 kw_400 hP hS hl rfl rfl (by decide) (by decide +kernel) ⟨Nat.le_of_ble_eq_true rfl, Nat.le_of_ble_eq_true rfl⟩ rfl rfl (Nat.le_of_ble_eq_true rfl) dX8_trace_2 (fun H locs hP hS => ?_)
  refine W.eq (g2 := F0 m 5 ls [.int v_2]) rfl ?_
  refine lv_if_eq (tgt := 16) hx hb dX8_trace_5 (by decide) (fun h_5 => ?_) (fun h_5 => ?_)
  · have hf := fb_t h_5 hf
    exact w_X_X8_trace__11_4_16 C hr hf hP hS (lv_sub hl [] rfl)
  · have hf := fb_f h_5 hf
    exact w_X_X8_trace__11_4_8 C hr hf hP hS (lv_sub hl [0, 1, 2, 3] rfl)
set_option maxRecDepth 20000 in
theorem c_X_X8_trace__11_4 {l : Launch} {D : va_G} {ca : Nat → ClassId} {a : Nat → Nat} {t : fw_S} {x2 : Int32} {x3 : Int32} {u : fw_S} {r : Int32} (hf : f_X_X8_trace__11_4 t x2 x3 = some (r, u)) : MC (WX ca a) D (tyv ca) l yX8_trace (.code yX8_trace prog_10_method_2_code 11 (some .int) :: lw_gd) rm_X_X8_trace__11_4 [.ref (a 11), .ref (a 4), .int x2, .int x3] (some (.int r)) t u := by
  refine fw_met (okX ca a) (by decide +kernel) rfl rfl (Nat.le_of_ble_eq_true rfl) ?_
  intro p e s m args below meth c A Q ls C hr hk hP hS hl hQ
  exact w_X_X8_trace__11_4_0 C (fun _ => fw_ri C hr hk hQ) hf hP hS (lv_sub hl [0, 1, 2, 3] rfl)
/-! ReactiveSheet.Trail.cellAt(II)I ['x.trail'] -/
abbrev rm_X_X8_cellAt__11 : Room := { frames := 2, cells := 0, slots := 0, locals := 42 }
def b_X_X8_cellAt__11_30  (t : fw_S) (x3 : Int32) : Option (Int32 × fw_S) := some (x3, t)
def b_X_X8_cellAt__11_18 (k5 : fw_S → Int32 → Int32 → Int32 → Option (Int32 × fw_S)) (t : fw_S) (x2 : Int32) (x3 : Int32) (x4 : Int32) : Option (Int32 × fw_S) := fb_b (f_X_X8_onward__11 t x3) fun v_2 t_1 => (k5 t_1 x2 v_2 (x4 + 1))
def b_X_X8_cellAt__11_11 (k5 : fw_S → Int32 → Int32 → Int32 → Option (Int32 × fw_S)) (t : fw_S) (x2 : Int32) (x3 : Int32) (x4 : Int32) : Option (Int32 × fw_S) := if ((32 : Int32)) ≤ x4 then b_X_X8_cellAt__11_30 t x3 else b_X_X8_cellAt__11_18 k5 t x2 x3 x4
def b_X_X8_cellAt__11_5  : Nat → (fw_S → Int32 → Int32 → Int32 → Option (Int32 × fw_S))
  | 0 => fun _ _ _ _ => none
  | n + 1 => fun t x2 x3 x4 => if x2 ≤ x4 then b_X_X8_cellAt__11_30 t x3 else b_X_X8_cellAt__11_11 (b_X_X8_cellAt__11_5 n) t x2 x3 x4
def b_X_X8_cellAt__11_0  (t : fw_S) (x1 : Int32) (x2 : Int32) : Option (Int32 × fw_S) := b_X_X8_cellAt__11_5 3000 t x2 x1 ((0 : Int32))
def f_X_X8_cellAt__11 (t : fw_S) (x1 : Int32) (x2 : Int32) : Option (Int32 × fw_S) := b_X_X8_cellAt__11_0 t x1 x2
set_option maxRecDepth 20000 in
theorem w_X_X8_cellAt__11_30 {p : Program} {l : Launch} {e : Env} {s : State} {m : MethodId} {args : Array Value} {below : List Frame} {meth : Method} {c : Code} {A : Nat → Prop} {Q : State → Prop} {D : va_G} {ca : Nat → ClassId} {a : Nat → Nat} {u : fw_S} {r : Int32}  (C : CX (WX ca a) D (tyv ca) p s m args c A prog_10_method_5_code 5 RX8) (hr : True → RX (WX ca a) D p l e rm_X_X8_cellAt__11 s m args below meth c A prog_10_method_5_code Q .ireturn [.int r] u) {t : fw_S} {x3 : Int32} {H : Heap} {locs : List Loc} {ls : Array Slot} (hf : b_X_X8_cellAt__11_30  t x3 = some (r, u)) (hP : va_P D classes (WX ca a t) H) (hS : va_S A s.heap H locs) (hl : lv_has ls 5 [(3, .int x3)]) : W p l e rm_X_X8_cellAt__11 s m args below meth c H locs 0 0 Q (F0 m 30 ls []) := by
  obtain ⟨hx, hb, hml, hown, hts, hN, hK, hD, hA⟩ := id C
  have hf : (some (x3, t)) = some (r, u) := hf
  refine lv_iload_n hx hb dX8_cellAt_30 rfl (lv_at hl 0 rfl) ?_
  obtain ⟨e_31, e2_31⟩ := fb_e hf
  subst e_31; subst e2_31
  exact hr trivial _ _ _ _ hP hS dX8_cellAt_31
set_option maxRecDepth 20000 in
theorem w_X_X8_cellAt__11_18 {p : Program} {l : Launch} {e : Env} {s : State} {m : MethodId} {args : Array Value} {below : List Frame} {meth : Method} {c : Code} {A : Nat → Prop} {Q : State → Prop} {D : va_G} {ca : Nat → ClassId} {a : Nat → Nat} {u : fw_S} {r : Int32} {k5 : fw_S → Int32 → Int32 → Int32 → Option (Int32 × fw_S)} (C : CX (WX ca a) D (tyv ca) p s m args c A prog_10_method_5_code 5 RX8) (hr : True → RX (WX ca a) D p l e rm_X_X8_cellAt__11 s m args below meth c A prog_10_method_5_code Q .ireturn [.int r] u) (hk5 : ∀ (t : fw_S) (x2 : Int32) (x3 : Int32) (x4 : Int32) (H : Heap) (locs : List Loc) (ls : Array Slot), k5 t x2 x3 x4 = some (r, u) → va_P D classes (WX ca a t) H → va_S A s.heap H locs → lv_has ls 5 [(0, .ref (a 11)), (2, .int x2), (3, .int x3), (4, .int x4)] → W p l e rm_X_X8_cellAt__11 s m args below meth c H locs 0 0 Q (F0 m 5 ls [])) {t : fw_S} {x2 : Int32} {x3 : Int32} {x4 : Int32} {H : Heap} {locs : List Loc} {ls : Array Slot} (hf : b_X_X8_cellAt__11_18 k5 t x2 x3 x4 = some (r, u)) (hP : va_P D classes (WX ca a t) H) (hS : va_S A s.heap H locs) (hl : lv_has ls 5 [(0, .ref (a 11)), (2, .int x2), (3, .int x3), (4, .int x4)]) : W p l e rm_X_X8_cellAt__11 s m args below meth c H locs 0 0 Q (F0 m 18 ls []) := by
  obtain ⟨hx, hb, hml, hown, hts, hN, hK, hD, hA⟩ := id C
  have hf : (fb_b (f_X_X8_onward__11 t x3) fun v_2 t_1 => (k5 t_1 x2 v_2 (x4 + 1))) = some (r, u) := hf
  refine lv_aload_n hx hb dX8_cellAt_18 rfl (lv_at hl 0 rfl) ?_
  refine lv_iload_n hx hb dX8_cellAt_19 rfl (lv_at hl 2 rfl) ?_
  obtain ⟨v_2, t_1, g_20, hf⟩ := fb_bs hf
  refine fw_V1 (As := [.int x3]) (rest := []) (n := 1) (q0 := 11) C (c_X_X8_onward__11 (l := l) (D := D) (ca := ca) (a := a) g_20) kw_938 kw_940 kw_101 kw_941 kw_34 hP hS hl (heX_11 ca a t) rfl rfl rfl (by decide) (by decide +kernel) ⟨Nat.le_of_ble_eq_true rfl, Nat.le_of_ble_eq_true rfl⟩ rfl rfl (Nat.le_of_ble_eq_true rfl) dX8_cellAt_20 (fun H locs hP hS => ?_)
  refine W.eq (g2 := F0 m 23 ls [.int v_2]) rfl ?_
  refine lv_istore_n (lv' := [(3, .int v_2), (0, .ref (a 11)), (2, .int x2), (4, .int x4)]) hx hb dX8_cellAt_23 rfl hl (by decide) rfl (fun ls hl => ?_)
  refine lv_iinc (v := x4 + 1) (lv' := [(4, .int (x4 + 1)), (3, .int v_2), (0, .ref (a 11)), (2, .int x2)]) hx hb dX8_cellAt_24 hl (k := 3) rfl rfl (by decide) rfl (fun ls hl => ?_)
  refine lv_goto (tgt := 5) hx hb dX8_cellAt_27 (by decide) ?_
  exact hk5 t_1 x2 v_2 (x4 + 1) _ _ _ hf hP hS (lv_sub hl [2, 3, 1, 0] rfl)
set_option maxRecDepth 20000 in
theorem w_X_X8_cellAt__11_11 {p : Program} {l : Launch} {e : Env} {s : State} {m : MethodId} {args : Array Value} {below : List Frame} {meth : Method} {c : Code} {A : Nat → Prop} {Q : State → Prop} {D : va_G} {ca : Nat → ClassId} {a : Nat → Nat} {u : fw_S} {r : Int32} {k5 : fw_S → Int32 → Int32 → Int32 → Option (Int32 × fw_S)} (C : CX (WX ca a) D (tyv ca) p s m args c A prog_10_method_5_code 5 RX8) (hr : True → RX (WX ca a) D p l e rm_X_X8_cellAt__11 s m args below meth c A prog_10_method_5_code Q .ireturn [.int r] u) (hk5 : ∀ (t : fw_S) (x2 : Int32) (x3 : Int32) (x4 : Int32) (H : Heap) (locs : List Loc) (ls : Array Slot), k5 t x2 x3 x4 = some (r, u) → va_P D classes (WX ca a t) H → va_S A s.heap H locs → lv_has ls 5 [(0, .ref (a 11)), (2, .int x2), (3, .int x3), (4, .int x4)] → W p l e rm_X_X8_cellAt__11 s m args below meth c H locs 0 0 Q (F0 m 5 ls [])) {t : fw_S} {x2 : Int32} {x3 : Int32} {x4 : Int32} {H : Heap} {locs : List Loc} {ls : Array Slot} (hf : b_X_X8_cellAt__11_11 k5 t x2 x3 x4 = some (r, u)) (hP : va_P D classes (WX ca a t) H) (hS : va_S A s.heap H locs) (hl : lv_has ls 5 [(0, .ref (a 11)), (2, .int x2), (3, .int x3), (4, .int x4)]) : W p l e rm_X_X8_cellAt__11 s m args below meth c H locs 0 0 Q (F0 m 11 ls []) := by
  obtain ⟨hx, hb, hml, hown, hts, hN, hK, hD, hA⟩ := id C
  have hf : (if ((32 : Int32)) ≤ x4 then b_X_X8_cellAt__11_30 t x3 else b_X_X8_cellAt__11_18 k5 t x2 x3 x4) = some (r, u) := hf
  refine lv_iload hx hb dX8_cellAt_11 (lv_at hl 3 rfl) ?_
  refine lv_bipush (v := 32) hx hb dX8_cellAt_13 (by decide) ?_
  refine lv_icmp_ge (tgt := 30) hx hb dX8_cellAt_15 (by decide) (fun h_15 => ?_) (fun h_15 => ?_)
  · have hf := fb_t h_15 hf
    exact w_X_X8_cellAt__11_30 C hr hf hP hS (lv_sub hl [2] rfl)
  · have hf := fb_f h_15 hf
    exact w_X_X8_cellAt__11_18 C hr hk5 hf hP hS (lv_sub hl [0, 1, 2, 3] rfl)
set_option maxRecDepth 20000 in
theorem w_X_X8_cellAt__11_5 {p : Program} {l : Launch} {e : Env} {s : State} {m : MethodId} {args : Array Value} {below : List Frame} {meth : Method} {c : Code} {A : Nat → Prop} {Q : State → Prop} {D : va_G} {ca : Nat → ClassId} {a : Nat → Nat} {u : fw_S} {r : Int32}  (C : CX (WX ca a) D (tyv ca) p s m args c A prog_10_method_5_code 5 RX8) (hr : True → RX (WX ca a) D p l e rm_X_X8_cellAt__11 s m args below meth c A prog_10_method_5_code Q .ireturn [.int r] u) : ∀ (n : Nat) (t : fw_S) (x2 : Int32) (x3 : Int32) (x4 : Int32) (H : Heap) (locs : List Loc) (ls : Array Slot), b_X_X8_cellAt__11_5  n t x2 x3 x4 = some (r, u) → va_P D classes (WX ca a t) H → va_S A s.heap H locs → lv_has ls 5 [(0, .ref (a 11)), (2, .int x2), (3, .int x3), (4, .int x4)] → W p l e rm_X_X8_cellAt__11 s m args below meth c H locs 0 0 Q (F0 m 5 ls []) := by
  obtain ⟨hx, hb, hml, hown, hts, hN, hK, hD, hA⟩ := id C
  intro n
  induction n with
  | zero => intro t x2 x3 x4 H locs ls hf; cases hf
  | succ n hk5 =>
    intro t x2 x3 x4 H locs ls hf hP hS hl
    have hf : (if x2 ≤ x4 then b_X_X8_cellAt__11_30 t x3 else b_X_X8_cellAt__11_11 (b_X_X8_cellAt__11_5 n) t x2 x3 x4) = some (r, u) := hf
    refine lv_iload hx hb dX8_cellAt_5 (lv_at hl 3 rfl) ?_
    refine lv_iload_n hx hb dX8_cellAt_7 rfl (lv_at hl 1 rfl) ?_
    refine lv_icmp_ge (tgt := 30) hx hb dX8_cellAt_8 (by decide) (fun h_8 => ?_) (fun h_8 => ?_)
    · have hf := fb_t h_8 hf
      exact w_X_X8_cellAt__11_30 C hr hf hP hS (lv_sub hl [2] rfl)
    · have hf := fb_f h_8 hf
      exact w_X_X8_cellAt__11_11 C hr hk5 hf hP hS (lv_sub hl [0, 1, 2, 3] rfl)
set_option maxRecDepth 20000 in
theorem w_X_X8_cellAt__11_0 {p : Program} {l : Launch} {e : Env} {s : State} {m : MethodId} {args : Array Value} {below : List Frame} {meth : Method} {c : Code} {A : Nat → Prop} {Q : State → Prop} {D : va_G} {ca : Nat → ClassId} {a : Nat → Nat} {u : fw_S} {r : Int32}  (C : CX (WX ca a) D (tyv ca) p s m args c A prog_10_method_5_code 5 RX8) (hr : True → RX (WX ca a) D p l e rm_X_X8_cellAt__11 s m args below meth c A prog_10_method_5_code Q .ireturn [.int r] u) {t : fw_S} {x1 : Int32} {x2 : Int32} {H : Heap} {locs : List Loc} {ls : Array Slot} (hf : b_X_X8_cellAt__11_0  t x1 x2 = some (r, u)) (hP : va_P D classes (WX ca a t) H) (hS : va_S A s.heap H locs) (hl : lv_has ls 5 [(0, .ref (a 11)), (1, .int x1), (2, .int x2)]) : W p l e rm_X_X8_cellAt__11 s m args below meth c H locs 0 0 Q (F0 m 0 ls []) := by
  obtain ⟨hx, hb, hml, hown, hts, hN, hK, hD, hA⟩ := id C
  have hf : (b_X_X8_cellAt__11_5 3000 t x2 x1 ((0 : Int32))) = some (r, u) := hf
  refine lv_iload_n hx hb dX8_cellAt_0 rfl (lv_at hl 1 rfl) ?_
  refine lv_istore_n (lv' := [(3, .int x1), (0, .ref (a 11)), (1, .int x1), (2, .int x2)]) hx hb dX8_cellAt_1 rfl hl (by decide) rfl (fun ls hl => ?_)
  refine lv_iconst (v := 0) hx hb dX8_cellAt_2 (by decide) ?_
  refine lv_istore (lv' := [(4, .int ((0 : Int32))), (3, .int x1), (0, .ref (a 11)), (1, .int x1), (2, .int x2)]) hx hb dX8_cellAt_3 hl (by decide) rfl (fun ls hl => ?_)
  exact w_X_X8_cellAt__11_5 C hr 3000 t x2 x1 ((0 : Int32)) _ _ _ hf hP hS (lv_sub hl [2, 4, 1, 0] rfl)
set_option maxRecDepth 20000 in
theorem c_X_X8_cellAt__11 {l : Launch} {D : va_G} {ca : Nat → ClassId} {a : Nat → Nat} {t : fw_S} {x1 : Int32} {x2 : Int32} {u : fw_S} {r : Int32} (hf : f_X_X8_cellAt__11 t x1 x2 = some (r, u)) : MC (WX ca a) D (tyv ca) l yX8_cellAt (.code yX8_cellAt prog_10_method_5_code 5 (some .int) :: lw_gd) rm_X_X8_cellAt__11 [.ref (a 11), .int x1, .int x2] (some (.int r)) t u := by
  refine fw_met (okX ca a) (by decide +kernel) rfl rfl (Nat.le_of_ble_eq_true rfl) ?_
  intro p e s m args below meth c A Q ls C hr hk hP hS hl hQ
  exact w_X_X8_cellAt__11_0 C (fun _ => fw_ri C hr hk hQ) hf hP hS (lv_sub hl [0, 1, 2] rfl)
/-! ReactiveSheet.way(III)I ['x'] -/
abbrev rm_X_X10_way__0 : Room := { frames := 4, cells := 0, slots := 0, locals := 96 }
def b_X_X10_way__0_21  (t : fw_S)  : Option (Int32 × fw_S) := some ((-1 : Int32), t)
def b_X_X10_way__0_75  (t : fw_S) (z0 : Int32) : Option (Int32 × fw_S) := some (z0, t)
def b_X_X10_way__0_66  (t : fw_S) (x1 : Int32) (x3 : Int32) : Option (Int32 × fw_S) := fb_b (f_X_X8_cellAt__11 t x1 x3) fun v_2 t_1 => (b_X_X10_way__0_75 t_1 v_2)
def b_X_X10_way__0_62  (t : fw_S)  : Option (Int32 × fw_S) := b_X_X10_way__0_75 t ((-1 : Int32))
def b_X_X10_way__0_56  (t : fw_S) (x1 : Int32) (x3 : Int32) (x4 : Int32) : Option (Int32 × fw_S) := if x3 ≤ x4 then b_X_X10_way__0_66 t x1 x3 else b_X_X10_way__0_62 t
def b_X_X10_way__0_53  (t : fw_S) (x4 : Int32) : Option (Int32 × fw_S) := some (x4, t)
def b_X_X10_way__0_49  (t : fw_S) (x1 : Int32) (x3 : Int32) (x4 : Int32) : Option (Int32 × fw_S) := if 0 ≤ x3 then b_X_X10_way__0_56 t x1 x3 x4 else b_X_X10_way__0_53 t x4
def b_X_X10_way__0_46  (t : fw_S)  : Option (Int32 × fw_S) := some ((-5 : Int32), t)
def b_X_X10_way__0_23  (t : fw_S) (x1 : Int32) (x2 : Int32) (x3 : Int32) : Option (Int32 × fw_S) := fb_v (f_X_X1_now__3 t) fun t_1 => (fb_b (f_X_X8_trace__11_4 t_1 x1 x2) fun v_3 t_2 => (if 0 ≤ v_3 then b_X_X10_way__0_49 t_2 x1 x3 v_3 else b_X_X10_way__0_46 t_2))
def b_X_X10_way__0_16  (t : fw_S) (x1 : Int32) (x2 : Int32) (x3 : Int32) : Option (Int32 × fw_S) := if ((-1 : Int32)) ≤ x3 then b_X_X10_way__0_23 t x1 x2 x3 else b_X_X10_way__0_21 t
def b_X_X10_way__0_8  (t : fw_S) (x1 : Int32) (x2 : Int32) (x3 : Int32) : Option (Int32 × fw_S) := fb_b (f_X_X10_isCell t x2.toInt64) fun v_2 t_1 => (if v_2 = 0 then b_X_X10_way__0_21 t_1 else b_X_X10_way__0_16 t_1 x1 x2 x3)
def b_X_X10_way__0_0  (t : fw_S) (x1 : Int32) (x2 : Int32) (x3 : Int32) : Option (Int32 × fw_S) := fb_b (f_X_X10_isCell t x1.toInt64) fun v_2 t_1 => (if v_2 = 0 then b_X_X10_way__0_21 t_1 else b_X_X10_way__0_8 t_1 x1 x2 x3)
def f_X_X10_way__0 (t : fw_S) (x1 : Int32) (x2 : Int32) (x3 : Int32) : Option (Int32 × fw_S) := b_X_X10_way__0_0 t x1 x2 x3
set_option maxRecDepth 20000 in
theorem w_X_X10_way__0_21 {p : Program} {l : Launch} {e : Env} {s : State} {m : MethodId} {args : Array Value} {below : List Frame} {meth : Method} {c : Code} {A : Nat → Prop} {Q : State → Prop} {D : va_G} {ca : Nat → ClassId} {a : Nat → Nat} {u : fw_S} {r : Int32}  (C : CX (WX ca a) D (tyv ca) p s m args c A prog_1_method_18_code 5 RX10) (hr : True → RX (WX ca a) D p l e rm_X_X10_way__0 s m args below meth c A prog_1_method_18_code Q .ireturn [.int r] u) {t : fw_S}  {H : Heap} {locs : List Loc} {ls : Array Slot} (hf : b_X_X10_way__0_21  t  = some (r, u)) (hP : va_P D classes (WX ca a t) H) (hS : va_S A s.heap H locs) (hl : lv_has ls 5 []) : W p l e rm_X_X10_way__0 s m args below meth c H locs 0 0 Q (F0 m 21 ls []) := by
  obtain ⟨hx, hb, hml, hown, hts, hN, hK, hD, hA⟩ := id C
  have hf : (some ((-1 : Int32), t)) = some (r, u) := hf
  refine lv_iconst (v := (-1)) hx hb dX10_way_21 (by decide) ?_
  obtain ⟨e_22, e2_22⟩ := fb_e hf
  subst e_22; subst e2_22
  exact hr trivial _ _ _ _ hP hS dX10_way_22
set_option maxRecDepth 20000 in
theorem w_X_X10_way__0_75 {p : Program} {l : Launch} {e : Env} {s : State} {m : MethodId} {args : Array Value} {below : List Frame} {meth : Method} {c : Code} {A : Nat → Prop} {Q : State → Prop} {D : va_G} {ca : Nat → ClassId} {a : Nat → Nat} {u : fw_S} {r : Int32}  (C : CX (WX ca a) D (tyv ca) p s m args c A prog_1_method_18_code 5 RX10) (hr : True → RX (WX ca a) D p l e rm_X_X10_way__0 s m args below meth c A prog_1_method_18_code Q .ireturn [.int r] u) {t : fw_S} {z0 : Int32} {H : Heap} {locs : List Loc} {ls : Array Slot} (hf : b_X_X10_way__0_75  t z0 = some (r, u)) (hP : va_P D classes (WX ca a t) H) (hS : va_S A s.heap H locs) (hl : lv_has ls 5 []) : W p l e rm_X_X10_way__0 s m args below meth c H locs 0 0 Q (F0 m 75 ls [.int z0]) := by
  obtain ⟨hx, hb, hml, hown, hts, hN, hK, hD, hA⟩ := id C
  have hf : (some (z0, t)) = some (r, u) := hf
  obtain ⟨e_75, e2_75⟩ := fb_e hf
  subst e_75; subst e2_75
  exact hr trivial _ _ _ _ hP hS dX10_way_75
set_option maxRecDepth 20000 in
theorem w_X_X10_way__0_66 {p : Program} {l : Launch} {e : Env} {s : State} {m : MethodId} {args : Array Value} {below : List Frame} {meth : Method} {c : Code} {A : Nat → Prop} {Q : State → Prop} {D : va_G} {ca : Nat → ClassId} {a : Nat → Nat} {u : fw_S} {r : Int32}  (C : CX (WX ca a) D (tyv ca) p s m args c A prog_1_method_18_code 5 RX10) (hr : True → RX (WX ca a) D p l e rm_X_X10_way__0 s m args below meth c A prog_1_method_18_code Q .ireturn [.int r] u) {t : fw_S} {x1 : Int32} {x3 : Int32} {H : Heap} {locs : List Loc} {ls : Array Slot} (hf : b_X_X10_way__0_66  t x1 x3 = some (r, u)) (hP : va_P D classes (WX ca a t) H) (hS : va_S A s.heap H locs) (hl : lv_has ls 5 [(0, .ref (a 0)), (1, .int x1), (3, .int x3)]) : W p l e rm_X_X10_way__0 s m args below meth c H locs 0 0 Q (F0 m 66 ls []) := by
  obtain ⟨hx, hb, hml, hown, hts, hN, hK, hD, hA⟩ := id C
  have hf : (fb_b (f_X_X8_cellAt__11 t x1 x3) fun v_2 t_1 => (b_X_X10_way__0_75 t_1 v_2)) = some (r, u) := hf
  refine lv_aload_n hx hb dX10_way_66 rfl (lv_at hl 0 rfl) ?_
  refine va_get (D := D) (ci := 10) (v := .ref (a 11)) (C := RX10) (T := TX10) (N := 13) hx hb hts inX10 hown hK hP 0 (heX_0 ca a t) rfl 8 (by decide) (hts _ kw_362) (fun _ h9 => h9) rfl dX10_way_67 ?_
  refine lv_iload_n hx hb dX10_way_70 rfl (lv_at hl 1 rfl) ?_
  refine lv_iload_n hx hb dX10_way_71 rfl (lv_at hl 2 rfl) ?_
  obtain ⟨v_2, t_1, g_72, hf⟩ := fb_bs hf
  refine fw_V1 (As := [.int x1, .int x3]) (rest := []) (n := 2) (q0 := 11) C (c_X_X8_cellAt__11 (l := l) (D := D) (ca := ca) (a := a) g_72) kw_942 kw_943 kw_101 kw_945 kw_944 hP hS hl (heX_11 ca a t) rfl rfl rfl (by decide) (by decide +kernel) ⟨Nat.le_of_ble_eq_true rfl, Nat.le_of_ble_eq_true rfl⟩ rfl rfl (Nat.le_of_ble_eq_true rfl) dX10_way_72 (fun H locs hP hS => ?_)
  refine W.eq (g2 := F0 m 75 ls [.int v_2]) rfl ?_
  exact w_X_X10_way__0_75 C hr hf hP hS (lv_sub hl [] rfl)
set_option maxRecDepth 20000 in
theorem w_X_X10_way__0_62 {p : Program} {l : Launch} {e : Env} {s : State} {m : MethodId} {args : Array Value} {below : List Frame} {meth : Method} {c : Code} {A : Nat → Prop} {Q : State → Prop} {D : va_G} {ca : Nat → ClassId} {a : Nat → Nat} {u : fw_S} {r : Int32}  (C : CX (WX ca a) D (tyv ca) p s m args c A prog_1_method_18_code 5 RX10) (hr : True → RX (WX ca a) D p l e rm_X_X10_way__0 s m args below meth c A prog_1_method_18_code Q .ireturn [.int r] u) {t : fw_S}  {H : Heap} {locs : List Loc} {ls : Array Slot} (hf : b_X_X10_way__0_62  t  = some (r, u)) (hP : va_P D classes (WX ca a t) H) (hS : va_S A s.heap H locs) (hl : lv_has ls 5 []) : W p l e rm_X_X10_way__0 s m args below meth c H locs 0 0 Q (F0 m 62 ls []) := by
  obtain ⟨hx, hb, hml, hown, hts, hN, hK, hD, hA⟩ := id C
  have hf : (b_X_X10_way__0_75 t ((-1 : Int32))) = some (r, u) := hf
  refine lv_iconst (v := (-1)) hx hb dX10_way_62 (by decide) ?_
  refine lv_goto (tgt := 75) hx hb dX10_way_63 (by decide) ?_
  exact w_X_X10_way__0_75 C hr hf hP hS (lv_sub hl [] rfl)
set_option maxRecDepth 20000 in
theorem w_X_X10_way__0_56 {p : Program} {l : Launch} {e : Env} {s : State} {m : MethodId} {args : Array Value} {below : List Frame} {meth : Method} {c : Code} {A : Nat → Prop} {Q : State → Prop} {D : va_G} {ca : Nat → ClassId} {a : Nat → Nat} {u : fw_S} {r : Int32}  (C : CX (WX ca a) D (tyv ca) p s m args c A prog_1_method_18_code 5 RX10) (hr : True → RX (WX ca a) D p l e rm_X_X10_way__0 s m args below meth c A prog_1_method_18_code Q .ireturn [.int r] u) {t : fw_S} {x1 : Int32} {x3 : Int32} {x4 : Int32} {H : Heap} {locs : List Loc} {ls : Array Slot} (hf : b_X_X10_way__0_56  t x1 x3 x4 = some (r, u)) (hP : va_P D classes (WX ca a t) H) (hS : va_S A s.heap H locs) (hl : lv_has ls 5 [(0, .ref (a 0)), (1, .int x1), (3, .int x3), (4, .int x4)]) : W p l e rm_X_X10_way__0 s m args below meth c H locs 0 0 Q (F0 m 56 ls []) := by
  obtain ⟨hx, hb, hml, hown, hts, hN, hK, hD, hA⟩ := id C
  have hf : (if x3 ≤ x4 then b_X_X10_way__0_66 t x1 x3 else b_X_X10_way__0_62 t) = some (r, u) := hf
  refine lv_iload_n hx hb dX10_way_56 rfl (lv_at hl 2 rfl) ?_
  refine lv_iload hx hb dX10_way_57 (lv_at hl 3 rfl) ?_
  refine lv_icmp_le (tgt := 66) hx hb dX10_way_59 (by decide) (fun h_59 => ?_) (fun h_59 => ?_)
  · have hf := fb_t h_59 hf
    exact w_X_X10_way__0_66 C hr hf hP hS (lv_sub hl [0, 1, 2] rfl)
  · have hf := fb_f h_59 hf
    exact w_X_X10_way__0_62 C hr hf hP hS (lv_sub hl [] rfl)
set_option maxRecDepth 20000 in
theorem w_X_X10_way__0_53 {p : Program} {l : Launch} {e : Env} {s : State} {m : MethodId} {args : Array Value} {below : List Frame} {meth : Method} {c : Code} {A : Nat → Prop} {Q : State → Prop} {D : va_G} {ca : Nat → ClassId} {a : Nat → Nat} {u : fw_S} {r : Int32}  (C : CX (WX ca a) D (tyv ca) p s m args c A prog_1_method_18_code 5 RX10) (hr : True → RX (WX ca a) D p l e rm_X_X10_way__0 s m args below meth c A prog_1_method_18_code Q .ireturn [.int r] u) {t : fw_S} {x4 : Int32} {H : Heap} {locs : List Loc} {ls : Array Slot} (hf : b_X_X10_way__0_53  t x4 = some (r, u)) (hP : va_P D classes (WX ca a t) H) (hS : va_S A s.heap H locs) (hl : lv_has ls 5 [(4, .int x4)]) : W p l e rm_X_X10_way__0 s m args below meth c H locs 0 0 Q (F0 m 53 ls []) := by
  obtain ⟨hx, hb, hml, hown, hts, hN, hK, hD, hA⟩ := id C
  have hf : (some (x4, t)) = some (r, u) := hf
  refine lv_iload hx hb dX10_way_53 (lv_at hl 0 rfl) ?_
  obtain ⟨e_55, e2_55⟩ := fb_e hf
  subst e_55; subst e2_55
  exact hr trivial _ _ _ _ hP hS dX10_way_55
set_option maxRecDepth 20000 in
theorem w_X_X10_way__0_49 {p : Program} {l : Launch} {e : Env} {s : State} {m : MethodId} {args : Array Value} {below : List Frame} {meth : Method} {c : Code} {A : Nat → Prop} {Q : State → Prop} {D : va_G} {ca : Nat → ClassId} {a : Nat → Nat} {u : fw_S} {r : Int32}  (C : CX (WX ca a) D (tyv ca) p s m args c A prog_1_method_18_code 5 RX10) (hr : True → RX (WX ca a) D p l e rm_X_X10_way__0 s m args below meth c A prog_1_method_18_code Q .ireturn [.int r] u) {t : fw_S} {x1 : Int32} {x3 : Int32} {x4 : Int32} {H : Heap} {locs : List Loc} {ls : Array Slot} (hf : b_X_X10_way__0_49  t x1 x3 x4 = some (r, u)) (hP : va_P D classes (WX ca a t) H) (hS : va_S A s.heap H locs) (hl : lv_has ls 5 [(0, .ref (a 0)), (1, .int x1), (3, .int x3), (4, .int x4)]) : W p l e rm_X_X10_way__0 s m args below meth c H locs 0 0 Q (F0 m 49 ls []) := by
  obtain ⟨hx, hb, hml, hown, hts, hN, hK, hD, hA⟩ := id C
  have hf : (if 0 ≤ x3 then b_X_X10_way__0_56 t x1 x3 x4 else b_X_X10_way__0_53 t x4) = some (r, u) := hf
  refine lv_iload_n hx hb dX10_way_49 rfl (lv_at hl 2 rfl) ?_
  refine lv_if_ge (tgt := 56) hx hb dX10_way_50 (by decide) (fun h_50 => ?_) (fun h_50 => ?_)
  · have hf := fb_t h_50 hf
    exact w_X_X10_way__0_56 C hr hf hP hS (lv_sub hl [0, 1, 2, 3] rfl)
  · have hf := fb_f h_50 hf
    exact w_X_X10_way__0_53 C hr hf hP hS (lv_sub hl [3] rfl)
set_option maxRecDepth 20000 in
theorem w_X_X10_way__0_46 {p : Program} {l : Launch} {e : Env} {s : State} {m : MethodId} {args : Array Value} {below : List Frame} {meth : Method} {c : Code} {A : Nat → Prop} {Q : State → Prop} {D : va_G} {ca : Nat → ClassId} {a : Nat → Nat} {u : fw_S} {r : Int32}  (C : CX (WX ca a) D (tyv ca) p s m args c A prog_1_method_18_code 5 RX10) (hr : True → RX (WX ca a) D p l e rm_X_X10_way__0 s m args below meth c A prog_1_method_18_code Q .ireturn [.int r] u) {t : fw_S}  {H : Heap} {locs : List Loc} {ls : Array Slot} (hf : b_X_X10_way__0_46  t  = some (r, u)) (hP : va_P D classes (WX ca a t) H) (hS : va_S A s.heap H locs) (hl : lv_has ls 5 []) : W p l e rm_X_X10_way__0 s m args below meth c H locs 0 0 Q (F0 m 46 ls []) := by
  obtain ⟨hx, hb, hml, hown, hts, hN, hK, hD, hA⟩ := id C
  have hf : (some ((-5 : Int32), t)) = some (r, u) := hf
  refine lv_bipush (v := (-5)) hx hb dX10_way_46 (by decide) ?_
  obtain ⟨e_48, e2_48⟩ := fb_e hf
  subst e_48; subst e2_48
  exact hr trivial _ _ _ _ hP hS dX10_way_48
set_option maxRecDepth 20000 in
theorem w_X_X10_way__0_23 {p : Program} {l : Launch} {e : Env} {s : State} {m : MethodId} {args : Array Value} {below : List Frame} {meth : Method} {c : Code} {A : Nat → Prop} {Q : State → Prop} {D : va_G} {ca : Nat → ClassId} {a : Nat → Nat} {u : fw_S} {r : Int32}  (C : CX (WX ca a) D (tyv ca) p s m args c A prog_1_method_18_code 5 RX10) (hr : True → RX (WX ca a) D p l e rm_X_X10_way__0 s m args below meth c A prog_1_method_18_code Q .ireturn [.int r] u) {t : fw_S} {x1 : Int32} {x2 : Int32} {x3 : Int32} {H : Heap} {locs : List Loc} {ls : Array Slot} (hf : b_X_X10_way__0_23  t x1 x2 x3 = some (r, u)) (hP : va_P D classes (WX ca a t) H) (hS : va_S A s.heap H locs) (hl : lv_has ls 5 [(0, .ref (a 0)), (1, .int x1), (2, .int x2), (3, .int x3)]) : W p l e rm_X_X10_way__0 s m args below meth c H locs 0 0 Q (F0 m 23 ls []) := by
  obtain ⟨hx, hb, hml, hown, hts, hN, hK, hD, hA⟩ := id C
  have hf : (fb_v (f_X_X1_now__3 t) fun t_1 => (fb_b (f_X_X8_trace__11_4 t_1 x1 x2) fun v_3 t_2 => (if 0 ≤ v_3 then b_X_X10_way__0_49 t_2 x1 x3 v_3 else b_X_X10_way__0_46 t_2))) = some (r, u) := hf
  refine lv_aload_n hx hb dX10_way_23 rfl (lv_at hl 0 rfl) ?_
  refine va_get (D := D) (ci := 10) (v := .ref (a 11)) (C := RX10) (T := TX10) (N := 13) hx hb hts inX10 hown hK hP 0 (heX_0 ca a t) rfl 8 (by decide) (hts _ kw_362) (fun _ h9 => h9) rfl dX10_way_24 ?_
  refine lv_aload_n hx hb dX10_way_27 rfl (lv_at hl 0 rfl) ?_
  refine va_get (D := D) (ci := 10) (v := .ref (a 3)) (C := RX10) (T := TX10) (N := 13) hx hb hts inX10 hown hK hP 0 (heX_0 ca a t) rfl 2 (by decide) (hts _ kw_356) (fun _ h9 => h9) rfl dX10_way_28 ?_
  obtain ⟨t_1, g_31, hf⟩ := fb_vs hf
  refine fw_V1 (As := []) (rest := [.ref (a 11)]) (n := 0) (q0 := 3) C (c_X_X1_now__3 (l := l) (D := D) (ca := ca) (a := a) g_31) kw_626 kw_627 kw_95 kw_629 kw_628 hP hS hl (heX_3 ca a t) rfl rfl rfl (by decide) (by decide +kernel) ⟨Nat.le_of_ble_eq_true rfl, Nat.le_of_ble_eq_true rfl⟩ rfl rfl (Nat.le_of_ble_eq_true rfl) dX10_way_31 (fun H locs hP hS => ?_)
  refine W.eq (g2 := F0 m 34 ls [.ref (a 4), .ref (a 11)]) rfl ?_
  refine lv_iload_n hx hb dX10_way_34 rfl (lv_at hl 1 rfl) ?_
  refine lv_iload_n hx hb dX10_way_35 rfl (lv_at hl 2 rfl) ?_
  obtain ⟨v_3, t_2, g_36, hf⟩ := fb_bs hf
  refine fw_V1 (As := [.ref (a 4), .int x1, .int x2]) (rest := []) (n := 3) (q0 := 11) C (c_X_X8_trace__11_4 (l := l) (D := D) (ca := ca) (a := a) g_36) kw_925 kw_926 kw_101 kw_928 kw_927 hP hS hl (heX_11 ca a t_1) rfl rfl rfl (by decide) (by decide +kernel) ⟨Nat.le_of_ble_eq_true rfl, Nat.le_of_ble_eq_true rfl⟩ rfl rfl (Nat.le_of_ble_eq_true rfl) dX10_way_36 (fun H locs hP hS => ?_)
  refine W.eq (g2 := F0 m 39 ls [.int v_3]) rfl ?_
  refine lv_istore (lv' := [(4, .int v_3), (0, .ref (a 0)), (1, .int x1), (2, .int x2), (3, .int x3)]) hx hb dX10_way_39 hl (by decide) rfl (fun ls hl => ?_)
  refine lv_iload hx hb dX10_way_41 (lv_at hl 0 rfl) ?_
  refine lv_if_ge (tgt := 49) hx hb dX10_way_43 (by decide) (fun h_43 => ?_) (fun h_43 => ?_)
  · have hf := fb_t h_43 hf
    exact w_X_X10_way__0_49 C hr hf hP hS (lv_sub hl [1, 2, 4, 0] rfl)
  · have hf := fb_f h_43 hf
    exact w_X_X10_way__0_46 C hr hf hP hS (lv_sub hl [] rfl)
set_option maxRecDepth 20000 in
theorem w_X_X10_way__0_16 {p : Program} {l : Launch} {e : Env} {s : State} {m : MethodId} {args : Array Value} {below : List Frame} {meth : Method} {c : Code} {A : Nat → Prop} {Q : State → Prop} {D : va_G} {ca : Nat → ClassId} {a : Nat → Nat} {u : fw_S} {r : Int32}  (C : CX (WX ca a) D (tyv ca) p s m args c A prog_1_method_18_code 5 RX10) (hr : True → RX (WX ca a) D p l e rm_X_X10_way__0 s m args below meth c A prog_1_method_18_code Q .ireturn [.int r] u) {t : fw_S} {x1 : Int32} {x2 : Int32} {x3 : Int32} {H : Heap} {locs : List Loc} {ls : Array Slot} (hf : b_X_X10_way__0_16  t x1 x2 x3 = some (r, u)) (hP : va_P D classes (WX ca a t) H) (hS : va_S A s.heap H locs) (hl : lv_has ls 5 [(0, .ref (a 0)), (1, .int x1), (2, .int x2), (3, .int x3)]) : W p l e rm_X_X10_way__0 s m args below meth c H locs 0 0 Q (F0 m 16 ls []) := by
  obtain ⟨hx, hb, hml, hown, hts, hN, hK, hD, hA⟩ := id C
  have hf : (if ((-1 : Int32)) ≤ x3 then b_X_X10_way__0_23 t x1 x2 x3 else b_X_X10_way__0_21 t) = some (r, u) := hf
  refine lv_iload_n hx hb dX10_way_16 rfl (lv_at hl 3 rfl) ?_
  refine lv_iconst (v := (-1)) hx hb dX10_way_17 (by decide) ?_
  refine lv_icmp_ge (tgt := 23) hx hb dX10_way_18 (by decide) (fun h_18 => ?_) (fun h_18 => ?_)
  · have hf := fb_t h_18 hf
    exact w_X_X10_way__0_23 C hr hf hP hS (lv_sub hl [0, 1, 2, 3] rfl)
  · have hf := fb_f h_18 hf
    exact w_X_X10_way__0_21 C hr hf hP hS (lv_sub hl [] rfl)
set_option maxRecDepth 20000 in
theorem w_X_X10_way__0_8 {p : Program} {l : Launch} {e : Env} {s : State} {m : MethodId} {args : Array Value} {below : List Frame} {meth : Method} {c : Code} {A : Nat → Prop} {Q : State → Prop} {D : va_G} {ca : Nat → ClassId} {a : Nat → Nat} {u : fw_S} {r : Int32}  (C : CX (WX ca a) D (tyv ca) p s m args c A prog_1_method_18_code 5 RX10) (hr : True → RX (WX ca a) D p l e rm_X_X10_way__0 s m args below meth c A prog_1_method_18_code Q .ireturn [.int r] u) {t : fw_S} {x1 : Int32} {x2 : Int32} {x3 : Int32} {H : Heap} {locs : List Loc} {ls : Array Slot} (hf : b_X_X10_way__0_8  t x1 x2 x3 = some (r, u)) (hP : va_P D classes (WX ca a t) H) (hS : va_S A s.heap H locs) (hl : lv_has ls 5 [(0, .ref (a 0)), (1, .int x1), (2, .int x2), (3, .int x3)]) : W p l e rm_X_X10_way__0 s m args below meth c H locs 0 0 Q (F0 m 8 ls []) := by
  obtain ⟨hx, hb, hml, hown, hts, hN, hK, hD, hA⟩ := id C
  have hf : (fb_b (f_X_X10_isCell t x2.toInt64) fun v_2 t_1 => (if v_2 = 0 then b_X_X10_way__0_21 t_1 else b_X_X10_way__0_16 t_1 x1 x2 x3)) = some (r, u) := hf
  refine lv_iload_n hx hb dX10_way_8 rfl (lv_at hl 2 rfl) ?_
  refine lv_i2l hx hb dX10_way_9 rfl ?_
  obtain ⟨v_2, t_1, g_10, hf⟩ := fb_bs hf
  refine fw_S1 (As := [.long x2.toInt64]) (rest := []) (n := 1) C (c_X_X10_isCell (l := l) (D := D) (ca := ca) (a := a) g_10) kw_398 kw_399 kw_92 kw_400 hP hS hl rfl rfl (by decide) (by decide +kernel) ⟨Nat.le_of_ble_eq_true rfl, Nat.le_of_ble_eq_true rfl⟩ rfl rfl (Nat.le_of_ble_eq_true rfl) dX10_way_10 (fun H locs hP hS => ?_)
  refine W.eq (g2 := F0 m 13 ls [.int v_2]) rfl ?_
  refine lv_if_eq (tgt := 21) hx hb dX10_way_13 (by decide) (fun h_13 => ?_) (fun h_13 => ?_)
  · have hf := fb_t h_13 hf
    exact w_X_X10_way__0_21 C hr hf hP hS (lv_sub hl [] rfl)
  · have hf := fb_f h_13 hf
    exact w_X_X10_way__0_16 C hr hf hP hS (lv_sub hl [0, 1, 2, 3] rfl)
set_option maxRecDepth 20000 in
theorem w_X_X10_way__0_0 {p : Program} {l : Launch} {e : Env} {s : State} {m : MethodId} {args : Array Value} {below : List Frame} {meth : Method} {c : Code} {A : Nat → Prop} {Q : State → Prop} {D : va_G} {ca : Nat → ClassId} {a : Nat → Nat} {u : fw_S} {r : Int32}  (C : CX (WX ca a) D (tyv ca) p s m args c A prog_1_method_18_code 5 RX10) (hr : True → RX (WX ca a) D p l e rm_X_X10_way__0 s m args below meth c A prog_1_method_18_code Q .ireturn [.int r] u) {t : fw_S} {x1 : Int32} {x2 : Int32} {x3 : Int32} {H : Heap} {locs : List Loc} {ls : Array Slot} (hf : b_X_X10_way__0_0  t x1 x2 x3 = some (r, u)) (hP : va_P D classes (WX ca a t) H) (hS : va_S A s.heap H locs) (hl : lv_has ls 5 [(0, .ref (a 0)), (1, .int x1), (2, .int x2), (3, .int x3)]) : W p l e rm_X_X10_way__0 s m args below meth c H locs 0 0 Q (F0 m 0 ls []) := by
  obtain ⟨hx, hb, hml, hown, hts, hN, hK, hD, hA⟩ := id C
  have hf : (fb_b (f_X_X10_isCell t x1.toInt64) fun v_2 t_1 => (if v_2 = 0 then b_X_X10_way__0_21 t_1 else b_X_X10_way__0_8 t_1 x1 x2 x3)) = some (r, u) := hf
  refine lv_iload_n hx hb dX10_way_0 rfl (lv_at hl 1 rfl) ?_
  refine lv_i2l hx hb dX10_way_1 rfl ?_
  obtain ⟨v_2, t_1, g_2, hf⟩ := fb_bs hf
  refine fw_S1 (As := [.long x1.toInt64]) (rest := []) (n := 1) C (c_X_X10_isCell (l := l) (D := D) (ca := ca) (a := a) g_2) kw_398 kw_399 kw_92 kw_400 hP hS hl rfl rfl (by decide) (by decide +kernel) ⟨Nat.le_of_ble_eq_true rfl, Nat.le_of_ble_eq_true rfl⟩ rfl rfl (Nat.le_of_ble_eq_true rfl) dX10_way_2 (fun H locs hP hS => ?_)
  refine W.eq (g2 := F0 m 5 ls [.int v_2]) rfl ?_
  refine lv_if_eq (tgt := 21) hx hb dX10_way_5 (by decide) (fun h_5 => ?_) (fun h_5 => ?_)
  · have hf := fb_t h_5 hf
    exact w_X_X10_way__0_21 C hr hf hP hS (lv_sub hl [] rfl)
  · have hf := fb_f h_5 hf
    exact w_X_X10_way__0_8 C hr hf hP hS (lv_sub hl [0, 1, 2, 3] rfl)
set_option maxRecDepth 20000 in
theorem c_X_X10_way__0 {l : Launch} {D : va_G} {ca : Nat → ClassId} {a : Nat → Nat} {t : fw_S} {x1 : Int32} {x2 : Int32} {x3 : Int32} {u : fw_S} {r : Int32} (hf : f_X_X10_way__0 t x1 x2 x3 = some (r, u)) : MC (WX ca a) D (tyv ca) l yX10_way (.code yX10_way prog_1_method_18_code 5 (some .int) :: lw_gd) rm_X_X10_way__0 [.ref (a 0), .int x1, .int x2, .int x3] (some (.int r)) t u := by
  refine fw_met (okX ca a) (by decide +kernel) rfl rfl (Nat.le_of_ble_eq_true rfl) ?_
  intro p e s m args below meth c A Q ls C hr hk hP hS hl hQ
  exact w_X_X10_way__0_0 C (fun _ => fw_ri C hr hk hQ) hf hP hS (lv_sub hl [0, 1, 2, 3] rfl)
/-! ReactiveSheet.Telling.forget()V ['x.trial'] -/
abbrev rm_X_X7_forget__7 : Room := { frames := 0, cells := 0, slots := 0, locals := 0 }
def b_X_X7_forget__7_0  (t : fw_S)  : Option fw_S := fb_l (up_J t 9 ((0 : Int64))) fun t_1 => (some t_1)
def f_X_X7_forget__7 (t : fw_S)  : Option fw_S := b_X_X7_forget__7_0 t 
set_option maxRecDepth 20000 in
theorem w_X_X7_forget__7_0 {p : Program} {l : Launch} {e : Env} {s : State} {m : MethodId} {args : Array Value} {below : List Frame} {meth : Method} {c : Code} {A : Nat → Prop} {Q : State → Prop} {D : va_G} {ca : Nat → ClassId} {a : Nat → Nat} {u : fw_S}  (C : CX (WX ca a) D (tyv ca) p s m args c A prog_9_method_3_code 1 RX7) (hr : True → RX (WX ca a) D p l e rm_X_X7_forget__7 s m args below meth c A prog_9_method_3_code Q .return_ [] u) {t : fw_S}  {H : Heap} {locs : List Loc} {ls : Array Slot} (hf : b_X_X7_forget__7_0  t  = some u) (hP : va_P D classes (WX ca a t) H) (hS : va_S A s.heap H locs) (hl : lv_has ls 1 [(0, .ref (a 7))]) : W p l e rm_X_X7_forget__7 s m args below meth c H locs 0 0 Q (F0 m 0 ls []) := by
  obtain ⟨hx, hb, hml, hown, hts, hN, hK, hD, hA⟩ := id C
  have hf : (fb_l (up_J t 9 ((0 : Int64))) fun t_1 => (some t_1)) = some u := hf
  refine lv_aload_n hx hb dX7_forget_0 rfl (lv_at hl 0 rfl) ?_
  refine lv_lconst (v := 0) hx hb dX7_forget_1 (by decide) ?_
  refine va_put (D := D) (ci := 7) (v := .long ((0 : Int64))) (ty := .long) (C := RX7) (T := TX7) (N := 4) hx hb hts inX7 tyX7 tyX7_ok nmX7 hown hK hP (hD t) hS 7 (heX_7 ca a t) rfl 3 (by decide) (hts _ kw_260) (fun _ h9 => h9) rfl (by decide +kernel) rfl rfl (Nat.le_of_ble_eq_true rfl) dX7_forget_2 (fun H locs hP _ hS => ?_)
  rw [suX_7_3] at hP
  obtain ⟨t_1, e_2, hf⟩ := fb_ls hf
  rw [← e_2] at hP
  have e_5 := fb_ev hf
  subst e_5
  exact hr trivial _ _ _ _ hP hS dX7_forget_5
set_option maxRecDepth 20000 in
theorem c_X_X7_forget__7 {l : Launch} {D : va_G} {ca : Nat → ClassId} {a : Nat → Nat} {t : fw_S}  {u : fw_S} (hf : f_X_X7_forget__7 t  = some u) : MC (WX ca a) D (tyv ca) l yX7_forget (.code yX7_forget prog_9_method_3_code 1 none :: lw_gd) rm_X_X7_forget__7 [.ref (a 7)] none t u := by
  refine fw_met (okX ca a) (by decide +kernel) rfl rfl (Nat.le_of_ble_eq_true rfl) ?_
  intro p e s m args below meth c A Q ls C hr hk hP hS hl hQ
  exact w_X_X7_forget__7_0 C (fun _ => fw_rv C hr hk hQ) hf hP hS (lv_sub hl [0] rfl)
/-! ReactiveSheet.Telling.put(IIJLReactiveSheet.Formula;)V ['x.trial', 'null'] -/
abbrev rm_X_X7_put__7_N : Room := { frames := 1, cells := 0, slots := 0, locals := 21 }
def b_X_X7_put__7_N_43  (t : fw_S)  : Option fw_S := some t
def b_X_X7_put__7_N_8  (t : fw_S) (x1 : Int32) (x2 : Int32) (y3 : Int64) : Option fw_S := fb_g (¬ (x1 < 0 ∨ 32 ≤ x1.toNatClampNeg)) (fb_l (up_F t 23 (upd (st_F t 23) x1.toNatClampNeg x2)) fun t_1 => (fb_g (¬ (x1 < 0 ∨ 32 ≤ x1.toNatClampNeg)) (fb_l (up_G t_1 6 (vp_updL (st_G t_1 6) x1.toNatClampNeg y3)) fun t_2 => (fb_g (¬ (x1 < 0 ∨ 32 ≤ x1.toNatClampNeg)) (fb_b (f_X_X10_bit t_2 x1) fun v_4 t_3 => (fb_l (up_J t_3 9 ((st_J t_2 9) ||| v_4)) fun t_5 => (b_X_X7_put__7_N_43 t_5)))))))
def b_X_X7_put__7_N_0  (t : fw_S) (x1 : Int32) (x2 : Int32) (y3 : Int64) : Option fw_S := fb_b (f_X_X10_isCell t x1.toInt64) fun v_2 t_1 => (if v_2 = 0 then b_X_X7_put__7_N_43 t_1 else b_X_X7_put__7_N_8 t_1 x1 x2 y3)
def f_X_X7_put__7_N (t : fw_S) (x1 : Int32) (x2 : Int32) (y3 : Int64) : Option fw_S := b_X_X7_put__7_N_0 t x1 x2 y3
set_option maxRecDepth 20000 in
theorem w_X_X7_put__7_N_43 {p : Program} {l : Launch} {e : Env} {s : State} {m : MethodId} {args : Array Value} {below : List Frame} {meth : Method} {c : Code} {A : Nat → Prop} {Q : State → Prop} {D : va_G} {ca : Nat → ClassId} {a : Nat → Nat} {u : fw_S}  (C : CX (WX ca a) D (tyv ca) p s m args c A prog_9_method_2_code 6 RX7) (hr : True → RX (WX ca a) D p l e rm_X_X7_put__7_N s m args below meth c A prog_9_method_2_code Q .return_ [] u) {t : fw_S}  {H : Heap} {locs : List Loc} {ls : Array Slot} (hf : b_X_X7_put__7_N_43  t  = some u) (hP : va_P D classes (WX ca a t) H) (hS : va_S A s.heap H locs) (hl : lv_has ls 6 []) : W p l e rm_X_X7_put__7_N s m args below meth c H locs 0 0 Q (F0 m 43 ls []) := by
  obtain ⟨hx, hb, hml, hown, hts, hN, hK, hD, hA⟩ := id C
  have hf : (some t) = some u := hf
  have e_43 := fb_ev hf
  subst e_43
  exact hr trivial _ _ _ _ hP hS dX7_put_43
set_option maxRecDepth 20000 in
theorem w_X_X7_put__7_N_8 {p : Program} {l : Launch} {e : Env} {s : State} {m : MethodId} {args : Array Value} {below : List Frame} {meth : Method} {c : Code} {A : Nat → Prop} {Q : State → Prop} {D : va_G} {ca : Nat → ClassId} {a : Nat → Nat} {u : fw_S}  (C : CX (WX ca a) D (tyv ca) p s m args c A prog_9_method_2_code 6 RX7) (hr : True → RX (WX ca a) D p l e rm_X_X7_put__7_N s m args below meth c A prog_9_method_2_code Q .return_ [] u) {t : fw_S} {x1 : Int32} {x2 : Int32} {y3 : Int64} {H : Heap} {locs : List Loc} {ls : Array Slot} (hf : b_X_X7_put__7_N_8  t x1 x2 y3 = some u) (hP : va_P D classes (WX ca a t) H) (hS : va_S A s.heap H locs) (hl : lv_has ls 6 [(0, .ref (a 7)), (1, .int x1), (2, .int x2), (3, .long y3), (5, .null)]) : W p l e rm_X_X7_put__7_N s m args below meth c H locs 0 0 Q (F0 m 8 ls []) := by
  obtain ⟨hx, hb, hml, hown, hts, hN, hK, hD, hA⟩ := id C
  have hf : (fb_g (¬ (x1 < 0 ∨ 32 ≤ x1.toNatClampNeg)) (fb_l (up_F t 23 (upd (st_F t 23) x1.toNatClampNeg x2)) fun t_1 => (fb_g (¬ (x1 < 0 ∨ 32 ≤ x1.toNatClampNeg)) (fb_l (up_G t_1 6 (vp_updL (st_G t_1 6) x1.toNatClampNeg y3)) fun t_2 => (fb_g (¬ (x1 < 0 ∨ 32 ≤ x1.toNatClampNeg)) (fb_b (f_X_X10_bit t_2 x1) fun v_4 t_3 => (fb_l (up_J t_3 9 ((st_J t_2 9) ||| v_4)) fun t_5 => (b_X_X7_put__7_N_43 t_5)))))))) = some u := hf
  refine lv_aload_n hx hb dX7_put_8 rfl (lv_at hl 0 rfl) ?_
  refine va_get (D := D) (ci := 7) (v := .ref (a 46)) (C := RX7) (T := TX7) (N := 4) hx hb hts inX7 hown hK hP 7 (heX_7 ca a t) rfl 0 (by decide) (hts _ kw_257) (fun _ h9 => h9) rfl dX7_put_9 ?_
  refine lv_iload_n hx hb dX7_put_12 rfl (lv_at hl 1 rfl) ?_
  refine lv_iload_n hx hb dX7_put_13 rfl (lv_at hl 2 rfl) ?_
  obtain ⟨h_14, hf⟩ := fb_if hf
  refine va_iast hx hb hK hP (hD t) hS 46 0 (haX_46 ca a t) rfl h_14 dX7_put_14 (fun H locs hP _ hS => ?_)
  rw [saX_46] at hP
  obtain ⟨t_1, e_14, hf⟩ := fb_ls hf
  rw [← e_14] at hP
  refine lv_aload_n hx hb dX7_put_15 rfl (lv_at hl 0 rfl) ?_
  refine va_get (D := D) (ci := 7) (v := .ref (a 47)) (C := RX7) (T := TX7) (N := 4) hx hb hts inX7 hown hK hP 7 (heX_7 ca a t_1) rfl 1 (by decide) (hts _ kw_258) (fun _ h9 => h9) rfl dX7_put_16 ?_
  refine lv_iload_n hx hb dX7_put_19 rfl (lv_at hl 1 rfl) ?_
  refine lv_lload_n hx hb dX7_put_20 rfl (lv_at hl 3 rfl) ?_
  obtain ⟨h_21, hf⟩ := fb_if hf
  refine va_last hx hb hK hP (hD t_1) hS 47 1 (haX_47 ca a t_1) rfl h_21 dX7_put_21 (fun H locs hP _ hS => ?_)
  rw [saX_47] at hP
  obtain ⟨t_2, e_21, hf⟩ := fb_ls hf
  rw [← e_21] at hP
  refine lv_aload_n hx hb dX7_put_22 rfl (lv_at hl 0 rfl) ?_
  refine va_get (D := D) (ci := 7) (v := .ref (a 48)) (C := RX7) (T := TX7) (N := 4) hx hb hts inX7 hown hK hP 7 (heX_7 ca a t_2) rfl 2 (by decide) (hts _ kw_259) (fun _ h9 => h9) rfl dX7_put_23 ?_
  refine lv_iload_n hx hb dX7_put_26 rfl (lv_at hl 1 rfl) ?_
  refine lv_aloadN hx hb dX7_put_27 (lv_at hl 4 rfl) ?_
  obtain ⟨h_29, hf⟩ := fb_if hf
  refine va_astqN (C := "ReactiveSheet$Formula") hx hb hK hP (hD t_2) hS 48 3 (haX_48 ca a t_2) rfl h_29 dX7_put_29 (fun H locs hP _ hS => ?_)
  rw [fb_nq, saX_48] at hP
  refine lv_aload_n hx hb dX7_put_30 rfl (lv_at hl 0 rfl) ?_
  refine lv_dup hx hb dX7_put_31 rfl ?_
  refine va_get (D := D) (ci := 7) (v := .long (st_J t_2 9)) (C := RX7) (T := TX7) (N := 4) hx hb hts inX7 hown hK hP 7 (heX_7 ca a t_2) rfl 3 (by decide) (hts _ kw_260) (fun _ h9 => h9) rfl dX7_put_32 ?_
  refine lv_iload_n hx hb dX7_put_35 rfl (lv_at hl 1 rfl) ?_
  obtain ⟨v_4, t_3, g_36, hf⟩ := fb_bs hf
  refine fw_S2 (As := [.int x1]) (rest := [.long (st_J t_2 9), .ref (a 7)]) (n := 1) C (c_X_X10_bit (l := l) (D := D) (ca := ca) (a := a) g_36) kw_407 kw_408 kw_92 kw_409 hP hS hl rfl rfl (by decide) (by decide +kernel) ⟨Nat.le_of_ble_eq_true rfl, Nat.le_of_ble_eq_true rfl⟩ rfl rfl (Nat.le_of_ble_eq_true rfl) dX7_put_36 (fun H locs hP hS => ?_)
  refine W.eq (g2 := F0 m 39 ls [.long v_4, .long (st_J t_2 9), .ref (a 7)]) rfl ?_
  refine lv_lor hx hb dX7_put_39 ?_
  refine va_put (D := D) (ci := 7) (v := .long ((st_J t_2 9) ||| v_4)) (ty := .long) (C := RX7) (T := TX7) (N := 4) hx hb hts inX7 tyX7 tyX7_ok nmX7 hown hK hP (hD t_3) hS 7 (heX_7 ca a t_3) rfl 3 (by decide) (hts _ kw_260) (fun _ h9 => h9) rfl (by decide +kernel) rfl rfl (Nat.le_of_ble_eq_true rfl) dX7_put_40 (fun H locs hP _ hS => ?_)
  rw [suX_7_3] at hP
  obtain ⟨t_5, e_40, hf⟩ := fb_ls hf
  rw [← e_40] at hP
  exact w_X_X7_put__7_N_43 C hr hf hP hS (lv_sub hl [] rfl)
set_option maxRecDepth 20000 in
theorem w_X_X7_put__7_N_0 {p : Program} {l : Launch} {e : Env} {s : State} {m : MethodId} {args : Array Value} {below : List Frame} {meth : Method} {c : Code} {A : Nat → Prop} {Q : State → Prop} {D : va_G} {ca : Nat → ClassId} {a : Nat → Nat} {u : fw_S}  (C : CX (WX ca a) D (tyv ca) p s m args c A prog_9_method_2_code 6 RX7) (hr : True → RX (WX ca a) D p l e rm_X_X7_put__7_N s m args below meth c A prog_9_method_2_code Q .return_ [] u) {t : fw_S} {x1 : Int32} {x2 : Int32} {y3 : Int64} {H : Heap} {locs : List Loc} {ls : Array Slot} (hf : b_X_X7_put__7_N_0  t x1 x2 y3 = some u) (hP : va_P D classes (WX ca a t) H) (hS : va_S A s.heap H locs) (hl : lv_has ls 6 [(0, .ref (a 7)), (1, .int x1), (2, .int x2), (3, .long y3), (5, .null)]) : W p l e rm_X_X7_put__7_N s m args below meth c H locs 0 0 Q (F0 m 0 ls []) := by
  obtain ⟨hx, hb, hml, hown, hts, hN, hK, hD, hA⟩ := id C
  have hf : (fb_b (f_X_X10_isCell t x1.toInt64) fun v_2 t_1 => (if v_2 = 0 then b_X_X7_put__7_N_43 t_1 else b_X_X7_put__7_N_8 t_1 x1 x2 y3)) = some u := hf
  refine lv_iload_n hx hb dX7_put_0 rfl (lv_at hl 1 rfl) ?_
  refine lv_i2l hx hb dX7_put_1 rfl ?_
  obtain ⟨v_2, t_1, g_2, hf⟩ := fb_bs hf
  refine fw_S2 (As := [.long x1.toInt64]) (rest := []) (n := 1) C (c_X_X10_isCell (l := l) (D := D) (ca := ca) (a := a) g_2) kw_406 kw_399 kw_92 kw_400 hP hS hl rfl rfl (by decide) (by decide +kernel) ⟨Nat.le_of_ble_eq_true rfl, Nat.le_of_ble_eq_true rfl⟩ rfl rfl (Nat.le_of_ble_eq_true rfl) dX7_put_2 (fun H locs hP hS => ?_)
  refine W.eq (g2 := F0 m 5 ls [.int v_2]) rfl ?_
  refine lv_if_eq (tgt := 43) hx hb dX7_put_5 (by decide) (fun h_5 => ?_) (fun h_5 => ?_)
  · have hf := fb_t h_5 hf
    exact w_X_X7_put__7_N_43 C hr hf hP hS (lv_sub hl [] rfl)
  · have hf := fb_f h_5 hf
    exact w_X_X7_put__7_N_8 C hr hf hP hS (lv_sub hl [0, 1, 2, 3, 4] rfl)
set_option maxRecDepth 20000 in
theorem c_X_X7_put__7_N {l : Launch} {D : va_G} {ca : Nat → ClassId} {a : Nat → Nat} {t : fw_S} {x1 : Int32} {x2 : Int32} {y3 : Int64} {u : fw_S} (hf : f_X_X7_put__7_N t x1 x2 y3 = some u) : MC (WX ca a) D (tyv ca) l yX7_put (.code yX7_put prog_9_method_2_code 6 none :: lw_gd) rm_X_X7_put__7_N [.ref (a 7), .int x1, .int x2, .long y3, .null] none t u := by
  refine fw_met (okX ca a) (by decide +kernel) rfl rfl (Nat.le_of_ble_eq_true rfl) ?_
  intro p e s m args below meth c A Q ls C hr hk hP hS hl hQ
  exact w_X_X7_put__7_N_0 C (fun _ => fw_rv C hr hk hQ) hf hP hS (lv_sub hl [0, 1, 2, 3, 4] rfl)
/-! ReactiveSheet.Telling.tell(LReactiveSheet.Cells;)V ['x.trial', 'x.engine.now'] -/
abbrev rm_X_X7_tell__7_4 : Room := { frames := 2, cells := 0, slots := 0, locals := 46 }
def b_X_X7_tell__7_4_48  (t : fw_S)  : Option fw_S := some t
def b_X_X7_tell__7_4_42 (k2 : fw_S → Int32 → Option fw_S) (t : fw_S) (x2 : Int32) : Option fw_S := k2 t (x2 + 1)
def b_X_X7_tell__7_4_19 (k2 : fw_S → Int32 → Option fw_S) (t : fw_S) (x2 : Int32) : Option fw_S := fb_g (¬ (x2 < 0 ∨ 32 ≤ x2.toNatClampNeg)) (fb_g (¬ (x2 < 0 ∨ 32 ≤ x2.toNatClampNeg)) (fb_g (¬ (x2 < 0 ∨ 32 ≤ x2.toNatClampNeg)) (fb_v (f_X_X0_become__4_N t x2 (st_F t 23 x2.toNatClampNeg) (st_G t 6 x2.toNatClampNeg)) fun t_1 => (b_X_X7_tell__7_4_42 k2 t_1 x2))))
def b_X_X7_tell__7_4_8 (k2 : fw_S → Int32 → Option fw_S) (t : fw_S) (x2 : Int32) : Option fw_S := fb_b (f_X_X10_has t (st_J t 9) x2) fun v_2 t_1 => (if v_2 = 0 then b_X_X7_tell__7_4_42 k2 t_1 x2 else b_X_X7_tell__7_4_19 k2 t_1 x2)
def b_X_X7_tell__7_4_2  : Nat → (fw_S → Int32 → Option fw_S)
  | 0 => fun _ _ => none
  | n + 1 => fun t x2 => if ((32 : Int32)) ≤ x2 then b_X_X7_tell__7_4_48 t else b_X_X7_tell__7_4_8 (b_X_X7_tell__7_4_2 n) t x2
def b_X_X7_tell__7_4_0  (t : fw_S)  : Option fw_S := b_X_X7_tell__7_4_2 3000 t ((0 : Int32))
def f_X_X7_tell__7_4 (t : fw_S)  : Option fw_S := b_X_X7_tell__7_4_0 t 
set_option maxRecDepth 20000 in
theorem w_X_X7_tell__7_4_48 {p : Program} {l : Launch} {e : Env} {s : State} {m : MethodId} {args : Array Value} {below : List Frame} {meth : Method} {c : Code} {A : Nat → Prop} {Q : State → Prop} {D : va_G} {ca : Nat → ClassId} {a : Nat → Nat} {u : fw_S}  (C : CX (WX ca a) D (tyv ca) p s m args c A prog_9_method_6_code 3 RX7) (hr : True → RX (WX ca a) D p l e rm_X_X7_tell__7_4 s m args below meth c A prog_9_method_6_code Q .return_ [] u) {t : fw_S}  {H : Heap} {locs : List Loc} {ls : Array Slot} (hf : b_X_X7_tell__7_4_48  t  = some u) (hP : va_P D classes (WX ca a t) H) (hS : va_S A s.heap H locs) (hl : lv_has ls 3 []) : W p l e rm_X_X7_tell__7_4 s m args below meth c H locs 0 0 Q (F0 m 48 ls []) := by
  obtain ⟨hx, hb, hml, hown, hts, hN, hK, hD, hA⟩ := id C
  have hf : (some t) = some u := hf
  have e_48 := fb_ev hf
  subst e_48
  exact hr trivial _ _ _ _ hP hS dX7_tell_48
set_option maxRecDepth 20000 in
theorem w_X_X7_tell__7_4_42 {p : Program} {l : Launch} {e : Env} {s : State} {m : MethodId} {args : Array Value} {below : List Frame} {meth : Method} {c : Code} {A : Nat → Prop} {Q : State → Prop} {D : va_G} {ca : Nat → ClassId} {a : Nat → Nat} {u : fw_S} {k2 : fw_S → Int32 → Option fw_S} (C : CX (WX ca a) D (tyv ca) p s m args c A prog_9_method_6_code 3 RX7) (hr : True → RX (WX ca a) D p l e rm_X_X7_tell__7_4 s m args below meth c A prog_9_method_6_code Q .return_ [] u) (hk2 : ∀ (t : fw_S) (x2 : Int32) (H : Heap) (locs : List Loc) (ls : Array Slot), k2 t x2 = some u → va_P D classes (WX ca a t) H → va_S A s.heap H locs → lv_has ls 3 [(0, .ref (a 7)), (1, .ref (a 4)), (2, .int x2)] → W p l e rm_X_X7_tell__7_4 s m args below meth c H locs 0 0 Q (F0 m 2 ls [])) {t : fw_S} {x2 : Int32} {H : Heap} {locs : List Loc} {ls : Array Slot} (hf : b_X_X7_tell__7_4_42 k2 t x2 = some u) (hP : va_P D classes (WX ca a t) H) (hS : va_S A s.heap H locs) (hl : lv_has ls 3 [(0, .ref (a 7)), (1, .ref (a 4)), (2, .int x2)]) : W p l e rm_X_X7_tell__7_4 s m args below meth c H locs 0 0 Q (F0 m 42 ls []) := by
  obtain ⟨hx, hb, hml, hown, hts, hN, hK, hD, hA⟩ := id C
  have hf : (k2 t (x2 + 1)) = some u := hf
  refine lv_iinc (v := x2 + 1) (lv' := [(2, .int (x2 + 1)), (0, .ref (a 7)), (1, .ref (a 4))]) hx hb dX7_tell_42 hl (k := 2) rfl rfl (by decide) rfl (fun ls hl => ?_)
  refine lv_goto (tgt := 2) hx hb dX7_tell_45 (by decide) ?_
  exact hk2 t (x2 + 1) _ _ _ hf hP hS (lv_sub hl [1, 2, 0] rfl)
set_option maxRecDepth 20000 in
theorem w_X_X7_tell__7_4_19 {p : Program} {l : Launch} {e : Env} {s : State} {m : MethodId} {args : Array Value} {below : List Frame} {meth : Method} {c : Code} {A : Nat → Prop} {Q : State → Prop} {D : va_G} {ca : Nat → ClassId} {a : Nat → Nat} {u : fw_S} {k2 : fw_S → Int32 → Option fw_S} (C : CX (WX ca a) D (tyv ca) p s m args c A prog_9_method_6_code 3 RX7) (hr : True → RX (WX ca a) D p l e rm_X_X7_tell__7_4 s m args below meth c A prog_9_method_6_code Q .return_ [] u) (hk2 : ∀ (t : fw_S) (x2 : Int32) (H : Heap) (locs : List Loc) (ls : Array Slot), k2 t x2 = some u → va_P D classes (WX ca a t) H → va_S A s.heap H locs → lv_has ls 3 [(0, .ref (a 7)), (1, .ref (a 4)), (2, .int x2)] → W p l e rm_X_X7_tell__7_4 s m args below meth c H locs 0 0 Q (F0 m 2 ls [])) {t : fw_S} {x2 : Int32} {H : Heap} {locs : List Loc} {ls : Array Slot} (hf : b_X_X7_tell__7_4_19 k2 t x2 = some u) (hP : va_P D classes (WX ca a t) H) (hS : va_S A s.heap H locs) (hl : lv_has ls 3 [(0, .ref (a 7)), (1, .ref (a 4)), (2, .int x2)]) : W p l e rm_X_X7_tell__7_4 s m args below meth c H locs 0 0 Q (F0 m 19 ls []) := by
  obtain ⟨hx, hb, hml, hown, hts, hN, hK, hD, hA⟩ := id C
  have hf : (fb_g (¬ (x2 < 0 ∨ 32 ≤ x2.toNatClampNeg)) (fb_g (¬ (x2 < 0 ∨ 32 ≤ x2.toNatClampNeg)) (fb_g (¬ (x2 < 0 ∨ 32 ≤ x2.toNatClampNeg)) (fb_v (f_X_X0_become__4_N t x2 (st_F t 23 x2.toNatClampNeg) (st_G t 6 x2.toNatClampNeg)) fun t_1 => (b_X_X7_tell__7_4_42 k2 t_1 x2))))) = some u := hf
  refine lv_aload_n hx hb dX7_tell_19 rfl (lv_at hl 1 rfl) ?_
  refine lv_iload_n hx hb dX7_tell_20 rfl (lv_at hl 2 rfl) ?_
  refine lv_aload_n hx hb dX7_tell_21 rfl (lv_at hl 0 rfl) ?_
  refine va_get (D := D) (ci := 7) (v := .ref (a 46)) (C := RX7) (T := TX7) (N := 4) hx hb hts inX7 hown hK hP 7 (heX_7 ca a t) rfl 0 (by decide) (hts _ kw_257) (fun _ h9 => h9) rfl dX7_tell_22 ?_
  refine lv_iload_n hx hb dX7_tell_25 rfl (lv_at hl 2 rfl) ?_
  obtain ⟨h_26, hf⟩ := fb_if hf
  refine va_iald hx hb hK hP 46 0 (haX_46 ca a t) rfl h_26 dX7_tell_26 ?_
  refine lv_aload_n hx hb dX7_tell_27 rfl (lv_at hl 0 rfl) ?_
  refine va_get (D := D) (ci := 7) (v := .ref (a 47)) (C := RX7) (T := TX7) (N := 4) hx hb hts inX7 hown hK hP 7 (heX_7 ca a t) rfl 1 (by decide) (hts _ kw_258) (fun _ h9 => h9) rfl dX7_tell_28 ?_
  refine lv_iload_n hx hb dX7_tell_31 rfl (lv_at hl 2 rfl) ?_
  obtain ⟨h_32, hf⟩ := fb_if hf
  refine va_lald hx hb hK hP 47 1 (haX_47 ca a t) rfl h_32 dX7_tell_32 ?_
  refine lv_aload_n hx hb dX7_tell_33 rfl (lv_at hl 0 rfl) ?_
  refine va_get (D := D) (ci := 7) (v := .ref (a 48)) (C := RX7) (T := TX7) (N := 4) hx hb hts inX7 hown hK hP 7 (heX_7 ca a t) rfl 2 (by decide) (hts _ kw_259) (fun _ h9 => h9) rfl dX7_tell_34 ?_
  refine lv_iload_n hx hb dX7_tell_37 rfl (lv_at hl 2 rfl) ?_
  obtain ⟨h_38, hf⟩ := fb_if hf
  refine va_aldq hx hb hK hP 48 3 (haX_48 ca a t) rfl h_38 dX7_tell_38 ?_
  obtain ⟨t_1, g_39, hf⟩ := fb_vs hf
  refine fw_V1 (As := [.int x2, .int (st_F t 23 x2.toNatClampNeg), .long (st_G t 6 x2.toNatClampNeg), .null]) (rest := []) (n := 4) (q0 := 4) C (c_X_X0_become__4_N (l := l) (D := D) (ca := ca) (a := a) g_39) kw_444 kw_445 kw_96 kw_447 kw_446 hP hS hl (heX_4 ca a t) rfl rfl rfl (by decide) (by decide +kernel) ⟨Nat.le_of_ble_eq_true rfl, Nat.le_of_ble_eq_true rfl⟩ rfl rfl (Nat.le_of_ble_eq_true rfl) dX7_tell_39 (fun H locs hP hS => ?_)
  refine W.eq (g2 := F0 m 42 ls []) rfl ?_
  exact w_X_X7_tell__7_4_42 C hr hk2 hf hP hS (lv_sub hl [0, 1, 2] rfl)
set_option maxRecDepth 20000 in
theorem w_X_X7_tell__7_4_8 {p : Program} {l : Launch} {e : Env} {s : State} {m : MethodId} {args : Array Value} {below : List Frame} {meth : Method} {c : Code} {A : Nat → Prop} {Q : State → Prop} {D : va_G} {ca : Nat → ClassId} {a : Nat → Nat} {u : fw_S} {k2 : fw_S → Int32 → Option fw_S} (C : CX (WX ca a) D (tyv ca) p s m args c A prog_9_method_6_code 3 RX7) (hr : True → RX (WX ca a) D p l e rm_X_X7_tell__7_4 s m args below meth c A prog_9_method_6_code Q .return_ [] u) (hk2 : ∀ (t : fw_S) (x2 : Int32) (H : Heap) (locs : List Loc) (ls : Array Slot), k2 t x2 = some u → va_P D classes (WX ca a t) H → va_S A s.heap H locs → lv_has ls 3 [(0, .ref (a 7)), (1, .ref (a 4)), (2, .int x2)] → W p l e rm_X_X7_tell__7_4 s m args below meth c H locs 0 0 Q (F0 m 2 ls [])) {t : fw_S} {x2 : Int32} {H : Heap} {locs : List Loc} {ls : Array Slot} (hf : b_X_X7_tell__7_4_8 k2 t x2 = some u) (hP : va_P D classes (WX ca a t) H) (hS : va_S A s.heap H locs) (hl : lv_has ls 3 [(0, .ref (a 7)), (1, .ref (a 4)), (2, .int x2)]) : W p l e rm_X_X7_tell__7_4 s m args below meth c H locs 0 0 Q (F0 m 8 ls []) := by
  obtain ⟨hx, hb, hml, hown, hts, hN, hK, hD, hA⟩ := id C
  have hf : (fb_b (f_X_X10_has t (st_J t 9) x2) fun v_2 t_1 => (if v_2 = 0 then b_X_X7_tell__7_4_42 k2 t_1 x2 else b_X_X7_tell__7_4_19 k2 t_1 x2)) = some u := hf
  refine lv_aload_n hx hb dX7_tell_8 rfl (lv_at hl 0 rfl) ?_
  refine va_get (D := D) (ci := 7) (v := .long (st_J t 9)) (C := RX7) (T := TX7) (N := 4) hx hb hts inX7 hown hK hP 7 (heX_7 ca a t) rfl 3 (by decide) (hts _ kw_260) (fun _ h9 => h9) rfl dX7_tell_9 ?_
  refine lv_iload_n hx hb dX7_tell_12 rfl (lv_at hl 2 rfl) ?_
  obtain ⟨v_2, t_1, g_13, hf⟩ := fb_bs hf
  refine fw_S2 (As := [.long (st_J t 9), .int x2]) (rest := []) (n := 2) C (c_X_X10_has (l := l) (D := D) (ca := ca) (a := a) g_13) kw_441 kw_442 kw_92 kw_443 hP hS hl rfl rfl (by decide) (by decide +kernel) ⟨Nat.le_of_ble_eq_true rfl, Nat.le_of_ble_eq_true rfl⟩ rfl rfl (Nat.le_of_ble_eq_true rfl) dX7_tell_13 (fun H locs hP hS => ?_)
  refine W.eq (g2 := F0 m 16 ls [.int v_2]) rfl ?_
  refine lv_if_eq (tgt := 42) hx hb dX7_tell_16 (by decide) (fun h_16 => ?_) (fun h_16 => ?_)
  · have hf := fb_t h_16 hf
    exact w_X_X7_tell__7_4_42 C hr hk2 hf hP hS (lv_sub hl [0, 1, 2] rfl)
  · have hf := fb_f h_16 hf
    exact w_X_X7_tell__7_4_19 C hr hk2 hf hP hS (lv_sub hl [0, 1, 2] rfl)
set_option maxRecDepth 20000 in
theorem w_X_X7_tell__7_4_2 {p : Program} {l : Launch} {e : Env} {s : State} {m : MethodId} {args : Array Value} {below : List Frame} {meth : Method} {c : Code} {A : Nat → Prop} {Q : State → Prop} {D : va_G} {ca : Nat → ClassId} {a : Nat → Nat} {u : fw_S}  (C : CX (WX ca a) D (tyv ca) p s m args c A prog_9_method_6_code 3 RX7) (hr : True → RX (WX ca a) D p l e rm_X_X7_tell__7_4 s m args below meth c A prog_9_method_6_code Q .return_ [] u) : ∀ (n : Nat) (t : fw_S) (x2 : Int32) (H : Heap) (locs : List Loc) (ls : Array Slot), b_X_X7_tell__7_4_2  n t x2 = some u → va_P D classes (WX ca a t) H → va_S A s.heap H locs → lv_has ls 3 [(0, .ref (a 7)), (1, .ref (a 4)), (2, .int x2)] → W p l e rm_X_X7_tell__7_4 s m args below meth c H locs 0 0 Q (F0 m 2 ls []) := by
  obtain ⟨hx, hb, hml, hown, hts, hN, hK, hD, hA⟩ := id C
  intro n
  induction n with
  | zero => intro t x2 H locs ls hf; cases hf
  | succ n hk2 =>
    intro t x2 H locs ls hf hP hS hl
    have hf : (if ((32 : Int32)) ≤ x2 then b_X_X7_tell__7_4_48 t else b_X_X7_tell__7_4_8 (b_X_X7_tell__7_4_2 n) t x2) = some u := hf
    refine lv_iload_n hx hb dX7_tell_2 rfl (lv_at hl 2 rfl) ?_
    refine lv_bipush (v := 32) hx hb dX7_tell_3 (by decide) ?_
    refine lv_icmp_ge (tgt := 48) hx hb dX7_tell_5 (by decide) (fun h_5 => ?_) (fun h_5 => ?_)
    · have hf := fb_t h_5 hf
      exact w_X_X7_tell__7_4_48 C hr hf hP hS (lv_sub hl [] rfl)
    · have hf := fb_f h_5 hf
      exact w_X_X7_tell__7_4_8 C hr hk2 hf hP hS (lv_sub hl [0, 1, 2] rfl)
set_option maxRecDepth 20000 in
theorem w_X_X7_tell__7_4_0 {p : Program} {l : Launch} {e : Env} {s : State} {m : MethodId} {args : Array Value} {below : List Frame} {meth : Method} {c : Code} {A : Nat → Prop} {Q : State → Prop} {D : va_G} {ca : Nat → ClassId} {a : Nat → Nat} {u : fw_S}  (C : CX (WX ca a) D (tyv ca) p s m args c A prog_9_method_6_code 3 RX7) (hr : True → RX (WX ca a) D p l e rm_X_X7_tell__7_4 s m args below meth c A prog_9_method_6_code Q .return_ [] u) {t : fw_S}  {H : Heap} {locs : List Loc} {ls : Array Slot} (hf : b_X_X7_tell__7_4_0  t  = some u) (hP : va_P D classes (WX ca a t) H) (hS : va_S A s.heap H locs) (hl : lv_has ls 3 [(0, .ref (a 7)), (1, .ref (a 4))]) : W p l e rm_X_X7_tell__7_4 s m args below meth c H locs 0 0 Q (F0 m 0 ls []) := by
  obtain ⟨hx, hb, hml, hown, hts, hN, hK, hD, hA⟩ := id C
  have hf : (b_X_X7_tell__7_4_2 3000 t ((0 : Int32))) = some u := hf
  refine lv_iconst (v := 0) hx hb dX7_tell_0 (by decide) ?_
  refine lv_istore_n (lv' := [(2, .int ((0 : Int32))), (0, .ref (a 7)), (1, .ref (a 4))]) hx hb dX7_tell_1 rfl hl (by decide) rfl (fun ls hl => ?_)
  exact w_X_X7_tell__7_4_2 C hr 3000 t ((0 : Int32)) _ _ _ hf hP hS (lv_sub hl [1, 2, 0] rfl)
set_option maxRecDepth 20000 in
theorem c_X_X7_tell__7_4 {l : Launch} {D : va_G} {ca : Nat → ClassId} {a : Nat → Nat} {t : fw_S}  {u : fw_S} (hf : f_X_X7_tell__7_4 t  = some u) : MC (WX ca a) D (tyv ca) l yX7_tell (.code yX7_tell prog_9_method_6_code 3 none :: lw_gd) rm_X_X7_tell__7_4 [.ref (a 7), .ref (a 4)] none t u := by
  refine fw_met (okX ca a) (by decide +kernel) rfl rfl (Nat.le_of_ble_eq_true rfl) ?_
  intro p e s m args below meth c A Q ls C hr hk hP hS hl hQ
  exact w_X_X7_tell__7_4_0 C (fun _ => fw_rv C hr hk hQ) hf hP hS (lv_sub hl [0, 1] rfl)
/-! ReactiveSheet.Telling.cells()J ['x.trial'] -/
abbrev rm_X_X7_cells__7 : Room := { frames := 0, cells := 0, slots := 0, locals := 0 }
def b_X_X7_cells__7_0  (t : fw_S)  : Option (Int64 × fw_S) := some (st_J t 9, t)
def f_X_X7_cells__7 (t : fw_S)  : Option (Int64 × fw_S) := b_X_X7_cells__7_0 t 
set_option maxRecDepth 20000 in
theorem w_X_X7_cells__7_0 {p : Program} {l : Launch} {e : Env} {s : State} {m : MethodId} {args : Array Value} {below : List Frame} {meth : Method} {c : Code} {A : Nat → Prop} {Q : State → Prop} {D : va_G} {ca : Nat → ClassId} {a : Nat → Nat} {u : fw_S} {r : Int64}  (C : CX (WX ca a) D (tyv ca) p s m args c A prog_9_method_4_code 1 RX7) (hr : True → RX (WX ca a) D p l e rm_X_X7_cells__7 s m args below meth c A prog_9_method_4_code Q .lreturn [.long r] u) {t : fw_S}  {H : Heap} {locs : List Loc} {ls : Array Slot} (hf : b_X_X7_cells__7_0  t  = some (r, u)) (hP : va_P D classes (WX ca a t) H) (hS : va_S A s.heap H locs) (hl : lv_has ls 1 [(0, .ref (a 7))]) : W p l e rm_X_X7_cells__7 s m args below meth c H locs 0 0 Q (F0 m 0 ls []) := by
  obtain ⟨hx, hb, hml, hown, hts, hN, hK, hD, hA⟩ := id C
  have hf : (some (st_J t 9, t)) = some (r, u) := hf
  refine lv_aload_n hx hb dX7_cells_0 rfl (lv_at hl 0 rfl) ?_
  refine va_get (D := D) (ci := 7) (v := .long (st_J t 9)) (C := RX7) (T := TX7) (N := 4) hx hb hts inX7 hown hK hP 7 (heX_7 ca a t) rfl 3 (by decide) (hts _ kw_260) (fun _ h9 => h9) rfl dX7_cells_1 ?_
  obtain ⟨e_4, e2_4⟩ := fb_e hf
  subst e_4; subst e2_4
  exact hr trivial _ _ _ _ hP hS dX7_cells_4
set_option maxRecDepth 20000 in
theorem c_X_X7_cells__7 {l : Launch} {D : va_G} {ca : Nat → ClassId} {a : Nat → Nat} {t : fw_S}  {u : fw_S} {r : Int64} (hf : f_X_X7_cells__7 t  = some (r, u)) : MC (WX ca a) D (tyv ca) l yX7_cells (.code yX7_cells prog_9_method_4_code 1 (some .long) :: lw_gd) rm_X_X7_cells__7 [.ref (a 7)] (some (.long r)) t u := by
  refine fw_met (okX ca a) (by decide +kernel) rfl rfl (Nat.le_of_ble_eq_true rfl) ?_
  intro p e s m args below meth c A Q ls C hr hk hP hS hl hQ
  exact w_X_X7_cells__7_0 C (fun _ => fw_rl C hr hk hQ) hf hP hS (lv_sub hl [0] rfl)
/-! ReactiveSheet.Engine.go(LReactiveSheet.Telling;)I ['x.engine', 'x.trial'] -/
abbrev rm_X_X1_go__3_7 : Room := { frames := 4, cells := 0, slots := 0, locals := 143 }
def b_X_X1_go__3_7_133  (t : fw_S)  : Option (Int32 × fw_S) := fb_b (f_X_X0_ranCount__4 t) fun v_2 t_1 => (some (v_2, t_1))
def b_X_X1_go__3_7_126  (t : fw_S)  : Option (Int32 × fw_S) := fb_v (f_X_X1_back__3 t) fun t_1 => (some ((-7 : Int32), t_1))
def b_X_X1_go__3_7_119  (t : fw_S)  : Option (Int32 × fw_S) := if (st_I t 8) = 0 then b_X_X1_go__3_7_133 t else b_X_X1_go__3_7_126 t
def b_X_X1_go__3_7_107 (k94 : fw_S → Int32 → Option (Int32 × fw_S)) (t : fw_S) (x2 : Int32) : Option (Int32 × fw_S) := fb_v (f_X_X1_settle__3 t x2 ((0 : Int32))) fun t_1 => (k94 t_1 (x2 + 1))
def b_X_X1_go__3_7_100 (k94 : fw_S → Int32 → Option (Int32 × fw_S)) (t : fw_S) (x2 : Int32) : Option (Int32 × fw_S) := if (st_I t 8) = 0 then b_X_X1_go__3_7_107 k94 t x2 else b_X_X1_go__3_7_119 t
def b_X_X1_go__3_7_94  : Nat → (fw_S → Int32 → Option (Int32 × fw_S))
  | 0 => fun _ _ => none
  | n + 1 => fun t x2 => if ((32 : Int32)) ≤ x2 then b_X_X1_go__3_7_119 t else b_X_X1_go__3_7_100 (b_X_X1_go__3_7_94 n) t x2
def b_X_X1_go__3_7_92  (t : fw_S)  : Option (Int32 × fw_S) := b_X_X1_go__3_7_94 3000 t ((0 : Int32))
def b_X_X1_go__3_7_86 (k57 : fw_S → Int32 → Option (Int32 × fw_S)) (t : fw_S) (x2 : Int32) : Option (Int32 × fw_S) := k57 t (x2 + 1)
def b_X_X1_go__3_7_74 (k57 : fw_S → Int32 → Option (Int32 × fw_S)) (t : fw_S) (x2 : Int32) : Option (Int32 × fw_S) := fb_v (f_X_X0_compare__4_5 t x2) fun t_1 => (b_X_X1_go__3_7_86 k57 t_1 x2)
def b_X_X1_go__3_7_63 (k57 : fw_S → Int32 → Option (Int32 × fw_S)) (t : fw_S) (x2 : Int32) : Option (Int32 × fw_S) := fb_b (f_X_X10_has t (st_J t 1) x2) fun v_2 t_1 => (if v_2 = 0 then b_X_X1_go__3_7_86 k57 t_1 x2 else b_X_X1_go__3_7_74 k57 t_1 x2)
def b_X_X1_go__3_7_57  : Nat → (fw_S → Int32 → Option (Int32 × fw_S))
  | 0 => fun _ _ => none
  | n + 1 => fun t x2 => if ((32 : Int32)) ≤ x2 then b_X_X1_go__3_7_92 t else b_X_X1_go__3_7_63 (b_X_X1_go__3_7_57 n) t x2
def b_X_X1_go__3_7_0  (t : fw_S)  : Option (Int32 × fw_S) := fb_v (f_X_X0_takeFrom__5_4 t) fun t_1 => (fb_v (f_X_X0_startWave__4 t_1) fun t_2 => (fb_v (f_X_X7_tell__7_4 t_2) fun t_3 => (fb_b (f_X_X7_cells__7 t_3) fun v_5 t_4 => (fb_l (up_J t_4 0 v_5) fun t_6 => (fb_b (f_X_X0_plain__4 t_6) fun v_8 t_7 => (fb_l (up_J t_7 1 v_8) fun t_9 => (fb_l (up_J t_9 2 ((0 : Int64))) fun t_10 => (fb_g (((0 : Int32)) = 0 ∨ ((0 : Int32)) = 1) (fb_l (up_I t_10 8 ((0 : Int32))) fun t_11 => (b_X_X1_go__3_7_57 3000 t_11 ((0 : Int32))))))))))))
def f_X_X1_go__3_7 (t : fw_S)  : Option (Int32 × fw_S) := b_X_X1_go__3_7_0 t 
set_option maxRecDepth 20000 in
theorem w_X_X1_go__3_7_133 {p : Program} {l : Launch} {e : Env} {s : State} {m : MethodId} {args : Array Value} {below : List Frame} {meth : Method} {c : Code} {A : Nat → Prop} {Q : State → Prop} {D : va_G} {ca : Nat → ClassId} {a : Nat → Nat} {u : fw_S} {r : Int32}  (C : CX (WX ca a) D (tyv ca) p s m args c A prog_3_method_5_code 3 RX1) (hr : True → RX (WX ca a) D p l e rm_X_X1_go__3_7 s m args below meth c A prog_3_method_5_code Q .ireturn [.int r] u) {t : fw_S}  {H : Heap} {locs : List Loc} {ls : Array Slot} (hf : b_X_X1_go__3_7_133  t  = some (r, u)) (hP : va_P D classes (WX ca a t) H) (hS : va_S A s.heap H locs) (hl : lv_has ls 3 [(0, .ref (a 3))]) : W p l e rm_X_X1_go__3_7 s m args below meth c H locs 0 0 Q (F0 m 133 ls []) := by
  obtain ⟨hx, hb, hml, hown, hts, hN, hK, hD, hA⟩ := id C
  have hf : (fb_b (f_X_X0_ranCount__4 t) fun v_2 t_1 => (some (v_2, t_1))) = some (r, u) := hf
  refine lv_aload_n hx hb dX1_go_133 rfl (lv_at hl 0 rfl) ?_
  refine va_get (D := D) (ci := 1) (v := .ref (a 4)) (C := RX1) (T := TX1) (N := 8) hx hb hts inX1 hown hK hP 3 (heX_3 ca a t) rfl 0 (by decide) (hts _ kw_225) (fun _ h9 => h9) rfl dX1_go_134 ?_
  obtain ⟨v_2, t_1, g_137, hf⟩ := fb_bs hf
  refine fw_V1 (As := []) (rest := []) (n := 0) (q0 := 4) C (c_X_X0_ranCount__4 (l := l) (D := D) (ca := ca) (a := a) g_137) kw_612 kw_613 kw_96 kw_615 kw_614 hP hS hl (heX_4 ca a t) rfl rfl rfl (by decide) (by decide +kernel) ⟨Nat.le_of_ble_eq_true rfl, Nat.le_of_ble_eq_true rfl⟩ rfl rfl (Nat.le_of_ble_eq_true rfl) dX1_go_137 (fun H locs hP hS => ?_)
  refine W.eq (g2 := F0 m 140 ls [.int v_2]) rfl ?_
  obtain ⟨e_140, e2_140⟩ := fb_e hf
  subst e_140; subst e2_140
  exact hr trivial _ _ _ _ hP hS dX1_go_140
set_option maxRecDepth 20000 in
theorem w_X_X1_go__3_7_126 {p : Program} {l : Launch} {e : Env} {s : State} {m : MethodId} {args : Array Value} {below : List Frame} {meth : Method} {c : Code} {A : Nat → Prop} {Q : State → Prop} {D : va_G} {ca : Nat → ClassId} {a : Nat → Nat} {u : fw_S} {r : Int32}  (C : CX (WX ca a) D (tyv ca) p s m args c A prog_3_method_5_code 3 RX1) (hr : True → RX (WX ca a) D p l e rm_X_X1_go__3_7 s m args below meth c A prog_3_method_5_code Q .ireturn [.int r] u) {t : fw_S}  {H : Heap} {locs : List Loc} {ls : Array Slot} (hf : b_X_X1_go__3_7_126  t  = some (r, u)) (hP : va_P D classes (WX ca a t) H) (hS : va_S A s.heap H locs) (hl : lv_has ls 3 [(0, .ref (a 3))]) : W p l e rm_X_X1_go__3_7 s m args below meth c H locs 0 0 Q (F0 m 126 ls []) := by
  obtain ⟨hx, hb, hml, hown, hts, hN, hK, hD, hA⟩ := id C
  have hf : (fb_v (f_X_X1_back__3 t) fun t_1 => (some ((-7 : Int32), t_1))) = some (r, u) := hf
  refine lv_aload_n hx hb dX1_go_126 rfl (lv_at hl 0 rfl) ?_
  obtain ⟨t_1, g_127, hf⟩ := fb_vs hf
  refine fw_V1 (As := []) (rest := []) (n := 0) (q0 := 3) C (c_X_X1_back__3 (l := l) (D := D) (ca := ca) (a := a) g_127) kw_608 kw_609 kw_95 kw_611 kw_610 hP hS hl (heX_3 ca a t) rfl rfl rfl (by decide) (by decide +kernel) ⟨Nat.le_of_ble_eq_true rfl, Nat.le_of_ble_eq_true rfl⟩ rfl rfl (Nat.le_of_ble_eq_true rfl) dX1_go_127 (fun H locs hP hS => ?_)
  refine W.eq (g2 := F0 m 130 ls []) rfl ?_
  refine lv_bipush (v := (-7)) hx hb dX1_go_130 (by decide) ?_
  obtain ⟨e_132, e2_132⟩ := fb_e hf
  subst e_132; subst e2_132
  exact hr trivial _ _ _ _ hP hS dX1_go_132
set_option maxRecDepth 20000 in
theorem w_X_X1_go__3_7_119 {p : Program} {l : Launch} {e : Env} {s : State} {m : MethodId} {args : Array Value} {below : List Frame} {meth : Method} {c : Code} {A : Nat → Prop} {Q : State → Prop} {D : va_G} {ca : Nat → ClassId} {a : Nat → Nat} {u : fw_S} {r : Int32}  (C : CX (WX ca a) D (tyv ca) p s m args c A prog_3_method_5_code 3 RX1) (hr : True → RX (WX ca a) D p l e rm_X_X1_go__3_7 s m args below meth c A prog_3_method_5_code Q .ireturn [.int r] u) {t : fw_S}  {H : Heap} {locs : List Loc} {ls : Array Slot} (hf : b_X_X1_go__3_7_119  t  = some (r, u)) (hP : va_P D classes (WX ca a t) H) (hS : va_S A s.heap H locs) (hl : lv_has ls 3 [(0, .ref (a 3))]) : W p l e rm_X_X1_go__3_7 s m args below meth c H locs 0 0 Q (F0 m 119 ls []) := by
  obtain ⟨hx, hb, hml, hown, hts, hN, hK, hD, hA⟩ := id C
  have hf : (if (st_I t 8) = 0 then b_X_X1_go__3_7_133 t else b_X_X1_go__3_7_126 t) = some (r, u) := hf
  refine lv_aload_n hx hb dX1_go_119 rfl (lv_at hl 0 rfl) ?_
  refine va_get (D := D) (ci := 1) (v := .int (st_I t 8)) (C := RX1) (T := TX1) (N := 8) hx hb hts inX1 hown hK hP 3 (heX_3 ca a t) rfl 6 (by decide) (hts _ kw_231) (fun _ h9 => h9) rfl dX1_go_120 ?_
  refine lv_if_eq (tgt := 133) hx hb dX1_go_123 (by decide) (fun h_123 => ?_) (fun h_123 => ?_)
  · have hf := fb_t h_123 hf
    exact w_X_X1_go__3_7_133 C hr hf hP hS (lv_sub hl [0] rfl)
  · have hf := fb_f h_123 hf
    exact w_X_X1_go__3_7_126 C hr hf hP hS (lv_sub hl [0] rfl)
set_option maxRecDepth 20000 in
theorem w_X_X1_go__3_7_107 {p : Program} {l : Launch} {e : Env} {s : State} {m : MethodId} {args : Array Value} {below : List Frame} {meth : Method} {c : Code} {A : Nat → Prop} {Q : State → Prop} {D : va_G} {ca : Nat → ClassId} {a : Nat → Nat} {u : fw_S} {r : Int32} {k94 : fw_S → Int32 → Option (Int32 × fw_S)} (C : CX (WX ca a) D (tyv ca) p s m args c A prog_3_method_5_code 3 RX1) (hr : True → RX (WX ca a) D p l e rm_X_X1_go__3_7 s m args below meth c A prog_3_method_5_code Q .ireturn [.int r] u) (hk94 : ∀ (t : fw_S) (x2 : Int32) (H : Heap) (locs : List Loc) (ls : Array Slot), k94 t x2 = some (r, u) → va_P D classes (WX ca a t) H → va_S A s.heap H locs → lv_has ls 3 [(0, .ref (a 3)), (2, .int x2)] → W p l e rm_X_X1_go__3_7 s m args below meth c H locs 0 0 Q (F0 m 94 ls [])) {t : fw_S} {x2 : Int32} {H : Heap} {locs : List Loc} {ls : Array Slot} (hf : b_X_X1_go__3_7_107 k94 t x2 = some (r, u)) (hP : va_P D classes (WX ca a t) H) (hS : va_S A s.heap H locs) (hl : lv_has ls 3 [(0, .ref (a 3)), (2, .int x2)]) : W p l e rm_X_X1_go__3_7 s m args below meth c H locs 0 0 Q (F0 m 107 ls []) := by
  obtain ⟨hx, hb, hml, hown, hts, hN, hK, hD, hA⟩ := id C
  have hf : (fb_v (f_X_X1_settle__3 t x2 ((0 : Int32))) fun t_1 => (k94 t_1 (x2 + 1))) = some (r, u) := hf
  refine lv_aload_n hx hb dX1_go_107 rfl (lv_at hl 0 rfl) ?_
  refine lv_iload_n hx hb dX1_go_108 rfl (lv_at hl 1 rfl) ?_
  refine lv_iconst (v := 0) hx hb dX1_go_109 (by decide) ?_
  obtain ⟨t_1, g_110, hf⟩ := fb_vs hf
  refine fw_V1 (As := [.int x2, .int ((0 : Int32))]) (rest := []) (n := 2) (q0 := 3) C (c_X_X1_settle__3 (l := l) (D := D) (ca := ca) (a := a) g_110) kw_462 kw_464 kw_95 kw_465 kw_1 hP hS hl (heX_3 ca a t) rfl rfl rfl (by decide) (by decide +kernel) ⟨Nat.le_of_ble_eq_true rfl, Nat.le_of_ble_eq_true rfl⟩ rfl rfl (Nat.le_of_ble_eq_true rfl) dX1_go_110 (fun H locs hP hS => ?_)
  refine W.eq (g2 := F0 m 113 ls []) rfl ?_
  refine lv_iinc (v := x2 + 1) (lv' := [(2, .int (x2 + 1)), (0, .ref (a 3))]) hx hb dX1_go_113 hl (k := 1) rfl rfl (by decide) rfl (fun ls hl => ?_)
  refine lv_goto (tgt := 94) hx hb dX1_go_116 (by decide) ?_
  exact hk94 t_1 (x2 + 1) _ _ _ hf hP hS (lv_sub hl [1, 0] rfl)
set_option maxRecDepth 20000 in
theorem w_X_X1_go__3_7_100 {p : Program} {l : Launch} {e : Env} {s : State} {m : MethodId} {args : Array Value} {below : List Frame} {meth : Method} {c : Code} {A : Nat → Prop} {Q : State → Prop} {D : va_G} {ca : Nat → ClassId} {a : Nat → Nat} {u : fw_S} {r : Int32} {k94 : fw_S → Int32 → Option (Int32 × fw_S)} (C : CX (WX ca a) D (tyv ca) p s m args c A prog_3_method_5_code 3 RX1) (hr : True → RX (WX ca a) D p l e rm_X_X1_go__3_7 s m args below meth c A prog_3_method_5_code Q .ireturn [.int r] u) (hk94 : ∀ (t : fw_S) (x2 : Int32) (H : Heap) (locs : List Loc) (ls : Array Slot), k94 t x2 = some (r, u) → va_P D classes (WX ca a t) H → va_S A s.heap H locs → lv_has ls 3 [(0, .ref (a 3)), (2, .int x2)] → W p l e rm_X_X1_go__3_7 s m args below meth c H locs 0 0 Q (F0 m 94 ls [])) {t : fw_S} {x2 : Int32} {H : Heap} {locs : List Loc} {ls : Array Slot} (hf : b_X_X1_go__3_7_100 k94 t x2 = some (r, u)) (hP : va_P D classes (WX ca a t) H) (hS : va_S A s.heap H locs) (hl : lv_has ls 3 [(0, .ref (a 3)), (2, .int x2)]) : W p l e rm_X_X1_go__3_7 s m args below meth c H locs 0 0 Q (F0 m 100 ls []) := by
  obtain ⟨hx, hb, hml, hown, hts, hN, hK, hD, hA⟩ := id C
  have hf : (if (st_I t 8) = 0 then b_X_X1_go__3_7_107 k94 t x2 else b_X_X1_go__3_7_119 t) = some (r, u) := hf
  refine lv_aload_n hx hb dX1_go_100 rfl (lv_at hl 0 rfl) ?_
  refine va_get (D := D) (ci := 1) (v := .int (st_I t 8)) (C := RX1) (T := TX1) (N := 8) hx hb hts inX1 hown hK hP 3 (heX_3 ca a t) rfl 6 (by decide) (hts _ kw_231) (fun _ h9 => h9) rfl dX1_go_101 ?_
  refine lv_if_ne (tgt := 119) hx hb dX1_go_104 (by decide) (fun h_104 => ?_) (fun h_104 => ?_)
  · have hf := fb_f h_104 hf
    exact w_X_X1_go__3_7_119 C hr hf hP hS (lv_sub hl [0] rfl)
  · have hf := fb_t h_104 hf
    exact w_X_X1_go__3_7_107 C hr hk94 hf hP hS (lv_sub hl [0, 1] rfl)
set_option maxRecDepth 20000 in
theorem w_X_X1_go__3_7_94 {p : Program} {l : Launch} {e : Env} {s : State} {m : MethodId} {args : Array Value} {below : List Frame} {meth : Method} {c : Code} {A : Nat → Prop} {Q : State → Prop} {D : va_G} {ca : Nat → ClassId} {a : Nat → Nat} {u : fw_S} {r : Int32}  (C : CX (WX ca a) D (tyv ca) p s m args c A prog_3_method_5_code 3 RX1) (hr : True → RX (WX ca a) D p l e rm_X_X1_go__3_7 s m args below meth c A prog_3_method_5_code Q .ireturn [.int r] u) : ∀ (n : Nat) (t : fw_S) (x2 : Int32) (H : Heap) (locs : List Loc) (ls : Array Slot), b_X_X1_go__3_7_94  n t x2 = some (r, u) → va_P D classes (WX ca a t) H → va_S A s.heap H locs → lv_has ls 3 [(0, .ref (a 3)), (2, .int x2)] → W p l e rm_X_X1_go__3_7 s m args below meth c H locs 0 0 Q (F0 m 94 ls []) := by
  obtain ⟨hx, hb, hml, hown, hts, hN, hK, hD, hA⟩ := id C
  intro n
  induction n with
  | zero => intro t x2 H locs ls hf; cases hf
  | succ n hk94 =>
    intro t x2 H locs ls hf hP hS hl
    have hf : (if ((32 : Int32)) ≤ x2 then b_X_X1_go__3_7_119 t else b_X_X1_go__3_7_100 (b_X_X1_go__3_7_94 n) t x2) = some (r, u) := hf
    refine lv_iload_n hx hb dX1_go_94 rfl (lv_at hl 1 rfl) ?_
    refine lv_bipush (v := 32) hx hb dX1_go_95 (by decide) ?_
    refine lv_icmp_ge (tgt := 119) hx hb dX1_go_97 (by decide) (fun h_97 => ?_) (fun h_97 => ?_)
    · have hf := fb_t h_97 hf
      exact w_X_X1_go__3_7_119 C hr hf hP hS (lv_sub hl [0] rfl)
    · have hf := fb_f h_97 hf
      exact w_X_X1_go__3_7_100 C hr hk94 hf hP hS (lv_sub hl [0, 1] rfl)
set_option maxRecDepth 20000 in
theorem w_X_X1_go__3_7_92 {p : Program} {l : Launch} {e : Env} {s : State} {m : MethodId} {args : Array Value} {below : List Frame} {meth : Method} {c : Code} {A : Nat → Prop} {Q : State → Prop} {D : va_G} {ca : Nat → ClassId} {a : Nat → Nat} {u : fw_S} {r : Int32}  (C : CX (WX ca a) D (tyv ca) p s m args c A prog_3_method_5_code 3 RX1) (hr : True → RX (WX ca a) D p l e rm_X_X1_go__3_7 s m args below meth c A prog_3_method_5_code Q .ireturn [.int r] u) {t : fw_S}  {H : Heap} {locs : List Loc} {ls : Array Slot} (hf : b_X_X1_go__3_7_92  t  = some (r, u)) (hP : va_P D classes (WX ca a t) H) (hS : va_S A s.heap H locs) (hl : lv_has ls 3 [(0, .ref (a 3))]) : W p l e rm_X_X1_go__3_7 s m args below meth c H locs 0 0 Q (F0 m 92 ls []) := by
  obtain ⟨hx, hb, hml, hown, hts, hN, hK, hD, hA⟩ := id C
  have hf : (b_X_X1_go__3_7_94 3000 t ((0 : Int32))) = some (r, u) := hf
  refine lv_iconst (v := 0) hx hb dX1_go_92 (by decide) ?_
  refine lv_istore_n (lv' := [(2, .int ((0 : Int32))), (0, .ref (a 3))]) hx hb dX1_go_93 rfl hl (by decide) rfl (fun ls hl => ?_)
  exact w_X_X1_go__3_7_94 C hr 3000 t ((0 : Int32)) _ _ _ hf hP hS (lv_sub hl [1, 0] rfl)
set_option maxRecDepth 20000 in
theorem w_X_X1_go__3_7_86 {p : Program} {l : Launch} {e : Env} {s : State} {m : MethodId} {args : Array Value} {below : List Frame} {meth : Method} {c : Code} {A : Nat → Prop} {Q : State → Prop} {D : va_G} {ca : Nat → ClassId} {a : Nat → Nat} {u : fw_S} {r : Int32} {k57 : fw_S → Int32 → Option (Int32 × fw_S)} (C : CX (WX ca a) D (tyv ca) p s m args c A prog_3_method_5_code 3 RX1) (hr : True → RX (WX ca a) D p l e rm_X_X1_go__3_7 s m args below meth c A prog_3_method_5_code Q .ireturn [.int r] u) (hk57 : ∀ (t : fw_S) (x2 : Int32) (H : Heap) (locs : List Loc) (ls : Array Slot), k57 t x2 = some (r, u) → va_P D classes (WX ca a t) H → va_S A s.heap H locs → lv_has ls 3 [(0, .ref (a 3)), (2, .int x2)] → W p l e rm_X_X1_go__3_7 s m args below meth c H locs 0 0 Q (F0 m 57 ls [])) {t : fw_S} {x2 : Int32} {H : Heap} {locs : List Loc} {ls : Array Slot} (hf : b_X_X1_go__3_7_86 k57 t x2 = some (r, u)) (hP : va_P D classes (WX ca a t) H) (hS : va_S A s.heap H locs) (hl : lv_has ls 3 [(0, .ref (a 3)), (2, .int x2)]) : W p l e rm_X_X1_go__3_7 s m args below meth c H locs 0 0 Q (F0 m 86 ls []) := by
  obtain ⟨hx, hb, hml, hown, hts, hN, hK, hD, hA⟩ := id C
  have hf : (k57 t (x2 + 1)) = some (r, u) := hf
  refine lv_iinc (v := x2 + 1) (lv' := [(2, .int (x2 + 1)), (0, .ref (a 3))]) hx hb dX1_go_86 hl (k := 1) rfl rfl (by decide) rfl (fun ls hl => ?_)
  refine lv_goto (tgt := 57) hx hb dX1_go_89 (by decide) ?_
  exact hk57 t (x2 + 1) _ _ _ hf hP hS (lv_sub hl [1, 0] rfl)
set_option maxRecDepth 20000 in
theorem w_X_X1_go__3_7_74 {p : Program} {l : Launch} {e : Env} {s : State} {m : MethodId} {args : Array Value} {below : List Frame} {meth : Method} {c : Code} {A : Nat → Prop} {Q : State → Prop} {D : va_G} {ca : Nat → ClassId} {a : Nat → Nat} {u : fw_S} {r : Int32} {k57 : fw_S → Int32 → Option (Int32 × fw_S)} (C : CX (WX ca a) D (tyv ca) p s m args c A prog_3_method_5_code 3 RX1) (hr : True → RX (WX ca a) D p l e rm_X_X1_go__3_7 s m args below meth c A prog_3_method_5_code Q .ireturn [.int r] u) (hk57 : ∀ (t : fw_S) (x2 : Int32) (H : Heap) (locs : List Loc) (ls : Array Slot), k57 t x2 = some (r, u) → va_P D classes (WX ca a t) H → va_S A s.heap H locs → lv_has ls 3 [(0, .ref (a 3)), (2, .int x2)] → W p l e rm_X_X1_go__3_7 s m args below meth c H locs 0 0 Q (F0 m 57 ls [])) {t : fw_S} {x2 : Int32} {H : Heap} {locs : List Loc} {ls : Array Slot} (hf : b_X_X1_go__3_7_74 k57 t x2 = some (r, u)) (hP : va_P D classes (WX ca a t) H) (hS : va_S A s.heap H locs) (hl : lv_has ls 3 [(0, .ref (a 3)), (2, .int x2)]) : W p l e rm_X_X1_go__3_7 s m args below meth c H locs 0 0 Q (F0 m 74 ls []) := by
  obtain ⟨hx, hb, hml, hown, hts, hN, hK, hD, hA⟩ := id C
  have hf : (fb_v (f_X_X0_compare__4_5 t x2) fun t_1 => (b_X_X1_go__3_7_86 k57 t_1 x2)) = some (r, u) := hf
  refine lv_aload_n hx hb dX1_go_74 rfl (lv_at hl 0 rfl) ?_
  refine va_get (D := D) (ci := 1) (v := .ref (a 4)) (C := RX1) (T := TX1) (N := 8) hx hb hts inX1 hown hK hP 3 (heX_3 ca a t) rfl 0 (by decide) (hts _ kw_225) (fun _ h9 => h9) rfl dX1_go_75 ?_
  refine lv_iload_n hx hb dX1_go_78 rfl (lv_at hl 1 rfl) ?_
  refine lv_aload_n hx hb dX1_go_79 rfl (lv_at hl 0 rfl) ?_
  refine va_get (D := D) (ci := 1) (v := .ref (a 5)) (C := RX1) (T := TX1) (N := 8) hx hb hts inX1 hown hK hP 3 (heX_3 ca a t) rfl 1 (by decide) (hts _ kw_226) (fun _ h9 => h9) rfl dX1_go_80 ?_
  obtain ⟨t_1, g_83, hf⟩ := fb_vs hf
  refine fw_V1 (As := [.int x2, .ref (a 5)]) (rest := []) (n := 2) (q0 := 4) C (c_X_X0_compare__4_5 (l := l) (D := D) (ca := ca) (a := a) g_83) kw_458 kw_459 kw_96 kw_461 kw_460 hP hS hl (heX_4 ca a t) rfl rfl rfl (by decide) (by decide +kernel) ⟨Nat.le_of_ble_eq_true rfl, Nat.le_of_ble_eq_true rfl⟩ rfl rfl (Nat.le_of_ble_eq_true rfl) dX1_go_83 (fun H locs hP hS => ?_)
  refine W.eq (g2 := F0 m 86 ls []) rfl ?_
  exact w_X_X1_go__3_7_86 C hr hk57 hf hP hS (lv_sub hl [0, 1] rfl)
set_option maxRecDepth 20000 in
theorem w_X_X1_go__3_7_63 {p : Program} {l : Launch} {e : Env} {s : State} {m : MethodId} {args : Array Value} {below : List Frame} {meth : Method} {c : Code} {A : Nat → Prop} {Q : State → Prop} {D : va_G} {ca : Nat → ClassId} {a : Nat → Nat} {u : fw_S} {r : Int32} {k57 : fw_S → Int32 → Option (Int32 × fw_S)} (C : CX (WX ca a) D (tyv ca) p s m args c A prog_3_method_5_code 3 RX1) (hr : True → RX (WX ca a) D p l e rm_X_X1_go__3_7 s m args below meth c A prog_3_method_5_code Q .ireturn [.int r] u) (hk57 : ∀ (t : fw_S) (x2 : Int32) (H : Heap) (locs : List Loc) (ls : Array Slot), k57 t x2 = some (r, u) → va_P D classes (WX ca a t) H → va_S A s.heap H locs → lv_has ls 3 [(0, .ref (a 3)), (2, .int x2)] → W p l e rm_X_X1_go__3_7 s m args below meth c H locs 0 0 Q (F0 m 57 ls [])) {t : fw_S} {x2 : Int32} {H : Heap} {locs : List Loc} {ls : Array Slot} (hf : b_X_X1_go__3_7_63 k57 t x2 = some (r, u)) (hP : va_P D classes (WX ca a t) H) (hS : va_S A s.heap H locs) (hl : lv_has ls 3 [(0, .ref (a 3)), (2, .int x2)]) : W p l e rm_X_X1_go__3_7 s m args below meth c H locs 0 0 Q (F0 m 63 ls []) := by
  obtain ⟨hx, hb, hml, hown, hts, hN, hK, hD, hA⟩ := id C
  have hf : (fb_b (f_X_X10_has t (st_J t 1) x2) fun v_2 t_1 => (if v_2 = 0 then b_X_X1_go__3_7_86 k57 t_1 x2 else b_X_X1_go__3_7_74 k57 t_1 x2)) = some (r, u) := hf
  refine lv_aload_n hx hb dX1_go_63 rfl (lv_at hl 0 rfl) ?_
  refine va_get (D := D) (ci := 1) (v := .long (st_J t 1)) (C := RX1) (T := TX1) (N := 8) hx hb hts inX1 hown hK hP 3 (heX_3 ca a t) rfl 4 (by decide) (hts _ kw_229) (fun _ h9 => h9) rfl dX1_go_64 ?_
  refine lv_iload_n hx hb dX1_go_67 rfl (lv_at hl 1 rfl) ?_
  obtain ⟨v_2, t_1, g_68, hf⟩ := fb_bs hf
  refine fw_S2 (As := [.long (st_J t 1), .int x2]) (rest := []) (n := 2) C (c_X_X10_has (l := l) (D := D) (ca := ca) (a := a) g_68) kw_457 kw_442 kw_92 kw_443 hP hS hl rfl rfl (by decide) (by decide +kernel) ⟨Nat.le_of_ble_eq_true rfl, Nat.le_of_ble_eq_true rfl⟩ rfl rfl (Nat.le_of_ble_eq_true rfl) dX1_go_68 (fun H locs hP hS => ?_)
  refine W.eq (g2 := F0 m 71 ls [.int v_2]) rfl ?_
  refine lv_if_eq (tgt := 86) hx hb dX1_go_71 (by decide) (fun h_71 => ?_) (fun h_71 => ?_)
  · have hf := fb_t h_71 hf
    exact w_X_X1_go__3_7_86 C hr hk57 hf hP hS (lv_sub hl [0, 1] rfl)
  · have hf := fb_f h_71 hf
    exact w_X_X1_go__3_7_74 C hr hk57 hf hP hS (lv_sub hl [0, 1] rfl)
set_option maxRecDepth 20000 in
theorem w_X_X1_go__3_7_57 {p : Program} {l : Launch} {e : Env} {s : State} {m : MethodId} {args : Array Value} {below : List Frame} {meth : Method} {c : Code} {A : Nat → Prop} {Q : State → Prop} {D : va_G} {ca : Nat → ClassId} {a : Nat → Nat} {u : fw_S} {r : Int32}  (C : CX (WX ca a) D (tyv ca) p s m args c A prog_3_method_5_code 3 RX1) (hr : True → RX (WX ca a) D p l e rm_X_X1_go__3_7 s m args below meth c A prog_3_method_5_code Q .ireturn [.int r] u) : ∀ (n : Nat) (t : fw_S) (x2 : Int32) (H : Heap) (locs : List Loc) (ls : Array Slot), b_X_X1_go__3_7_57  n t x2 = some (r, u) → va_P D classes (WX ca a t) H → va_S A s.heap H locs → lv_has ls 3 [(0, .ref (a 3)), (2, .int x2)] → W p l e rm_X_X1_go__3_7 s m args below meth c H locs 0 0 Q (F0 m 57 ls []) := by
  obtain ⟨hx, hb, hml, hown, hts, hN, hK, hD, hA⟩ := id C
  intro n
  induction n with
  | zero => intro t x2 H locs ls hf; cases hf
  | succ n hk57 =>
    intro t x2 H locs ls hf hP hS hl
    have hf : (if ((32 : Int32)) ≤ x2 then b_X_X1_go__3_7_92 t else b_X_X1_go__3_7_63 (b_X_X1_go__3_7_57 n) t x2) = some (r, u) := hf
    refine lv_iload_n hx hb dX1_go_57 rfl (lv_at hl 1 rfl) ?_
    refine lv_bipush (v := 32) hx hb dX1_go_58 (by decide) ?_
    refine lv_icmp_ge (tgt := 92) hx hb dX1_go_60 (by decide) (fun h_60 => ?_) (fun h_60 => ?_)
    · have hf := fb_t h_60 hf
      exact w_X_X1_go__3_7_92 C hr hf hP hS (lv_sub hl [0] rfl)
    · have hf := fb_f h_60 hf
      exact w_X_X1_go__3_7_63 C hr hk57 hf hP hS (lv_sub hl [0, 1] rfl)
set_option maxRecDepth 20000 in
theorem w_X_X1_go__3_7_0 {p : Program} {l : Launch} {e : Env} {s : State} {m : MethodId} {args : Array Value} {below : List Frame} {meth : Method} {c : Code} {A : Nat → Prop} {Q : State → Prop} {D : va_G} {ca : Nat → ClassId} {a : Nat → Nat} {u : fw_S} {r : Int32}  (C : CX (WX ca a) D (tyv ca) p s m args c A prog_3_method_5_code 3 RX1) (hr : True → RX (WX ca a) D p l e rm_X_X1_go__3_7 s m args below meth c A prog_3_method_5_code Q .ireturn [.int r] u) {t : fw_S}  {H : Heap} {locs : List Loc} {ls : Array Slot} (hf : b_X_X1_go__3_7_0  t  = some (r, u)) (hP : va_P D classes (WX ca a t) H) (hS : va_S A s.heap H locs) (hl : lv_has ls 3 [(0, .ref (a 3)), (1, .ref (a 7))]) : W p l e rm_X_X1_go__3_7 s m args below meth c H locs 0 0 Q (F0 m 0 ls []) := by
  obtain ⟨hx, hb, hml, hown, hts, hN, hK, hD, hA⟩ := id C
  have hf : (fb_v (f_X_X0_takeFrom__5_4 t) fun t_1 => (fb_v (f_X_X0_startWave__4 t_1) fun t_2 => (fb_v (f_X_X7_tell__7_4 t_2) fun t_3 => (fb_b (f_X_X7_cells__7 t_3) fun v_5 t_4 => (fb_l (up_J t_4 0 v_5) fun t_6 => (fb_b (f_X_X0_plain__4 t_6) fun v_8 t_7 => (fb_l (up_J t_7 1 v_8) fun t_9 => (fb_l (up_J t_9 2 ((0 : Int64))) fun t_10 => (fb_g (((0 : Int32)) = 0 ∨ ((0 : Int32)) = 1) (fb_l (up_I t_10 8 ((0 : Int32))) fun t_11 => (b_X_X1_go__3_7_57 3000 t_11 ((0 : Int32))))))))))))) = some (r, u) := hf
  refine lv_aload_n hx hb dX1_go_0 rfl (lv_at hl 0 rfl) ?_
  refine va_get (D := D) (ci := 1) (v := .ref (a 5)) (C := RX1) (T := TX1) (N := 8) hx hb hts inX1 hown hK hP 3 (heX_3 ca a t) rfl 1 (by decide) (hts _ kw_226) (fun _ h9 => h9) rfl dX1_go_1 ?_
  refine lv_aload_n hx hb dX1_go_4 rfl (lv_at hl 0 rfl) ?_
  refine va_get (D := D) (ci := 1) (v := .ref (a 4)) (C := RX1) (T := TX1) (N := 8) hx hb hts inX1 hown hK hP 3 (heX_3 ca a t) rfl 0 (by decide) (hts _ kw_225) (fun _ h9 => h9) rfl dX1_go_5 ?_
  obtain ⟨t_1, g_8, hf⟩ := fb_vs hf
  refine fw_V1 (As := [.ref (a 4)]) (rest := []) (n := 1) (q0 := 5) C (c_X_X0_takeFrom__5_4 (l := l) (D := D) (ca := ca) (a := a) g_8) kw_418 kw_419 kw_96 kw_421 kw_420 hP hS hl (heX_5 ca a t) rfl rfl rfl (by decide) (by decide +kernel) ⟨Nat.le_of_ble_eq_true rfl, Nat.le_of_ble_eq_true rfl⟩ rfl rfl (Nat.le_of_ble_eq_true rfl) dX1_go_8 (fun H locs hP hS => ?_)
  refine W.eq (g2 := F0 m 11 ls []) rfl ?_
  refine lv_aload_n hx hb dX1_go_11 rfl (lv_at hl 0 rfl) ?_
  refine va_get (D := D) (ci := 1) (v := .ref (a 4)) (C := RX1) (T := TX1) (N := 8) hx hb hts inX1 hown hK hP 3 (heX_3 ca a t_1) rfl 0 (by decide) (hts _ kw_225) (fun _ h9 => h9) rfl dX1_go_12 ?_
  obtain ⟨t_2, g_15, hf⟩ := fb_vs hf
  refine fw_V1 (As := []) (rest := []) (n := 0) (q0 := 4) C (c_X_X0_startWave__4 (l := l) (D := D) (ca := ca) (a := a) g_15) kw_430 kw_431 kw_96 kw_433 kw_432 hP hS hl (heX_4 ca a t_1) rfl rfl rfl (by decide) (by decide +kernel) ⟨Nat.le_of_ble_eq_true rfl, Nat.le_of_ble_eq_true rfl⟩ rfl rfl (Nat.le_of_ble_eq_true rfl) dX1_go_15 (fun H locs hP hS => ?_)
  refine W.eq (g2 := F0 m 18 ls []) rfl ?_
  refine lv_aload_n hx hb dX1_go_18 rfl (lv_at hl 1 rfl) ?_
  refine lv_aload_n hx hb dX1_go_19 rfl (lv_at hl 0 rfl) ?_
  refine va_get (D := D) (ci := 1) (v := .ref (a 4)) (C := RX1) (T := TX1) (N := 8) hx hb hts inX1 hown hK hP 3 (heX_3 ca a t_2) rfl 0 (by decide) (hts _ kw_225) (fun _ h9 => h9) rfl dX1_go_20 ?_
  obtain ⟨t_3, g_23, hf⟩ := fb_vs hf
  refine fw_V1 (As := [.ref (a 4)]) (rest := []) (n := 1) (q0 := 7) C (c_X_X7_tell__7_4 (l := l) (D := D) (ca := ca) (a := a) g_23) kw_437 kw_438 kw_97 kw_440 kw_439 hP hS hl (heX_7 ca a t_2) rfl rfl rfl (by decide) (by decide +kernel) ⟨Nat.le_of_ble_eq_true rfl, Nat.le_of_ble_eq_true rfl⟩ rfl rfl (Nat.le_of_ble_eq_true rfl) dX1_go_23 (fun H locs hP hS => ?_)
  refine W.eq (g2 := F0 m 26 ls []) rfl ?_
  refine lv_aload_n hx hb dX1_go_26 rfl (lv_at hl 0 rfl) ?_
  refine lv_aload_n hx hb dX1_go_27 rfl (lv_at hl 1 rfl) ?_
  obtain ⟨v_5, t_4, g_28, hf⟩ := fb_bs hf
  refine fw_V1 (As := []) (rest := [.ref (a 3)]) (n := 0) (q0 := 7) C (c_X_X7_cells__7 (l := l) (D := D) (ca := ca) (a := a) g_28) kw_448 kw_449 kw_97 kw_451 kw_450 hP hS hl (heX_7 ca a t_3) rfl rfl rfl (by decide) (by decide +kernel) ⟨Nat.le_of_ble_eq_true rfl, Nat.le_of_ble_eq_true rfl⟩ rfl rfl (Nat.le_of_ble_eq_true rfl) dX1_go_28 (fun H locs hP hS => ?_)
  refine W.eq (g2 := F0 m 31 ls [.long v_5, .ref (a 3)]) rfl ?_
  refine va_put (D := D) (ci := 1) (v := .long v_5) (ty := .long) (C := RX1) (T := TX1) (N := 8) hx hb hts inX1 tyX1 tyX1_ok nmX1 hown hK hP (hD t_4) hS 3 (heX_3 ca a t_4) rfl 3 (by decide) (hts _ kw_228) (fun _ h9 => h9) rfl (by decide +kernel) rfl rfl (Nat.le_of_ble_eq_true rfl) dX1_go_31 (fun H locs hP _ hS => ?_)
  rw [suX_3_3] at hP
  obtain ⟨t_6, e_31, hf⟩ := fb_ls hf
  rw [← e_31] at hP
  refine lv_aload_n hx hb dX1_go_34 rfl (lv_at hl 0 rfl) ?_
  refine lv_aload_n hx hb dX1_go_35 rfl (lv_at hl 0 rfl) ?_
  refine va_get (D := D) (ci := 1) (v := .ref (a 4)) (C := RX1) (T := TX1) (N := 8) hx hb hts inX1 hown hK hP 3 (heX_3 ca a t_6) rfl 0 (by decide) (hts _ kw_225) (fun _ h9 => h9) rfl dX1_go_36 ?_
  obtain ⟨v_8, t_7, g_39, hf⟩ := fb_bs hf
  refine fw_V1 (As := []) (rest := [.ref (a 3)]) (n := 0) (q0 := 4) C (c_X_X0_plain__4 (l := l) (D := D) (ca := ca) (a := a) g_39) kw_452 kw_453 kw_96 kw_455 kw_454 hP hS hl (heX_4 ca a t_6) rfl rfl rfl (by decide) (by decide +kernel) ⟨Nat.le_of_ble_eq_true rfl, Nat.le_of_ble_eq_true rfl⟩ rfl rfl (Nat.le_of_ble_eq_true rfl) dX1_go_39 (fun H locs hP hS => ?_)
  refine W.eq (g2 := F0 m 42 ls [.long v_8, .ref (a 3)]) rfl ?_
  refine va_put (D := D) (ci := 1) (v := .long v_8) (ty := .long) (C := RX1) (T := TX1) (N := 8) hx hb hts inX1 tyX1 tyX1_ok nmX1 hown hK hP (hD t_7) hS 3 (heX_3 ca a t_7) rfl 4 (by decide) (hts _ kw_229) (fun _ h9 => h9) rfl (by decide +kernel) rfl rfl (Nat.le_of_ble_eq_true rfl) dX1_go_42 (fun H locs hP _ hS => ?_)
  rw [suX_3_4] at hP
  obtain ⟨t_9, e_42, hf⟩ := fb_ls hf
  rw [← e_42] at hP
  refine lv_aload_n hx hb dX1_go_45 rfl (lv_at hl 0 rfl) ?_
  refine lv_lconst (v := 0) hx hb dX1_go_46 (by decide) ?_
  refine va_put (D := D) (ci := 1) (v := .long ((0 : Int64))) (ty := .long) (C := RX1) (T := TX1) (N := 8) hx hb hts inX1 tyX1 tyX1_ok nmX1 hown hK hP (hD t_9) hS 3 (heX_3 ca a t_9) rfl 5 (by decide) (hts _ kw_230) (fun _ h9 => h9) rfl (by decide +kernel) rfl rfl (Nat.le_of_ble_eq_true rfl) dX1_go_47 (fun H locs hP _ hS => ?_)
  rw [suX_3_5] at hP
  obtain ⟨t_10, e_47, hf⟩ := fb_ls hf
  rw [← e_47] at hP
  refine lv_aload_n hx hb dX1_go_50 rfl (lv_at hl 0 rfl) ?_
  refine lv_iconst (v := 0) hx hb dX1_go_51 (by decide) ?_
  obtain ⟨h_52, hf⟩ := fb_if hf
  refine va_put (D := D) (ci := 1) (v := .int ((0 : Int32))) (ty := .boolean) (C := RX1) (T := TX1) (N := 8) hx hb hts inX1 tyX1 tyX1_ok nmX1 hown hK hP (hD t_10) hS 3 (heX_3 ca a t_10) rfl 6 (by decide) (hts _ kw_231) (fun _ h9 => h9) rfl (by decide +kernel) (fb_z h_52).1 (fb_z h_52).2 (Nat.le_of_ble_eq_true rfl) dX1_go_52 (fun H locs hP _ hS => ?_)
  rw [suX_3_6] at hP
  obtain ⟨t_11, e_52, hf⟩ := fb_ls hf
  rw [← e_52] at hP
  refine lv_iconst (v := 0) hx hb dX1_go_55 (by decide) ?_
  refine lv_istore_n (lv' := [(2, .int ((0 : Int32))), (0, .ref (a 3)), (1, .ref (a 7))]) hx hb dX1_go_56 rfl hl (by decide) rfl (fun ls hl => ?_)
  exact w_X_X1_go__3_7_57 C hr 3000 t_11 ((0 : Int32)) _ _ _ hf hP hS (lv_sub hl [1, 0] rfl)
set_option maxRecDepth 20000 in
theorem c_X_X1_go__3_7 {l : Launch} {D : va_G} {ca : Nat → ClassId} {a : Nat → Nat} {t : fw_S}  {u : fw_S} {r : Int32} (hf : f_X_X1_go__3_7 t  = some (r, u)) : MC (WX ca a) D (tyv ca) l yX1_go (.code yX1_go prog_3_method_5_code 3 (some .int) :: lw_gd) rm_X_X1_go__3_7 [.ref (a 3), .ref (a 7)] (some (.int r)) t u := by
  refine fw_met (okX ca a) (by decide +kernel) rfl rfl (Nat.le_of_ble_eq_true rfl) ?_
  intro p e s m args below meth c A Q ls C hr hk hP hS hl hQ
  exact w_X_X1_go__3_7_0 C (fun _ => fw_ri C hr hk hQ) hf hP hS (lv_sub hl [0, 1] rfl)
/-! ReactiveSheet.supposed(IJ)I ['x'] -/
abbrev rm_X_X10_supposed__0 : Room := { frames := 5, cells := 0, slots := 0, locals := 165 }
def b_X_X10_supposed__0_0  (t : fw_S) (x1 : Int32) (y2 : Int64) : Option (Int32 × fw_S) := fb_v (f_X_X7_forget__7 t) fun t_1 => (fb_v (f_X_X7_put__7_N t_1 x1 ((1 : Int32)) y2) fun t_2 => (fb_b (f_X_X1_go__3_7 t_2) fun v_4 t_3 => (some (v_4, t_3))))
def f_X_X10_supposed__0 (t : fw_S) (x1 : Int32) (y2 : Int64) : Option (Int32 × fw_S) := b_X_X10_supposed__0_0 t x1 y2
set_option maxRecDepth 20000 in
theorem w_X_X10_supposed__0_0 {p : Program} {l : Launch} {e : Env} {s : State} {m : MethodId} {args : Array Value} {below : List Frame} {meth : Method} {c : Code} {A : Nat → Prop} {Q : State → Prop} {D : va_G} {ca : Nat → ClassId} {a : Nat → Nat} {u : fw_S} {r : Int32}  (C : CX (WX ca a) D (tyv ca) p s m args c A prog_1_method_42_code 4 RX10) (hr : True → RX (WX ca a) D p l e rm_X_X10_supposed__0 s m args below meth c A prog_1_method_42_code Q .ireturn [.int r] u) {t : fw_S} {x1 : Int32} {y2 : Int64} {H : Heap} {locs : List Loc} {ls : Array Slot} (hf : b_X_X10_supposed__0_0  t x1 y2 = some (r, u)) (hP : va_P D classes (WX ca a t) H) (hS : va_S A s.heap H locs) (hl : lv_has ls 4 [(0, .ref (a 0)), (1, .int x1), (2, .long y2)]) : W p l e rm_X_X10_supposed__0 s m args below meth c H locs 0 0 Q (F0 m 0 ls []) := by
  obtain ⟨hx, hb, hml, hown, hts, hN, hK, hD, hA⟩ := id C
  have hf : (fb_v (f_X_X7_forget__7 t) fun t_1 => (fb_v (f_X_X7_put__7_N t_1 x1 ((1 : Int32)) y2) fun t_2 => (fb_b (f_X_X1_go__3_7 t_2) fun v_4 t_3 => (some (v_4, t_3))))) = some (r, u) := hf
  refine lv_aload_n hx hb dX10_supposed_0 rfl (lv_at hl 0 rfl) ?_
  refine va_get (D := D) (ci := 10) (v := .ref (a 7)) (C := RX10) (T := TX10) (N := 13) hx hb hts inX10 hown hK hP 0 (heX_0 ca a t) rfl 4 (by decide) (hts _ kw_358) (fun _ h9 => h9) rfl dX10_supposed_1 ?_
  obtain ⟨t_1, g_4, hf⟩ := fb_vs hf
  refine fw_V1 (As := []) (rest := []) (n := 0) (q0 := 7) C (c_X_X7_forget__7 (l := l) (D := D) (ca := ca) (a := a) g_4) kw_669 kw_670 kw_97 kw_672 kw_671 hP hS hl (heX_7 ca a t) rfl rfl rfl (by decide) (by decide +kernel) ⟨Nat.le_of_ble_eq_true rfl, Nat.le_of_ble_eq_true rfl⟩ rfl rfl (Nat.le_of_ble_eq_true rfl) dX10_supposed_4 (fun H locs hP hS => ?_)
  refine W.eq (g2 := F0 m 7 ls []) rfl ?_
  refine lv_aload_n hx hb dX10_supposed_7 rfl (lv_at hl 0 rfl) ?_
  refine va_get (D := D) (ci := 10) (v := .ref (a 7)) (C := RX10) (T := TX10) (N := 13) hx hb hts inX10 hown hK hP 0 (heX_0 ca a t_1) rfl 4 (by decide) (hts _ kw_358) (fun _ h9 => h9) rfl dX10_supposed_8 ?_
  refine lv_iload_n hx hb dX10_supposed_11 rfl (lv_at hl 1 rfl) ?_
  refine lv_iconst (v := 1) hx hb dX10_supposed_12 (by decide) ?_
  refine lv_lload_n hx hb dX10_supposed_13 rfl (lv_at hl 2 rfl) ?_
  refine lv_null hx hb dX10_supposed_14 ?_
  obtain ⟨t_2, g_15, hf⟩ := fb_vs hf
  refine fw_V1 (As := [.int x1, .int ((1 : Int32)), .long y2, .null]) (rest := []) (n := 4) (q0 := 7) C (c_X_X7_put__7_N (l := l) (D := D) (ca := ca) (a := a) g_15) kw_402 kw_403 kw_97 kw_405 kw_404 hP hS hl (heX_7 ca a t_1) rfl rfl rfl (by decide) (by decide +kernel) ⟨Nat.le_of_ble_eq_true rfl, Nat.le_of_ble_eq_true rfl⟩ rfl rfl (Nat.le_of_ble_eq_true rfl) dX10_supposed_15 (fun H locs hP hS => ?_)
  refine W.eq (g2 := F0 m 18 ls []) rfl ?_
  refine lv_aload_n hx hb dX10_supposed_18 rfl (lv_at hl 0 rfl) ?_
  refine va_get (D := D) (ci := 10) (v := .ref (a 3)) (C := RX10) (T := TX10) (N := 13) hx hb hts inX10 hown hK hP 0 (heX_0 ca a t_2) rfl 2 (by decide) (hts _ kw_356) (fun _ h9 => h9) rfl dX10_supposed_19 ?_
  refine lv_aload_n hx hb dX10_supposed_22 rfl (lv_at hl 0 rfl) ?_
  refine va_get (D := D) (ci := 10) (v := .ref (a 7)) (C := RX10) (T := TX10) (N := 13) hx hb hts inX10 hown hK hP 0 (heX_0 ca a t_2) rfl 4 (by decide) (hts _ kw_358) (fun _ h9 => h9) rfl dX10_supposed_23 ?_
  obtain ⟨v_4, t_3, g_26, hf⟩ := fb_bs hf
  refine fw_V1 (As := [.ref (a 7)]) (rest := []) (n := 1) (q0 := 3) C (c_X_X1_go__3_7 (l := l) (D := D) (ca := ca) (a := a) g_26) kw_414 kw_415 kw_95 kw_417 kw_416 hP hS hl (heX_3 ca a t_2) rfl rfl rfl (by decide) (by decide +kernel) ⟨Nat.le_of_ble_eq_true rfl, Nat.le_of_ble_eq_true rfl⟩ rfl rfl (Nat.le_of_ble_eq_true rfl) dX10_supposed_26 (fun H locs hP hS => ?_)
  refine W.eq (g2 := F0 m 29 ls [.int v_4]) rfl ?_
  obtain ⟨e_29, e2_29⟩ := fb_e hf
  subst e_29; subst e2_29
  exact hr trivial _ _ _ _ hP hS dX10_supposed_29
set_option maxRecDepth 20000 in
theorem c_X_X10_supposed__0 {l : Launch} {D : va_G} {ca : Nat → ClassId} {a : Nat → Nat} {t : fw_S} {x1 : Int32} {y2 : Int64} {u : fw_S} {r : Int32} (hf : f_X_X10_supposed__0 t x1 y2 = some (r, u)) : MC (WX ca a) D (tyv ca) l yX10_supposed (.code yX10_supposed prog_1_method_42_code 4 (some .int) :: lw_gd) rm_X_X10_supposed__0 [.ref (a 0), .int x1, .long y2] (some (.int r)) t u := by
  refine fw_met (okX ca a) (by decide +kernel) rfl rfl (Nat.le_of_ble_eq_true rfl) ?_
  intro p e s m args below meth c A Q ls C hr hk hP hS hl hQ
  exact w_X_X10_supposed__0_0 C (fun _ => fw_ri C hr hk hQ) hf hP hS (lv_sub hl [0, 1, 2] rfl)
/-! ReactiveSheet.whatIf(IJI)J ['x'] -/
abbrev rm_X_X10_whatIf__0 : Room := { frames := 6, cells := 0, slots := 0, locals := 188 }
def b_X_X10_whatIf__0_28  (t : fw_S)  : Option (Int64 × fw_S) := some ((-9223372036854775808 : Int64), t)
def b_X_X10_whatIf__0_32  (t : fw_S) (x4 : Int32) : Option (Int64 × fw_S) := fb_v (f_X_X1_now__3 t) fun t_1 => (fb_b (f_X_X0_known__4 t_1 x4) fun v_3 t_2 => (fb_v (f_X_X1_back__3 t_2) fun t_4 => (some (v_3, t_4))))
def b_X_X10_whatIf__0_17  (t : fw_S) (x1 : Int32) (y2 : Int64) (x4 : Int32) : Option (Int64 × fw_S) := fb_b (f_X_X10_supposed__0 t x1 y2) fun v_2 t_1 => (if v_2 = ((-7 : Int32)) then b_X_X10_whatIf__0_28 t_1 else b_X_X10_whatIf__0_32 t_1 x4)
def b_X_X10_whatIf__0_8  (t : fw_S) (x1 : Int32) (y2 : Int64) (x4 : Int32) : Option (Int64 × fw_S) := fb_b (f_X_X10_isCell t x4.toInt64) fun v_2 t_1 => (if v_2 = 0 then b_X_X10_whatIf__0_28 t_1 else b_X_X10_whatIf__0_17 t_1 x1 y2 x4)
def b_X_X10_whatIf__0_0  (t : fw_S) (x1 : Int32) (y2 : Int64) (x4 : Int32) : Option (Int64 × fw_S) := fb_b (f_X_X10_isCell t x1.toInt64) fun v_2 t_1 => (if v_2 = 0 then b_X_X10_whatIf__0_28 t_1 else b_X_X10_whatIf__0_8 t_1 x1 y2 x4)
def f_X_X10_whatIf__0 (t : fw_S) (x1 : Int32) (y2 : Int64) (x4 : Int32) : Option (Int64 × fw_S) := b_X_X10_whatIf__0_0 t x1 y2 x4
set_option maxRecDepth 20000 in
theorem w_X_X10_whatIf__0_28 {p : Program} {l : Launch} {e : Env} {s : State} {m : MethodId} {args : Array Value} {below : List Frame} {meth : Method} {c : Code} {A : Nat → Prop} {Q : State → Prop} {D : va_G} {ca : Nat → ClassId} {a : Nat → Nat} {u : fw_S} {r : Int64}  (C : CX (WX ca a) D (tyv ca) p s m args c A prog_1_method_19_code 7 RX10) (hr : True → RX (WX ca a) D p l e rm_X_X10_whatIf__0 s m args below meth c A prog_1_method_19_code Q .lreturn [.long r] u) {t : fw_S}  {H : Heap} {locs : List Loc} {ls : Array Slot} (hf : b_X_X10_whatIf__0_28  t  = some (r, u)) (hP : va_P D classes (WX ca a t) H) (hS : va_S A s.heap H locs) (hl : lv_has ls 7 []) : W p l e rm_X_X10_whatIf__0 s m args below meth c H locs 0 0 Q (F0 m 28 ls []) := by
  obtain ⟨hx, hb, hml, hown, hts, hN, hK, hD, hA⟩ := id C
  have hf : (some ((-9223372036854775808 : Int64), t)) = some (r, u) := hf
  refine lv_ldc2 (v := (-9223372036854775808)) hx hb hown (hts _ kw_895) dX10_whatIf_28 ?_
  obtain ⟨e_31, e2_31⟩ := fb_e hf
  subst e_31; subst e2_31
  exact hr trivial _ _ _ _ hP hS dX10_whatIf_31
set_option maxRecDepth 20000 in
theorem w_X_X10_whatIf__0_32 {p : Program} {l : Launch} {e : Env} {s : State} {m : MethodId} {args : Array Value} {below : List Frame} {meth : Method} {c : Code} {A : Nat → Prop} {Q : State → Prop} {D : va_G} {ca : Nat → ClassId} {a : Nat → Nat} {u : fw_S} {r : Int64}  (C : CX (WX ca a) D (tyv ca) p s m args c A prog_1_method_19_code 7 RX10) (hr : True → RX (WX ca a) D p l e rm_X_X10_whatIf__0 s m args below meth c A prog_1_method_19_code Q .lreturn [.long r] u) {t : fw_S} {x4 : Int32} {H : Heap} {locs : List Loc} {ls : Array Slot} (hf : b_X_X10_whatIf__0_32  t x4 = some (r, u)) (hP : va_P D classes (WX ca a t) H) (hS : va_S A s.heap H locs) (hl : lv_has ls 7 [(0, .ref (a 0)), (4, .int x4)]) : W p l e rm_X_X10_whatIf__0 s m args below meth c H locs 0 0 Q (F0 m 32 ls []) := by
  obtain ⟨hx, hb, hml, hown, hts, hN, hK, hD, hA⟩ := id C
  have hf : (fb_v (f_X_X1_now__3 t) fun t_1 => (fb_b (f_X_X0_known__4 t_1 x4) fun v_3 t_2 => (fb_v (f_X_X1_back__3 t_2) fun t_4 => (some (v_3, t_4))))) = some (r, u) := hf
  refine lv_aload_n hx hb dX10_whatIf_32 rfl (lv_at hl 0 rfl) ?_
  refine va_get (D := D) (ci := 10) (v := .ref (a 3)) (C := RX10) (T := TX10) (N := 13) hx hb hts inX10 hown hK hP 0 (heX_0 ca a t) rfl 2 (by decide) (hts _ kw_356) (fun _ h9 => h9) rfl dX10_whatIf_33 ?_
  obtain ⟨t_1, g_36, hf⟩ := fb_vs hf
  refine fw_V1 (As := []) (rest := []) (n := 0) (q0 := 3) C (c_X_X1_now__3 (l := l) (D := D) (ca := ca) (a := a) g_36) kw_626 kw_627 kw_95 kw_629 kw_628 hP hS hl (heX_3 ca a t) rfl rfl rfl (by decide) (by decide +kernel) ⟨Nat.le_of_ble_eq_true rfl, Nat.le_of_ble_eq_true rfl⟩ rfl rfl (Nat.le_of_ble_eq_true rfl) dX10_whatIf_36 (fun H locs hP hS => ?_)
  refine W.eq (g2 := F0 m 39 ls [.ref (a 4)]) rfl ?_
  refine lv_iload hx hb dX10_whatIf_39 (lv_at hl 1 rfl) ?_
  obtain ⟨v_3, t_2, g_41, hf⟩ := fb_bs hf
  refine fw_V1 (As := [.int x4]) (rest := []) (n := 1) (q0 := 4) C (c_X_X0_known__4 (l := l) (D := D) (ca := ca) (a := a) g_41) kw_856 kw_647 kw_96 kw_649 kw_648 hP hS hl (heX_4 ca a t_1) rfl rfl rfl (by decide) (by decide +kernel) ⟨Nat.le_of_ble_eq_true rfl, Nat.le_of_ble_eq_true rfl⟩ rfl rfl (Nat.le_of_ble_eq_true rfl) dX10_whatIf_41 (fun H locs hP hS => ?_)
  refine W.eq (g2 := F0 m 44 ls [.long v_3]) rfl ?_
  refine lv_lstore (lv' := [(5, .long v_3), (0, .ref (a 0)), (4, .int x4)]) hx hb dX10_whatIf_44 hl (by decide) rfl (fun ls hl => ?_)
  refine lv_aload_n hx hb dX10_whatIf_46 rfl (lv_at hl 1 rfl) ?_
  refine va_get (D := D) (ci := 10) (v := .ref (a 3)) (C := RX10) (T := TX10) (N := 13) hx hb hts inX10 hown hK hP 0 (heX_0 ca a t_2) rfl 2 (by decide) (hts _ kw_356) (fun _ h9 => h9) rfl dX10_whatIf_47 ?_
  obtain ⟨t_4, g_50, hf⟩ := fb_vs hf
  refine fw_V1 (As := []) (rest := []) (n := 0) (q0 := 3) C (c_X_X1_back__3 (l := l) (D := D) (ca := ca) (a := a) g_50) kw_954 kw_609 kw_95 kw_611 kw_610 hP hS hl (heX_3 ca a t_2) rfl rfl rfl (by decide) (by decide +kernel) ⟨Nat.le_of_ble_eq_true rfl, Nat.le_of_ble_eq_true rfl⟩ rfl rfl (Nat.le_of_ble_eq_true rfl) dX10_whatIf_50 (fun H locs hP hS => ?_)
  refine W.eq (g2 := F0 m 53 ls []) rfl ?_
  refine lv_lload hx hb dX10_whatIf_53 (lv_at hl 0 rfl) ?_
  obtain ⟨e_55, e2_55⟩ := fb_e hf
  subst e_55; subst e2_55
  exact hr trivial _ _ _ _ hP hS dX10_whatIf_55
set_option maxRecDepth 20000 in
theorem w_X_X10_whatIf__0_17 {p : Program} {l : Launch} {e : Env} {s : State} {m : MethodId} {args : Array Value} {below : List Frame} {meth : Method} {c : Code} {A : Nat → Prop} {Q : State → Prop} {D : va_G} {ca : Nat → ClassId} {a : Nat → Nat} {u : fw_S} {r : Int64}  (C : CX (WX ca a) D (tyv ca) p s m args c A prog_1_method_19_code 7 RX10) (hr : True → RX (WX ca a) D p l e rm_X_X10_whatIf__0 s m args below meth c A prog_1_method_19_code Q .lreturn [.long r] u) {t : fw_S} {x1 : Int32} {y2 : Int64} {x4 : Int32} {H : Heap} {locs : List Loc} {ls : Array Slot} (hf : b_X_X10_whatIf__0_17  t x1 y2 x4 = some (r, u)) (hP : va_P D classes (WX ca a t) H) (hS : va_S A s.heap H locs) (hl : lv_has ls 7 [(0, .ref (a 0)), (1, .int x1), (2, .long y2), (4, .int x4)]) : W p l e rm_X_X10_whatIf__0 s m args below meth c H locs 0 0 Q (F0 m 17 ls []) := by
  obtain ⟨hx, hb, hml, hown, hts, hN, hK, hD, hA⟩ := id C
  have hf : (fb_b (f_X_X10_supposed__0 t x1 y2) fun v_2 t_1 => (if v_2 = ((-7 : Int32)) then b_X_X10_whatIf__0_28 t_1 else b_X_X10_whatIf__0_32 t_1 x4)) = some (r, u) := hf
  refine lv_aload_n hx hb dX10_whatIf_17 rfl (lv_at hl 0 rfl) ?_
  refine lv_iload_n hx hb dX10_whatIf_18 rfl (lv_at hl 1 rfl) ?_
  refine lv_lload_n hx hb dX10_whatIf_19 rfl (lv_at hl 2 rfl) ?_
  obtain ⟨v_2, t_1, g_20, hf⟩ := fb_bs hf
  refine fw_V1 (As := [.int x1, .long y2]) (rest := []) (n := 2) (q0 := 0) C (c_X_X10_supposed__0 (l := l) (D := D) (ca := ca) (a := a) g_20) kw_950 kw_952 kw_92 kw_953 kw_35 hP hS hl (heX_0 ca a t) rfl rfl rfl (by decide) (by decide +kernel) ⟨Nat.le_of_ble_eq_true rfl, Nat.le_of_ble_eq_true rfl⟩ rfl rfl (Nat.le_of_ble_eq_true rfl) dX10_whatIf_20 (fun H locs hP hS => ?_)
  refine W.eq (g2 := F0 m 23 ls [.int v_2]) rfl ?_
  refine lv_bipush (v := (-7)) hx hb dX10_whatIf_23 (by decide) ?_
  refine lv_icmp_ne (tgt := 32) hx hb dX10_whatIf_25 (by decide) (fun h_25 => ?_) (fun h_25 => ?_)
  · have hf := fb_f h_25 hf
    exact w_X_X10_whatIf__0_32 C hr hf hP hS (lv_sub hl [0, 3] rfl)
  · have hf := fb_t h_25 hf
    exact w_X_X10_whatIf__0_28 C hr hf hP hS (lv_sub hl [] rfl)
set_option maxRecDepth 20000 in
theorem w_X_X10_whatIf__0_8 {p : Program} {l : Launch} {e : Env} {s : State} {m : MethodId} {args : Array Value} {below : List Frame} {meth : Method} {c : Code} {A : Nat → Prop} {Q : State → Prop} {D : va_G} {ca : Nat → ClassId} {a : Nat → Nat} {u : fw_S} {r : Int64}  (C : CX (WX ca a) D (tyv ca) p s m args c A prog_1_method_19_code 7 RX10) (hr : True → RX (WX ca a) D p l e rm_X_X10_whatIf__0 s m args below meth c A prog_1_method_19_code Q .lreturn [.long r] u) {t : fw_S} {x1 : Int32} {y2 : Int64} {x4 : Int32} {H : Heap} {locs : List Loc} {ls : Array Slot} (hf : b_X_X10_whatIf__0_8  t x1 y2 x4 = some (r, u)) (hP : va_P D classes (WX ca a t) H) (hS : va_S A s.heap H locs) (hl : lv_has ls 7 [(0, .ref (a 0)), (1, .int x1), (2, .long y2), (4, .int x4)]) : W p l e rm_X_X10_whatIf__0 s m args below meth c H locs 0 0 Q (F0 m 8 ls []) := by
  obtain ⟨hx, hb, hml, hown, hts, hN, hK, hD, hA⟩ := id C
  have hf : (fb_b (f_X_X10_isCell t x4.toInt64) fun v_2 t_1 => (if v_2 = 0 then b_X_X10_whatIf__0_28 t_1 else b_X_X10_whatIf__0_17 t_1 x1 y2 x4)) = some (r, u) := hf
  refine lv_iload hx hb dX10_whatIf_8 (lv_at hl 3 rfl) ?_
  refine lv_i2l hx hb dX10_whatIf_10 rfl ?_
  obtain ⟨v_2, t_1, g_11, hf⟩ := fb_bs hf
  refine fw_S1 (As := [.long x4.toInt64]) (rest := []) (n := 1) C (c_X_X10_isCell (l := l) (D := D) (ca := ca) (a := a) g_11) kw_398 kw_399 kw_92 kw_400 hP hS hl rfl rfl (by decide) (by decide +kernel) ⟨Nat.le_of_ble_eq_true rfl, Nat.le_of_ble_eq_true rfl⟩ rfl rfl (Nat.le_of_ble_eq_true rfl) dX10_whatIf_11 (fun H locs hP hS => ?_)
  refine W.eq (g2 := F0 m 14 ls [.int v_2]) rfl ?_
  refine lv_if_eq (tgt := 28) hx hb dX10_whatIf_14 (by decide) (fun h_14 => ?_) (fun h_14 => ?_)
  · have hf := fb_t h_14 hf
    exact w_X_X10_whatIf__0_28 C hr hf hP hS (lv_sub hl [] rfl)
  · have hf := fb_f h_14 hf
    exact w_X_X10_whatIf__0_17 C hr hf hP hS (lv_sub hl [0, 1, 2, 3] rfl)
set_option maxRecDepth 20000 in
theorem w_X_X10_whatIf__0_0 {p : Program} {l : Launch} {e : Env} {s : State} {m : MethodId} {args : Array Value} {below : List Frame} {meth : Method} {c : Code} {A : Nat → Prop} {Q : State → Prop} {D : va_G} {ca : Nat → ClassId} {a : Nat → Nat} {u : fw_S} {r : Int64}  (C : CX (WX ca a) D (tyv ca) p s m args c A prog_1_method_19_code 7 RX10) (hr : True → RX (WX ca a) D p l e rm_X_X10_whatIf__0 s m args below meth c A prog_1_method_19_code Q .lreturn [.long r] u) {t : fw_S} {x1 : Int32} {y2 : Int64} {x4 : Int32} {H : Heap} {locs : List Loc} {ls : Array Slot} (hf : b_X_X10_whatIf__0_0  t x1 y2 x4 = some (r, u)) (hP : va_P D classes (WX ca a t) H) (hS : va_S A s.heap H locs) (hl : lv_has ls 7 [(0, .ref (a 0)), (1, .int x1), (2, .long y2), (4, .int x4)]) : W p l e rm_X_X10_whatIf__0 s m args below meth c H locs 0 0 Q (F0 m 0 ls []) := by
  obtain ⟨hx, hb, hml, hown, hts, hN, hK, hD, hA⟩ := id C
  have hf : (fb_b (f_X_X10_isCell t x1.toInt64) fun v_2 t_1 => (if v_2 = 0 then b_X_X10_whatIf__0_28 t_1 else b_X_X10_whatIf__0_8 t_1 x1 y2 x4)) = some (r, u) := hf
  refine lv_iload_n hx hb dX10_whatIf_0 rfl (lv_at hl 1 rfl) ?_
  refine lv_i2l hx hb dX10_whatIf_1 rfl ?_
  obtain ⟨v_2, t_1, g_2, hf⟩ := fb_bs hf
  refine fw_S1 (As := [.long x1.toInt64]) (rest := []) (n := 1) C (c_X_X10_isCell (l := l) (D := D) (ca := ca) (a := a) g_2) kw_398 kw_399 kw_92 kw_400 hP hS hl rfl rfl (by decide) (by decide +kernel) ⟨Nat.le_of_ble_eq_true rfl, Nat.le_of_ble_eq_true rfl⟩ rfl rfl (Nat.le_of_ble_eq_true rfl) dX10_whatIf_2 (fun H locs hP hS => ?_)
  refine W.eq (g2 := F0 m 5 ls [.int v_2]) rfl ?_
  refine lv_if_eq (tgt := 28) hx hb dX10_whatIf_5 (by decide) (fun h_5 => ?_) (fun h_5 => ?_)
  · have hf := fb_t h_5 hf
    exact w_X_X10_whatIf__0_28 C hr hf hP hS (lv_sub hl [] rfl)
  · have hf := fb_f h_5 hf
    exact w_X_X10_whatIf__0_8 C hr hf hP hS (lv_sub hl [0, 1, 2, 3] rfl)
set_option maxRecDepth 20000 in
theorem c_X_X10_whatIf__0 {l : Launch} {D : va_G} {ca : Nat → ClassId} {a : Nat → Nat} {t : fw_S} {x1 : Int32} {y2 : Int64} {x4 : Int32} {u : fw_S} {r : Int64} (hf : f_X_X10_whatIf__0 t x1 y2 x4 = some (r, u)) : MC (WX ca a) D (tyv ca) l yX10_whatIf (.code yX10_whatIf prog_1_method_19_code 7 (some .long) :: lw_gd) rm_X_X10_whatIf__0 [.ref (a 0), .int x1, .long y2, .int x4] (some (.long r)) t u := by
  refine fw_met (okX ca a) (by decide +kernel) rfl rfl (Nat.le_of_ble_eq_true rfl) ?_
  intro p e s m args below meth c A Q ls C hr hk hP hS hl hQ
  exact w_X_X10_whatIf__0_0 C (fun _ => fw_rl C hr hk hQ) hf hP hS (lv_sub hl [0, 1, 2, 3] rfl)
/-! ReactiveSheet.would(IJ)I ['x'] -/
abbrev rm_X_X10_would__0 : Room := { frames := 6, cells := 0, slots := 0, locals := 188 }
def b_X_X10_would__0_32  (t : fw_S) (x4 : Int32) : Option (Int32 × fw_S) := some (x4, t)
def b_X_X10_would__0_25  (t : fw_S) (x4 : Int32) : Option (Int32 × fw_S) := fb_v (f_X_X1_back__3 t) fun t_1 => (b_X_X10_would__0_32 t_1 x4)
def b_X_X10_would__0_10  (t : fw_S) (x1 : Int32) (y2 : Int64) : Option (Int32 × fw_S) := fb_b (f_X_X10_supposed__0 t x1 y2) fun v_2 t_1 => (if v_2 = ((-7 : Int32)) then b_X_X10_would__0_32 t_1 v_2 else b_X_X10_would__0_25 t_1 v_2)
def b_X_X10_would__0_8  (t : fw_S)  : Option (Int32 × fw_S) := some ((-1 : Int32), t)
def b_X_X10_would__0_0  (t : fw_S) (x1 : Int32) (y2 : Int64) : Option (Int32 × fw_S) := fb_b (f_X_X10_isCell t x1.toInt64) fun v_2 t_1 => (if v_2 = 0 then b_X_X10_would__0_8 t_1 else b_X_X10_would__0_10 t_1 x1 y2)
def f_X_X10_would__0 (t : fw_S) (x1 : Int32) (y2 : Int64) : Option (Int32 × fw_S) := b_X_X10_would__0_0 t x1 y2
set_option maxRecDepth 20000 in
theorem w_X_X10_would__0_32 {p : Program} {l : Launch} {e : Env} {s : State} {m : MethodId} {args : Array Value} {below : List Frame} {meth : Method} {c : Code} {A : Nat → Prop} {Q : State → Prop} {D : va_G} {ca : Nat → ClassId} {a : Nat → Nat} {u : fw_S} {r : Int32}  (C : CX (WX ca a) D (tyv ca) p s m args c A prog_1_method_20_code 5 RX10) (hr : True → RX (WX ca a) D p l e rm_X_X10_would__0 s m args below meth c A prog_1_method_20_code Q .ireturn [.int r] u) {t : fw_S} {x4 : Int32} {H : Heap} {locs : List Loc} {ls : Array Slot} (hf : b_X_X10_would__0_32  t x4 = some (r, u)) (hP : va_P D classes (WX ca a t) H) (hS : va_S A s.heap H locs) (hl : lv_has ls 5 [(4, .int x4)]) : W p l e rm_X_X10_would__0 s m args below meth c H locs 0 0 Q (F0 m 32 ls []) := by
  obtain ⟨hx, hb, hml, hown, hts, hN, hK, hD, hA⟩ := id C
  have hf : (some (x4, t)) = some (r, u) := hf
  refine lv_iload hx hb dX10_would_32 (lv_at hl 0 rfl) ?_
  obtain ⟨e_34, e2_34⟩ := fb_e hf
  subst e_34; subst e2_34
  exact hr trivial _ _ _ _ hP hS dX10_would_34
set_option maxRecDepth 20000 in
theorem w_X_X10_would__0_25 {p : Program} {l : Launch} {e : Env} {s : State} {m : MethodId} {args : Array Value} {below : List Frame} {meth : Method} {c : Code} {A : Nat → Prop} {Q : State → Prop} {D : va_G} {ca : Nat → ClassId} {a : Nat → Nat} {u : fw_S} {r : Int32}  (C : CX (WX ca a) D (tyv ca) p s m args c A prog_1_method_20_code 5 RX10) (hr : True → RX (WX ca a) D p l e rm_X_X10_would__0 s m args below meth c A prog_1_method_20_code Q .ireturn [.int r] u) {t : fw_S} {x4 : Int32} {H : Heap} {locs : List Loc} {ls : Array Slot} (hf : b_X_X10_would__0_25  t x4 = some (r, u)) (hP : va_P D classes (WX ca a t) H) (hS : va_S A s.heap H locs) (hl : lv_has ls 5 [(0, .ref (a 0)), (4, .int x4)]) : W p l e rm_X_X10_would__0 s m args below meth c H locs 0 0 Q (F0 m 25 ls []) := by
  obtain ⟨hx, hb, hml, hown, hts, hN, hK, hD, hA⟩ := id C
  have hf : (fb_v (f_X_X1_back__3 t) fun t_1 => (b_X_X10_would__0_32 t_1 x4)) = some (r, u) := hf
  refine lv_aload_n hx hb dX10_would_25 rfl (lv_at hl 0 rfl) ?_
  refine va_get (D := D) (ci := 10) (v := .ref (a 3)) (C := RX10) (T := TX10) (N := 13) hx hb hts inX10 hown hK hP 0 (heX_0 ca a t) rfl 2 (by decide) (hts _ kw_356) (fun _ h9 => h9) rfl dX10_would_26 ?_
  obtain ⟨t_1, g_29, hf⟩ := fb_vs hf
  refine fw_V1 (As := []) (rest := []) (n := 0) (q0 := 3) C (c_X_X1_back__3 (l := l) (D := D) (ca := ca) (a := a) g_29) kw_954 kw_609 kw_95 kw_611 kw_610 hP hS hl (heX_3 ca a t) rfl rfl rfl (by decide) (by decide +kernel) ⟨Nat.le_of_ble_eq_true rfl, Nat.le_of_ble_eq_true rfl⟩ rfl rfl (Nat.le_of_ble_eq_true rfl) dX10_would_29 (fun H locs hP hS => ?_)
  refine W.eq (g2 := F0 m 32 ls []) rfl ?_
  exact w_X_X10_would__0_32 C hr hf hP hS (lv_sub hl [1] rfl)
set_option maxRecDepth 20000 in
theorem w_X_X10_would__0_10 {p : Program} {l : Launch} {e : Env} {s : State} {m : MethodId} {args : Array Value} {below : List Frame} {meth : Method} {c : Code} {A : Nat → Prop} {Q : State → Prop} {D : va_G} {ca : Nat → ClassId} {a : Nat → Nat} {u : fw_S} {r : Int32}  (C : CX (WX ca a) D (tyv ca) p s m args c A prog_1_method_20_code 5 RX10) (hr : True → RX (WX ca a) D p l e rm_X_X10_would__0 s m args below meth c A prog_1_method_20_code Q .ireturn [.int r] u) {t : fw_S} {x1 : Int32} {y2 : Int64} {H : Heap} {locs : List Loc} {ls : Array Slot} (hf : b_X_X10_would__0_10  t x1 y2 = some (r, u)) (hP : va_P D classes (WX ca a t) H) (hS : va_S A s.heap H locs) (hl : lv_has ls 5 [(0, .ref (a 0)), (1, .int x1), (2, .long y2)]) : W p l e rm_X_X10_would__0 s m args below meth c H locs 0 0 Q (F0 m 10 ls []) := by
  obtain ⟨hx, hb, hml, hown, hts, hN, hK, hD, hA⟩ := id C
  have hf : (fb_b (f_X_X10_supposed__0 t x1 y2) fun v_2 t_1 => (if v_2 = ((-7 : Int32)) then b_X_X10_would__0_32 t_1 v_2 else b_X_X10_would__0_25 t_1 v_2)) = some (r, u) := hf
  refine lv_aload_n hx hb dX10_would_10 rfl (lv_at hl 0 rfl) ?_
  refine lv_iload_n hx hb dX10_would_11 rfl (lv_at hl 1 rfl) ?_
  refine lv_lload_n hx hb dX10_would_12 rfl (lv_at hl 2 rfl) ?_
  obtain ⟨v_2, t_1, g_13, hf⟩ := fb_bs hf
  refine fw_V1 (As := [.int x1, .long y2]) (rest := []) (n := 2) (q0 := 0) C (c_X_X10_supposed__0 (l := l) (D := D) (ca := ca) (a := a) g_13) kw_950 kw_952 kw_92 kw_953 kw_35 hP hS hl (heX_0 ca a t) rfl rfl rfl (by decide) (by decide +kernel) ⟨Nat.le_of_ble_eq_true rfl, Nat.le_of_ble_eq_true rfl⟩ rfl rfl (Nat.le_of_ble_eq_true rfl) dX10_would_13 (fun H locs hP hS => ?_)
  refine W.eq (g2 := F0 m 16 ls [.int v_2]) rfl ?_
  refine lv_istore (lv' := [(4, .int v_2), (0, .ref (a 0)), (1, .int x1), (2, .long y2)]) hx hb dX10_would_16 hl (by decide) rfl (fun ls hl => ?_)
  refine lv_iload hx hb dX10_would_18 (lv_at hl 0 rfl) ?_
  refine lv_bipush (v := (-7)) hx hb dX10_would_20 (by decide) ?_
  refine lv_icmp_eq (tgt := 32) hx hb dX10_would_22 (by decide) (fun h_22 => ?_) (fun h_22 => ?_)
  · have hf := fb_t h_22 hf
    exact w_X_X10_would__0_32 C hr hf hP hS (lv_sub hl [0] rfl)
  · have hf := fb_f h_22 hf
    exact w_X_X10_would__0_25 C hr hf hP hS (lv_sub hl [1, 0] rfl)
set_option maxRecDepth 20000 in
theorem w_X_X10_would__0_8 {p : Program} {l : Launch} {e : Env} {s : State} {m : MethodId} {args : Array Value} {below : List Frame} {meth : Method} {c : Code} {A : Nat → Prop} {Q : State → Prop} {D : va_G} {ca : Nat → ClassId} {a : Nat → Nat} {u : fw_S} {r : Int32}  (C : CX (WX ca a) D (tyv ca) p s m args c A prog_1_method_20_code 5 RX10) (hr : True → RX (WX ca a) D p l e rm_X_X10_would__0 s m args below meth c A prog_1_method_20_code Q .ireturn [.int r] u) {t : fw_S}  {H : Heap} {locs : List Loc} {ls : Array Slot} (hf : b_X_X10_would__0_8  t  = some (r, u)) (hP : va_P D classes (WX ca a t) H) (hS : va_S A s.heap H locs) (hl : lv_has ls 5 []) : W p l e rm_X_X10_would__0 s m args below meth c H locs 0 0 Q (F0 m 8 ls []) := by
  obtain ⟨hx, hb, hml, hown, hts, hN, hK, hD, hA⟩ := id C
  have hf : (some ((-1 : Int32), t)) = some (r, u) := hf
  refine lv_iconst (v := (-1)) hx hb dX10_would_8 (by decide) ?_
  obtain ⟨e_9, e2_9⟩ := fb_e hf
  subst e_9; subst e2_9
  exact hr trivial _ _ _ _ hP hS dX10_would_9
set_option maxRecDepth 20000 in
theorem w_X_X10_would__0_0 {p : Program} {l : Launch} {e : Env} {s : State} {m : MethodId} {args : Array Value} {below : List Frame} {meth : Method} {c : Code} {A : Nat → Prop} {Q : State → Prop} {D : va_G} {ca : Nat → ClassId} {a : Nat → Nat} {u : fw_S} {r : Int32}  (C : CX (WX ca a) D (tyv ca) p s m args c A prog_1_method_20_code 5 RX10) (hr : True → RX (WX ca a) D p l e rm_X_X10_would__0 s m args below meth c A prog_1_method_20_code Q .ireturn [.int r] u) {t : fw_S} {x1 : Int32} {y2 : Int64} {H : Heap} {locs : List Loc} {ls : Array Slot} (hf : b_X_X10_would__0_0  t x1 y2 = some (r, u)) (hP : va_P D classes (WX ca a t) H) (hS : va_S A s.heap H locs) (hl : lv_has ls 5 [(0, .ref (a 0)), (1, .int x1), (2, .long y2)]) : W p l e rm_X_X10_would__0 s m args below meth c H locs 0 0 Q (F0 m 0 ls []) := by
  obtain ⟨hx, hb, hml, hown, hts, hN, hK, hD, hA⟩ := id C
  have hf : (fb_b (f_X_X10_isCell t x1.toInt64) fun v_2 t_1 => (if v_2 = 0 then b_X_X10_would__0_8 t_1 else b_X_X10_would__0_10 t_1 x1 y2)) = some (r, u) := hf
  refine lv_iload_n hx hb dX10_would_0 rfl (lv_at hl 1 rfl) ?_
  refine lv_i2l hx hb dX10_would_1 rfl ?_
  obtain ⟨v_2, t_1, g_2, hf⟩ := fb_bs hf
  refine fw_S1 (As := [.long x1.toInt64]) (rest := []) (n := 1) C (c_X_X10_isCell (l := l) (D := D) (ca := ca) (a := a) g_2) kw_398 kw_399 kw_92 kw_400 hP hS hl rfl rfl (by decide) (by decide +kernel) ⟨Nat.le_of_ble_eq_true rfl, Nat.le_of_ble_eq_true rfl⟩ rfl rfl (Nat.le_of_ble_eq_true rfl) dX10_would_2 (fun H locs hP hS => ?_)
  refine W.eq (g2 := F0 m 5 ls [.int v_2]) rfl ?_
  refine lv_if_ne (tgt := 10) hx hb dX10_would_5 (by decide) (fun h_5 => ?_) (fun h_5 => ?_)
  · have hf := fb_f h_5 hf
    exact w_X_X10_would__0_10 C hr hf hP hS (lv_sub hl [0, 1, 2] rfl)
  · have hf := fb_t h_5 hf
    exact w_X_X10_would__0_8 C hr hf hP hS (lv_sub hl [] rfl)
set_option maxRecDepth 20000 in
theorem c_X_X10_would__0 {l : Launch} {D : va_G} {ca : Nat → ClassId} {a : Nat → Nat} {t : fw_S} {x1 : Int32} {y2 : Int64} {u : fw_S} {r : Int32} (hf : f_X_X10_would__0 t x1 y2 = some (r, u)) : MC (WX ca a) D (tyv ca) l yX10_would (.code yX10_would prog_1_method_20_code 5 (some .int) :: lw_gd) rm_X_X10_would__0 [.ref (a 0), .int x1, .long y2] (some (.int r)) t u := by
  refine fw_met (okX ca a) (by decide +kernel) rfl rfl (Nat.le_of_ble_eq_true rfl) ?_
  intro p e s m args below meth c A Q ls C hr hk hP hS hl hQ
  exact w_X_X10_would__0_0 C (fun _ => fw_ri C hr hk hQ) hf hP hS (lv_sub hl [0, 1, 2] rfl)
/-! ReactiveSheet.Cells.reaches(IJ)Z ['x.engine.now'] -/
abbrev rm_X_X0_reaches__4 : Room := { frames := 2, cells := 0, slots := 0, locals := 42 }
def b_X_X0_reaches__4_23  (t : fw_S) (z0 : Int32) : Option (Int32 × fw_S) := fb_g (z0 = 0 ∨ z0 = 1) (some (z0, t))
def b_X_X0_reaches__4_22  (t : fw_S)  : Option (Int32 × fw_S) := b_X_X0_reaches__4_23 t ((0 : Int32))
def b_X_X0_reaches__4_18  (t : fw_S)  : Option (Int32 × fw_S) := b_X_X0_reaches__4_23 t ((1 : Int32))
def b_X_X0_reaches__4_8  (t : fw_S) (x1 : Int32) (y2 : Int64) : Option (Int32 × fw_S) := fb_b (f_X_X0_numberOf__4 t x1) fun v_2 t_1 => (if (lg_cmp v_2 y2) < 0 then b_X_X0_reaches__4_22 t_1 else b_X_X0_reaches__4_18 t_1)
def b_X_X0_reaches__4_0  (t : fw_S) (x1 : Int32) (y2 : Int64) : Option (Int32 × fw_S) := fb_b (f_X_X0_errorOf__4 t x1) fun v_2 t_1 => (if v_2 = 0 then b_X_X0_reaches__4_8 t_1 x1 y2 else b_X_X0_reaches__4_22 t_1)
def f_X_X0_reaches__4 (t : fw_S) (x1 : Int32) (y2 : Int64) : Option (Int32 × fw_S) := b_X_X0_reaches__4_0 t x1 y2
set_option maxRecDepth 20000 in
theorem w_X_X0_reaches__4_23 {p : Program} {l : Launch} {e : Env} {s : State} {m : MethodId} {args : Array Value} {below : List Frame} {meth : Method} {c : Code} {A : Nat → Prop} {Q : State → Prop} {D : va_G} {ca : Nat → ClassId} {a : Nat → Nat} {u : fw_S} {r : Int32}  (C : CX (WX ca a) D (tyv ca) p s m args c A prog_2_method_21_code 4 RX0) (hr : (r = 0 ∨ r = 1) → RX (WX ca a) D p l e rm_X_X0_reaches__4 s m args below meth c A prog_2_method_21_code Q .ireturn [.int r] u) {t : fw_S} {z0 : Int32} {H : Heap} {locs : List Loc} {ls : Array Slot} (hf : b_X_X0_reaches__4_23  t z0 = some (r, u)) (hP : va_P D classes (WX ca a t) H) (hS : va_S A s.heap H locs) (hl : lv_has ls 4 []) : W p l e rm_X_X0_reaches__4 s m args below meth c H locs 0 0 Q (F0 m 23 ls [.int z0]) := by
  obtain ⟨hx, hb, hml, hown, hts, hN, hK, hD, hA⟩ := id C
  have hf : (fb_g (z0 = 0 ∨ z0 = 1) (some (z0, t))) = some (r, u) := hf
  obtain ⟨h_23, hf⟩ := fb_if hf
  obtain ⟨e_23, e2_23⟩ := fb_e hf
  subst e_23; subst e2_23
  exact hr h_23 _ _ _ _ hP hS dX0_reaches_23
set_option maxRecDepth 20000 in
theorem w_X_X0_reaches__4_22 {p : Program} {l : Launch} {e : Env} {s : State} {m : MethodId} {args : Array Value} {below : List Frame} {meth : Method} {c : Code} {A : Nat → Prop} {Q : State → Prop} {D : va_G} {ca : Nat → ClassId} {a : Nat → Nat} {u : fw_S} {r : Int32}  (C : CX (WX ca a) D (tyv ca) p s m args c A prog_2_method_21_code 4 RX0) (hr : (r = 0 ∨ r = 1) → RX (WX ca a) D p l e rm_X_X0_reaches__4 s m args below meth c A prog_2_method_21_code Q .ireturn [.int r] u) {t : fw_S}  {H : Heap} {locs : List Loc} {ls : Array Slot} (hf : b_X_X0_reaches__4_22  t  = some (r, u)) (hP : va_P D classes (WX ca a t) H) (hS : va_S A s.heap H locs) (hl : lv_has ls 4 []) : W p l e rm_X_X0_reaches__4 s m args below meth c H locs 0 0 Q (F0 m 22 ls []) := by
  obtain ⟨hx, hb, hml, hown, hts, hN, hK, hD, hA⟩ := id C
  have hf : (b_X_X0_reaches__4_23 t ((0 : Int32))) = some (r, u) := hf
  refine lv_iconst (v := 0) hx hb dX0_reaches_22 (by decide) ?_
  exact w_X_X0_reaches__4_23 C hr hf hP hS (lv_sub hl [] rfl)
set_option maxRecDepth 20000 in
theorem w_X_X0_reaches__4_18 {p : Program} {l : Launch} {e : Env} {s : State} {m : MethodId} {args : Array Value} {below : List Frame} {meth : Method} {c : Code} {A : Nat → Prop} {Q : State → Prop} {D : va_G} {ca : Nat → ClassId} {a : Nat → Nat} {u : fw_S} {r : Int32}  (C : CX (WX ca a) D (tyv ca) p s m args c A prog_2_method_21_code 4 RX0) (hr : (r = 0 ∨ r = 1) → RX (WX ca a) D p l e rm_X_X0_reaches__4 s m args below meth c A prog_2_method_21_code Q .ireturn [.int r] u) {t : fw_S}  {H : Heap} {locs : List Loc} {ls : Array Slot} (hf : b_X_X0_reaches__4_18  t  = some (r, u)) (hP : va_P D classes (WX ca a t) H) (hS : va_S A s.heap H locs) (hl : lv_has ls 4 []) : W p l e rm_X_X0_reaches__4 s m args below meth c H locs 0 0 Q (F0 m 18 ls []) := by
  obtain ⟨hx, hb, hml, hown, hts, hN, hK, hD, hA⟩ := id C
  have hf : (b_X_X0_reaches__4_23 t ((1 : Int32))) = some (r, u) := hf
  refine lv_iconst (v := 1) hx hb dX0_reaches_18 (by decide) ?_
  refine lv_goto (tgt := 23) hx hb dX0_reaches_19 (by decide) ?_
  exact w_X_X0_reaches__4_23 C hr hf hP hS (lv_sub hl [] rfl)
set_option maxRecDepth 20000 in
theorem w_X_X0_reaches__4_8 {p : Program} {l : Launch} {e : Env} {s : State} {m : MethodId} {args : Array Value} {below : List Frame} {meth : Method} {c : Code} {A : Nat → Prop} {Q : State → Prop} {D : va_G} {ca : Nat → ClassId} {a : Nat → Nat} {u : fw_S} {r : Int32}  (C : CX (WX ca a) D (tyv ca) p s m args c A prog_2_method_21_code 4 RX0) (hr : (r = 0 ∨ r = 1) → RX (WX ca a) D p l e rm_X_X0_reaches__4 s m args below meth c A prog_2_method_21_code Q .ireturn [.int r] u) {t : fw_S} {x1 : Int32} {y2 : Int64} {H : Heap} {locs : List Loc} {ls : Array Slot} (hf : b_X_X0_reaches__4_8  t x1 y2 = some (r, u)) (hP : va_P D classes (WX ca a t) H) (hS : va_S A s.heap H locs) (hl : lv_has ls 4 [(0, .ref (a 4)), (1, .int x1), (2, .long y2)]) : W p l e rm_X_X0_reaches__4 s m args below meth c H locs 0 0 Q (F0 m 8 ls []) := by
  obtain ⟨hx, hb, hml, hown, hts, hN, hK, hD, hA⟩ := id C
  have hf : (fb_b (f_X_X0_numberOf__4 t x1) fun v_2 t_1 => (if (lg_cmp v_2 y2) < 0 then b_X_X0_reaches__4_22 t_1 else b_X_X0_reaches__4_18 t_1)) = some (r, u) := hf
  refine lv_aload_n hx hb dX0_reaches_8 rfl (lv_at hl 0 rfl) ?_
  refine lv_iload_n hx hb dX0_reaches_9 rfl (lv_at hl 1 rfl) ?_
  obtain ⟨v_2, t_1, g_10, hf⟩ := fb_bs hf
  refine fw_V1 (As := [.int x1]) (rest := []) (n := 1) (q0 := 4) C (c_X_X0_numberOf__4 (l := l) (D := D) (ca := ca) (a := a) g_10) kw_651 kw_530 kw_96 kw_532 kw_531 hP hS hl (heX_4 ca a t) rfl rfl rfl (by decide) (by decide +kernel) ⟨Nat.le_of_ble_eq_true rfl, Nat.le_of_ble_eq_true rfl⟩ rfl rfl (Nat.le_of_ble_eq_true rfl) dX0_reaches_10 (fun H locs hP hS => ?_)
  refine W.eq (g2 := F0 m 13 ls [.long v_2]) rfl ?_
  refine lv_lload_n hx hb dX0_reaches_13 rfl (lv_at hl 2 rfl) ?_
  refine W.lcmp hx hb dX0_reaches_14 ?_
  refine lv_if_lt (tgt := 22) hx hb dX0_reaches_15 (by decide) (fun h_15 => ?_) (fun h_15 => ?_)
  · have hf := fb_t h_15 hf
    exact w_X_X0_reaches__4_22 C hr hf hP hS (lv_sub hl [] rfl)
  · have hf := fb_f h_15 hf
    exact w_X_X0_reaches__4_18 C hr hf hP hS (lv_sub hl [] rfl)
set_option maxRecDepth 20000 in
theorem w_X_X0_reaches__4_0 {p : Program} {l : Launch} {e : Env} {s : State} {m : MethodId} {args : Array Value} {below : List Frame} {meth : Method} {c : Code} {A : Nat → Prop} {Q : State → Prop} {D : va_G} {ca : Nat → ClassId} {a : Nat → Nat} {u : fw_S} {r : Int32}  (C : CX (WX ca a) D (tyv ca) p s m args c A prog_2_method_21_code 4 RX0) (hr : (r = 0 ∨ r = 1) → RX (WX ca a) D p l e rm_X_X0_reaches__4 s m args below meth c A prog_2_method_21_code Q .ireturn [.int r] u) {t : fw_S} {x1 : Int32} {y2 : Int64} {H : Heap} {locs : List Loc} {ls : Array Slot} (hf : b_X_X0_reaches__4_0  t x1 y2 = some (r, u)) (hP : va_P D classes (WX ca a t) H) (hS : va_S A s.heap H locs) (hl : lv_has ls 4 [(0, .ref (a 4)), (1, .int x1), (2, .long y2)]) : W p l e rm_X_X0_reaches__4 s m args below meth c H locs 0 0 Q (F0 m 0 ls []) := by
  obtain ⟨hx, hb, hml, hown, hts, hN, hK, hD, hA⟩ := id C
  have hf : (fb_b (f_X_X0_errorOf__4 t x1) fun v_2 t_1 => (if v_2 = 0 then b_X_X0_reaches__4_8 t_1 x1 y2 else b_X_X0_reaches__4_22 t_1)) = some (r, u) := hf
  refine lv_aload_n hx hb dX0_reaches_0 rfl (lv_at hl 0 rfl) ?_
  refine lv_iload_n hx hb dX0_reaches_1 rfl (lv_at hl 1 rfl) ?_
  obtain ⟨v_2, t_1, g_2, hf⟩ := fb_bs hf
  refine fw_V1 (As := [.int x1]) (rest := []) (n := 1) (q0 := 4) C (c_X_X0_errorOf__4 (l := l) (D := D) (ca := ca) (a := a) g_2) kw_650 kw_534 kw_96 kw_536 kw_535 hP hS hl (heX_4 ca a t) rfl rfl rfl (by decide) (by decide +kernel) ⟨Nat.le_of_ble_eq_true rfl, Nat.le_of_ble_eq_true rfl⟩ rfl rfl (Nat.le_of_ble_eq_true rfl) dX0_reaches_2 (fun H locs hP hS => ?_)
  refine W.eq (g2 := F0 m 5 ls [.int v_2]) rfl ?_
  refine lv_if_ne (tgt := 22) hx hb dX0_reaches_5 (by decide) (fun h_5 => ?_) (fun h_5 => ?_)
  · have hf := fb_f h_5 hf
    exact w_X_X0_reaches__4_22 C hr hf hP hS (lv_sub hl [] rfl)
  · have hf := fb_t h_5 hf
    exact w_X_X0_reaches__4_8 C hr hf hP hS (lv_sub hl [0, 1, 2] rfl)
set_option maxRecDepth 20000 in
theorem c_X_X0_reaches__4 {l : Launch} {D : va_G} {ca : Nat → ClassId} {a : Nat → Nat} {t : fw_S} {x1 : Int32} {y2 : Int64} {u : fw_S} {r : Int32} (hf : f_X_X0_reaches__4 t x1 y2 = some (r, u)) : MC (WX ca a) D (tyv ca) l yX0_reaches (.code yX0_reaches prog_2_method_21_code 4 (some .boolean) :: lw_gd) rm_X_X0_reaches__4 [.ref (a 4), .int x1, .long y2] (some (.int r)) t u := by
  refine fw_met (okX ca a) (by decide +kernel) rfl rfl (Nat.le_of_ble_eq_true rfl) ?_
  intro p e s m args below meth c A Q ls C hr hk hP hS hl hQ
  exact w_X_X0_reaches__4_0 C (fun hz => fw_rz C hr hk hz hQ) hf hP hS (lv_sub hl [0, 1, 2] rfl)
