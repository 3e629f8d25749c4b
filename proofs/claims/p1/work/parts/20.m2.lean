theorem dX11_batched_0 : decode prog_13_method_51_code 0 = .ok (.iconst 0, 1) := by decide +kernel
theorem dX11_batched_1 : decode prog_13_method_51_code 1 = .ok (.istore_n 1, 1) := by decide +kernel
theorem dX11_batched_2 : decode prog_13_method_51_code 2 = .ok (.iconst 0, 1) := by decide +kernel
theorem dX11_batched_3 : decode prog_13_method_51_code 3 = .ok (.istore_n 2, 1) := by decide +kernel
theorem dX11_batched_4 : decode prog_13_method_51_code 4 = .ok (.iload_n 2, 1) := by decide +kernel
theorem dX11_batched_5 : decode prog_13_method_51_code 5 = .ok (.bipush 32, 2) := by decide +kernel
theorem dX11_batched_7 : decode prog_13_method_51_code 7 = .ok (.if_icmp .ge 33, 3) := by decide +kernel
theorem dX11_batched_10 : decode prog_13_method_51_code 10 = .ok (.aload_n 0, 1) := by decide +kernel
theorem dX11_batched_11 : decode prog_13_method_51_code 11 = .ok (.getfield 342, 3) := by decide +kernel
theorem dX11_batched_14 : decode prog_13_method_51_code 14 = .ok (.ifCond .eq 26, 3) := by decide +kernel
theorem dX11_batched_17 : decode prog_13_method_51_code 17 = .ok (.iload_n 1, 1) := by decide +kernel
theorem dX11_batched_18 : decode prog_13_method_51_code 18 = .ok (.aload_n 0, 1) := by decide +kernel
theorem dX11_batched_19 : decode prog_13_method_51_code 19 = .ok (.getfield 59, 3) := by decide +kernel
theorem dX11_batched_22 : decode prog_13_method_51_code 22 = .ok (.iload_n 2, 1) := by decide +kernel
theorem dX11_batched_23 : decode prog_13_method_51_code 23 = .ok (.baload, 1) := by decide +kernel
theorem dX11_batched_24 : decode prog_13_method_51_code 24 = .ok (.ifCond .eq 7, 3) := by decide +kernel
theorem dX11_batched_27 : decode prog_13_method_51_code 27 = .ok (.iconst 1, 1) := by decide +kernel
theorem dX11_batched_28 : decode prog_13_method_51_code 28 = .ok (.goto 4, 3) := by decide +kernel
theorem dX11_batched_31 : decode prog_13_method_51_code 31 = .ok (.iconst 0, 1) := by decide +kernel
theorem dX11_batched_32 : decode prog_13_method_51_code 32 = .ok (.iadd, 1) := by decide +kernel
theorem dX11_batched_33 : decode prog_13_method_51_code 33 = .ok (.istore_n 1, 1) := by decide +kernel
theorem dX11_batched_34 : decode prog_13_method_51_code 34 = .ok (.iinc 2 1, 3) := by decide +kernel
theorem dX11_batched_37 : decode prog_13_method_51_code 37 = .ok (.goto (-33), 3) := by decide +kernel
theorem dX11_batched_40 : decode prog_13_method_51_code 40 = .ok (.iload_n 1, 1) := by decide +kernel
theorem dX11_batched_41 : decode prog_13_method_51_code 41 = .ok (.ireturn, 1) := by decide +kernel
theorem dX11_begin_0 : decode prog_13_method_49_code 0 = .ok (.aload_n 0, 1) := by decide +kernel
theorem dX11_begin_1 : decode prog_13_method_49_code 1 = .ok (.getfield 342, 3) := by decide +kernel
theorem dX11_begin_4 : decode prog_13_method_49_code 4 = .ok (.ifCond .eq 6, 3) := by decide +kernel
theorem dX11_begin_7 : decode prog_13_method_49_code 7 = .ok (.bipush (-3), 2) := by decide +kernel
theorem dX11_begin_9 : decode prog_13_method_49_code 9 = .ok (.ireturn, 1) := by decide +kernel
theorem dX11_begin_10 : decode prog_13_method_49_code 10 = .ok (.aload_n 0, 1) := by decide +kernel
theorem dX11_begin_11 : decode prog_13_method_49_code 11 = .ok (.iconst 1, 1) := by decide +kernel
theorem dX11_begin_12 : decode prog_13_method_49_code 12 = .ok (.putfield 342, 3) := by decide +kernel
theorem dX11_begin_15 : decode prog_13_method_49_code 15 = .ok (.iconst 0, 1) := by decide +kernel
theorem dX11_begin_16 : decode prog_13_method_49_code 16 = .ok (.istore_n 1, 1) := by decide +kernel
theorem dX11_begin_17 : decode prog_13_method_49_code 17 = .ok (.iload_n 1, 1) := by decide +kernel
theorem dX11_begin_18 : decode prog_13_method_49_code 18 = .ok (.bipush 32, 2) := by decide +kernel
theorem dX11_begin_20 : decode prog_13_method_49_code 20 = .ok (.if_icmp .ge 16, 3) := by decide +kernel
theorem dX11_begin_23 : decode prog_13_method_49_code 23 = .ok (.aload_n 0, 1) := by decide +kernel
theorem dX11_begin_24 : decode prog_13_method_49_code 24 = .ok (.getfield 59, 3) := by decide +kernel
theorem dX11_begin_27 : decode prog_13_method_49_code 27 = .ok (.iload_n 1, 1) := by decide +kernel
theorem dX11_begin_28 : decode prog_13_method_49_code 28 = .ok (.iconst 0, 1) := by decide +kernel
theorem dX11_begin_29 : decode prog_13_method_49_code 29 = .ok (.bastore, 1) := by decide +kernel
theorem dX11_begin_30 : decode prog_13_method_49_code 30 = .ok (.iinc 1 1, 3) := by decide +kernel
theorem dX11_begin_33 : decode prog_13_method_49_code 33 = .ok (.goto (-16), 3) := by decide +kernel
theorem dX11_begin_36 : decode prog_13_method_49_code 36 = .ok (.iconst 1, 1) := by decide +kernel
theorem dX11_begin_37 : decode prog_13_method_49_code 37 = .ok (.ireturn, 1) := by decide +kernel
theorem dX11_below_0 : decode prog_13_method_58_code 0 = .ok (.aload_n 0, 1) := by decide +kernel
theorem dX11_below_1 : decode prog_13_method_58_code 1 = .ok (.iload_n 1, 1) := by decide +kernel
theorem dX11_below_2 : decode prog_13_method_58_code 2 = .ok (.invokevirtual 381, 3) := by decide +kernel
theorem dX11_below_5 : decode prog_13_method_58_code 5 = .ok (.lstore_n 2, 1) := by decide +kernel
theorem dX11_below_6 : decode prog_13_method_58_code 6 = .ok (.iconst 0, 1) := by decide +kernel
theorem dX11_below_7 : decode prog_13_method_58_code 7 = .ok (.istore 4, 2) := by decide +kernel
theorem dX11_below_9 : decode prog_13_method_58_code 9 = .ok (.iload 4, 2) := by decide +kernel
theorem dX11_below_11 : decode prog_13_method_58_code 11 = .ok (.bipush 32, 2) := by decide +kernel
theorem dX11_below_13 : decode prog_13_method_58_code 13 = .ok (.if_icmp .ge 45, 3) := by decide +kernel
theorem dX11_below_16 : decode prog_13_method_58_code 16 = .ok (.iconst 0, 1) := by decide +kernel
theorem dX11_below_17 : decode prog_13_method_58_code 17 = .ok (.istore 5, 2) := by decide +kernel
theorem dX11_below_19 : decode prog_13_method_58_code 19 = .ok (.iload 5, 2) := by decide +kernel
theorem dX11_below_21 : decode prog_13_method_58_code 21 = .ok (.bipush 32, 2) := by decide +kernel
theorem dX11_below_23 : decode prog_13_method_58_code 23 = .ok (.if_icmp .ge 29, 3) := by decide +kernel
theorem dX11_below_26 : decode prog_13_method_58_code 26 = .ok (.lload_n 2, 1) := by decide +kernel
theorem dX11_below_27 : decode prog_13_method_58_code 27 = .ok (.iload 5, 2) := by decide +kernel
theorem dX11_below_29 : decode prog_13_method_58_code 29 = .ok (.lshr, 1) := by decide +kernel
theorem dX11_below_30 : decode prog_13_method_58_code 30 = .ok (.lconst 1, 1) := by decide +kernel
theorem dX11_below_31 : decode prog_13_method_58_code 31 = .ok (.land, 1) := by decide +kernel
theorem dX11_below_32 : decode prog_13_method_58_code 32 = .ok (.lconst 1, 1) := by decide +kernel
theorem dX11_below_33 : decode prog_13_method_58_code 33 = .ok (.lcmp, 1) := by decide +kernel
theorem dX11_below_34 : decode prog_13_method_58_code 34 = .ok (.ifCond .ne 12, 3) := by decide +kernel
theorem dX11_below_37 : decode prog_13_method_58_code 37 = .ok (.lload_n 2, 1) := by decide +kernel
theorem dX11_below_38 : decode prog_13_method_58_code 38 = .ok (.aload_n 0, 1) := by decide +kernel
theorem dX11_below_39 : decode prog_13_method_58_code 39 = .ok (.iload 5, 2) := by decide +kernel
theorem dX11_below_41 : decode prog_13_method_58_code 41 = .ok (.invokevirtual 381, 3) := by decide +kernel
theorem dX11_below_44 : decode prog_13_method_58_code 44 = .ok (.lor, 1) := by decide +kernel
theorem dX11_below_45 : decode prog_13_method_58_code 45 = .ok (.lstore_n 2, 1) := by decide +kernel
theorem dX11_below_46 : decode prog_13_method_58_code 46 = .ok (.iinc 5 1, 3) := by decide +kernel
theorem dX11_below_49 : decode prog_13_method_58_code 49 = .ok (.goto (-30), 3) := by decide +kernel
theorem dX11_below_52 : decode prog_13_method_58_code 52 = .ok (.iinc 4 1, 3) := by decide +kernel
theorem dX11_below_55 : decode prog_13_method_58_code 55 = .ok (.goto (-46), 3) := by decide +kernel
theorem dX11_below_58 : decode prog_13_method_58_code 58 = .ok (.lload_n 2, 1) := by decide +kernel
theorem dX11_below_59 : decode prog_13_method_58_code 59 = .ok (.invokestatic 384, 3) := by decide +kernel
theorem dX11_below_62 : decode prog_13_method_58_code 62 = .ok (.ireturn, 1) := by decide +kernel
theorem dX11_cancel_0 : decode prog_13_method_52_code 0 = .ok (.aload_n 0, 1) := by decide +kernel
theorem dX11_cancel_1 : decode prog_13_method_52_code 1 = .ok (.getfield 342, 3) := by decide +kernel
theorem dX11_cancel_4 : decode prog_13_method_52_code 4 = .ok (.ifCond .ne 6, 3) := by decide +kernel
theorem dX11_cancel_7 : decode prog_13_method_52_code 7 = .ok (.bipush (-3), 2) := by decide +kernel
theorem dX11_cancel_9 : decode prog_13_method_52_code 9 = .ok (.ireturn, 1) := by decide +kernel
theorem dX11_cancel_10 : decode prog_13_method_52_code 10 = .ok (.aload_n 0, 1) := by decide +kernel
theorem dX11_cancel_11 : decode prog_13_method_52_code 11 = .ok (.invokevirtual 373, 3) := by decide +kernel
theorem dX11_cancel_14 : decode prog_13_method_52_code 14 = .ok (.istore_n 1, 1) := by decide +kernel
theorem dX11_cancel_15 : decode prog_13_method_52_code 15 = .ok (.aload_n 0, 1) := by decide +kernel
theorem dX11_cancel_16 : decode prog_13_method_52_code 16 = .ok (.iconst 0, 1) := by decide +kernel
theorem dX11_cancel_17 : decode prog_13_method_52_code 17 = .ok (.putfield 342, 3) := by decide +kernel
theorem dX11_cancel_20 : decode prog_13_method_52_code 20 = .ok (.iload_n 1, 1) := by decide +kernel
theorem dX11_cancel_21 : decode prog_13_method_52_code 21 = .ok (.ireturn, 1) := by decide +kernel
theorem dX11_clear_0 : decode prog_13_method_5_code 0 = .ok (.aload_n 0, 1) := by decide +kernel
theorem dX11_clear_1 : decode prog_13_method_5_code 1 = .ok (.getfield 177, 3) := by decide +kernel
theorem dX11_clear_4 : decode prog_13_method_5_code 4 = .ok (.istore_n 1, 1) := by decide +kernel
theorem dX11_clear_5 : decode prog_13_method_5_code 5 = .ok (.aload_n 0, 1) := by decide +kernel
theorem dX11_clear_6 : decode prog_13_method_5_code 6 = .ok (.iconst 0, 1) := by decide +kernel
theorem dX11_clear_7 : decode prog_13_method_5_code 7 = .ok (.putfield 177, 3) := by decide +kernel
theorem dX11_clear_10 : decode prog_13_method_5_code 10 = .ok (.iload_n 1, 1) := by decide +kernel
theorem dX11_clear_11 : decode prog_13_method_5_code 11 = .ok (.ireturn, 1) := by decide +kernel
theorem dX11_copy_0 : decode prog_13_method_46_code 0 = .ok (.iload_n 1, 1) := by decide +kernel
theorem dX11_copy_1 : decode prog_13_method_46_code 1 = .ok (.invokestatic 361, 3) := by decide +kernel
theorem dX11_copy_4 : decode prog_13_method_46_code 4 = .ok (.ifCond .eq 10, 3) := by decide +kernel
theorem dX11_copy_7 : decode prog_13_method_46_code 7 = .ok (.iload_n 2, 1) := by decide +kernel
theorem dX11_copy_8 : decode prog_13_method_46_code 8 = .ok (.invokestatic 361, 3) := by decide +kernel
theorem dX11_copy_11 : decode prog_13_method_46_code 11 = .ok (.ifCond .ne 5, 3) := by decide +kernel
theorem dX11_copy_14 : decode prog_13_method_46_code 14 = .ok (.iconst (-1), 1) := by decide +kernel
theorem dX11_copy_15 : decode prog_13_method_46_code 15 = .ok (.ireturn, 1) := by decide +kernel
theorem dX11_copy_16 : decode prog_13_method_46_code 16 = .ok (.aload_n 0, 1) := by decide +kernel
theorem dX11_copy_17 : decode prog_13_method_46_code 17 = .ok (.getfield 11, 3) := by decide +kernel
theorem dX11_copy_20 : decode prog_13_method_46_code 20 = .ok (.iload_n 1, 1) := by decide +kernel
theorem dX11_copy_21 : decode prog_13_method_46_code 21 = .ok (.iaload, 1) := by decide +kernel
theorem dX11_copy_22 : decode prog_13_method_46_code 22 = .ok (.iconst 2, 1) := by decide +kernel
theorem dX11_copy_23 : decode prog_13_method_46_code 23 = .ok (.if_icmp .eq 6, 3) := by decide +kernel
theorem dX11_copy_26 : decode prog_13_method_46_code 26 = .ok (.bipush (-3), 2) := by decide +kernel
theorem dX11_copy_28 : decode prog_13_method_46_code 28 = .ok (.ireturn, 1) := by decide +kernel
theorem dX11_copy_29 : decode prog_13_method_46_code 29 = .ok (.aload_n 0, 1) := by decide +kernel
theorem dX11_copy_30 : decode prog_13_method_46_code 30 = .ok (.iload_n 1, 1) := by decide +kernel
theorem dX11_copy_31 : decode prog_13_method_46_code 31 = .ok (.invokestatic 283, 3) := by decide +kernel
theorem dX11_copy_34 : decode prog_13_method_46_code 34 = .ok (.iload_n 2, 1) := by decide +kernel
theorem dX11_copy_35 : decode prog_13_method_46_code 35 = .ok (.invokestatic 293, 3) := by decide +kernel
theorem dX11_copy_38 : decode prog_13_method_46_code 38 = .ok (.invokevirtual 358, 3) := by decide +kernel
theorem dX11_copy_41 : decode prog_13_method_46_code 41 = .ok (.iload_n 2, 1) := by decide +kernel
theorem dX11_copy_42 : decode prog_13_method_46_code 42 = .ok (.invokestatic 293, 3) := by decide +kernel
theorem dX11_copy_45 : decode prog_13_method_46_code 45 = .ok (.istore_n 3, 1) := by decide +kernel
theorem dX11_copy_46 : decode prog_13_method_46_code 46 = .ok (.aload_n 0, 1) := by decide +kernel
theorem dX11_copy_47 : decode prog_13_method_46_code 47 = .ok (.iload_n 3, 1) := by decide +kernel
theorem dX11_copy_48 : decode prog_13_method_46_code 48 = .ok (.aload_n 0, 1) := by decide +kernel
theorem dX11_copy_49 : decode prog_13_method_46_code 49 = .ok (.getfield 27, 3) := by decide +kernel
theorem dX11_copy_52 : decode prog_13_method_46_code 52 = .ok (.iload_n 1, 1) := by decide +kernel
theorem dX11_copy_53 : decode prog_13_method_46_code 53 = .ok (.iaload, 1) := by decide +kernel
theorem dX11_copy_54 : decode prog_13_method_46_code 54 = .ok (.iload_n 2, 1) := by decide +kernel
theorem dX11_copy_55 : decode prog_13_method_46_code 55 = .ok (.iload_n 1, 1) := by decide +kernel
theorem dX11_copy_56 : decode prog_13_method_46_code 56 = .ok (.isub, 1) := by decide +kernel
theorem dX11_copy_57 : decode prog_13_method_46_code 57 = .ok (.invokevirtual 370, 3) := by decide +kernel
theorem dX11_define_0 : decode prog_13_method_44_code 0 = .ok (.iload_n 1, 1) := by decide +kernel
theorem dX11_define_1 : decode prog_13_method_44_code 1 = .ok (.invokestatic 361, 3) := by decide +kernel
theorem dX11_define_4 : decode prog_13_method_44_code 4 = .ok (.ifCond .ne 5, 3) := by decide +kernel
theorem dX11_define_7 : decode prog_13_method_44_code 7 = .ok (.iconst (-1), 1) := by decide +kernel
theorem dX11_define_8 : decode prog_13_method_44_code 8 = .ok (.ireturn, 1) := by decide +kernel
theorem dX11_define_9 : decode prog_13_method_44_code 9 = .ok (.aload_n 0, 1) := by decide +kernel
theorem dX11_define_10 : decode prog_13_method_44_code 10 = .ok (.iload_n 1, 1) := by decide +kernel
theorem dX11_define_11 : decode prog_13_method_44_code 11 = .ok (.invokestatic 293, 3) := by decide +kernel
theorem dX11_define_14 : decode prog_13_method_44_code 14 = .ok (.invokevirtual 368, 3) := by decide +kernel
theorem dX11_define_17 : decode prog_13_method_44_code 17 = .ok (.istore_n 2, 1) := by decide +kernel
theorem dX11_define_18 : decode prog_13_method_44_code 18 = .ok (.aload_n 0, 1) := by decide +kernel
theorem dX11_define_19 : decode prog_13_method_44_code 19 = .ok (.iconst 0, 1) := by decide +kernel
theorem dX11_define_20 : decode prog_13_method_44_code 20 = .ok (.putfield 177, 3) := by decide +kernel
theorem dX11_define_23 : decode prog_13_method_44_code 23 = .ok (.aload_n 0, 1) := by decide +kernel
theorem dX11_define_24 : decode prog_13_method_44_code 24 = .ok (.getfield 181, 3) := by decide +kernel
theorem dX11_define_27 : decode prog_13_method_44_code 27 = .ok (.ifCond .lt 13, 3) := by decide +kernel
theorem dX11_define_30 : decode prog_13_method_44_code 30 = .ok (.bipush (-100), 2) := by decide +kernel
theorem dX11_define_32 : decode prog_13_method_44_code 32 = .ok (.aload_n 0, 1) := by decide +kernel
theorem dX11_define_33 : decode prog_13_method_44_code 33 = .ok (.getfield 181, 3) := by decide +kernel
theorem dX11_define_36 : decode prog_13_method_44_code 36 = .ok (.isub, 1) := by decide +kernel
theorem dX11_define_37 : decode prog_13_method_44_code 37 = .ok (.goto 11, 3) := by decide +kernel
theorem dX11_define_40 : decode prog_13_method_44_code 40 = .ok (.aload_n 0, 1) := by decide +kernel
theorem dX11_define_41 : decode prog_13_method_44_code 41 = .ok (.iload_n 1, 1) := by decide +kernel
theorem dX11_define_42 : decode prog_13_method_44_code 42 = .ok (.iconst 2, 1) := by decide +kernel
theorem dX11_define_43 : decode prog_13_method_44_code 43 = .ok (.lconst 0, 1) := by decide +kernel
theorem dX11_define_44 : decode prog_13_method_44_code 44 = .ok (.iload_n 2, 1) := by decide +kernel
theorem dX11_define_45 : decode prog_13_method_44_code 45 = .ok (.invokevirtual 364, 3) := by decide +kernel
theorem dX11_define_48 : decode prog_13_method_44_code 48 = .ok (.ireturn, 1) := by decide +kernel
theorem dX11_drop_0 : decode prog_13_method_45_code 0 = .ok (.iload_n 1, 1) := by decide +kernel
theorem dX11_drop_1 : decode prog_13_method_45_code 1 = .ok (.invokestatic 361, 3) := by decide +kernel
theorem dX11_drop_4 : decode prog_13_method_45_code 4 = .ok (.ifCond .ne 7, 3) := by decide +kernel
theorem dX11_drop_7 : decode prog_13_method_45_code 7 = .ok (.iconst (-1), 1) := by decide +kernel
theorem dX11_drop_8 : decode prog_13_method_45_code 8 = .ok (.goto 11, 3) := by decide +kernel
theorem dX11_drop_11 : decode prog_13_method_45_code 11 = .ok (.aload_n 0, 1) := by decide +kernel
theorem dX11_drop_12 : decode prog_13_method_45_code 12 = .ok (.iload_n 1, 1) := by decide +kernel
theorem dX11_drop_13 : decode prog_13_method_45_code 13 = .ok (.iconst 0, 1) := by decide +kernel
theorem dX11_drop_14 : decode prog_13_method_45_code 14 = .ok (.lconst 0, 1) := by decide +kernel
theorem dX11_drop_15 : decode prog_13_method_45_code 15 = .ok (.iconst 0, 1) := by decide +kernel
theorem dX11_drop_16 : decode prog_13_method_45_code 16 = .ok (.invokevirtual 364, 3) := by decide +kernel
theorem dX11_drop_19 : decode prog_13_method_45_code 19 = .ok (.ireturn, 1) := by decide +kernel
theorem dX11_end_0 : decode prog_13_method_50_code 0 = .ok (.aload_n 0, 1) := by decide +kernel
theorem dX11_end_1 : decode prog_13_method_50_code 1 = .ok (.getfield 342, 3) := by decide +kernel
theorem dX11_end_4 : decode prog_13_method_50_code 4 = .ok (.ifCond .ne 6, 3) := by decide +kernel
theorem dX11_end_7 : decode prog_13_method_50_code 7 = .ok (.bipush (-3), 2) := by decide +kernel
theorem dX11_end_9 : decode prog_13_method_50_code 9 = .ok (.ireturn, 1) := by decide +kernel
theorem dX11_end_10 : decode prog_13_method_50_code 10 = .ok (.aload_n 0, 1) := by decide +kernel
theorem dX11_end_11 : decode prog_13_method_50_code 11 = .ok (.iconst 0, 1) := by decide +kernel
theorem dX11_end_12 : decode prog_13_method_50_code 12 = .ok (.putfield 342, 3) := by decide +kernel
theorem dX11_end_15 : decode prog_13_method_50_code 15 = .ok (.aload_n 0, 1) := by decide +kernel
theorem dX11_end_16 : decode prog_13_method_50_code 16 = .ok (.invokevirtual 345, 3) := by decide +kernel
theorem dX11_end_19 : decode prog_13_method_50_code 19 = .ok (.iconst 0, 1) := by decide +kernel
theorem dX11_end_20 : decode prog_13_method_50_code 20 = .ok (.istore_n 1, 1) := by decide +kernel
theorem dX11_end_21 : decode prog_13_method_50_code 21 = .ok (.iload_n 1, 1) := by decide +kernel
theorem dX11_end_22 : decode prog_13_method_50_code 22 = .ok (.bipush 32, 2) := by decide +kernel
theorem dX11_end_24 : decode prog_13_method_50_code 24 = .ok (.if_icmp .ge 66, 3) := by decide +kernel
theorem dX11_end_27 : decode prog_13_method_50_code 27 = .ok (.aload_n 0, 1) := by decide +kernel
theorem dX11_end_28 : decode prog_13_method_50_code 28 = .ok (.getfield 59, 3) := by decide +kernel
theorem dX11_end_31 : decode prog_13_method_50_code 31 = .ok (.iload_n 1, 1) := by decide +kernel
theorem dX11_end_32 : decode prog_13_method_50_code 32 = .ok (.baload, 1) := by decide +kernel
theorem dX11_end_33 : decode prog_13_method_50_code 33 = .ok (.ifCond .ne 6, 3) := by decide +kernel
theorem dX11_end_36 : decode prog_13_method_50_code 36 = .ok (.goto 48, 3) := by decide +kernel
theorem dX11_end_39 : decode prog_13_method_50_code 39 = .ok (.aload_n 0, 1) := by decide +kernel
theorem dX11_end_40 : decode prog_13_method_50_code 40 = .ok (.iload_n 1, 1) := by decide +kernel
theorem dX11_end_41 : decode prog_13_method_50_code 41 = .ok (.aload_n 0, 1) := by decide +kernel
theorem dX11_end_42 : decode prog_13_method_50_code 42 = .ok (.getfield 68, 3) := by decide +kernel
theorem dX11_end_45 : decode prog_13_method_50_code 45 = .ok (.iload_n 1, 1) := by decide +kernel
theorem dX11_end_46 : decode prog_13_method_50_code 46 = .ok (.iaload, 1) := by decide +kernel
theorem dX11_end_47 : decode prog_13_method_50_code 47 = .ok (.aload_n 0, 1) := by decide +kernel
theorem dX11_end_48 : decode prog_13_method_50_code 48 = .ok (.getfield 77, 3) := by decide +kernel
theorem dX11_end_51 : decode prog_13_method_50_code 51 = .ok (.iload_n 1, 1) := by decide +kernel
theorem dX11_end_52 : decode prog_13_method_50_code 52 = .ok (.laload, 1) := by decide +kernel
theorem dX11_end_53 : decode prog_13_method_50_code 53 = .ok (.aload_n 0, 1) := by decide +kernel
theorem dX11_end_54 : decode prog_13_method_50_code 54 = .ok (.getfield 71, 3) := by decide +kernel
theorem dX11_end_57 : decode prog_13_method_50_code 57 = .ok (.iload_n 1, 1) := by decide +kernel
theorem dX11_end_58 : decode prog_13_method_50_code 58 = .ok (.iaload, 1) := by decide +kernel
theorem dX11_end_59 : decode prog_13_method_50_code 59 = .ok (.invokevirtual 348, 3) := by decide +kernel
theorem dX11_end_62 : decode prog_13_method_50_code 62 = .ok (.aload_n 0, 1) := by decide +kernel
theorem dX11_end_63 : decode prog_13_method_50_code 63 = .ok (.getfield 68, 3) := by decide +kernel
theorem dX11_end_66 : decode prog_13_method_50_code 66 = .ok (.iload_n 1, 1) := by decide +kernel
theorem dX11_end_67 : decode prog_13_method_50_code 67 = .ok (.iaload, 1) := by decide +kernel
theorem dX11_end_68 : decode prog_13_method_50_code 68 = .ok (.iconst 2, 1) := by decide +kernel
theorem dX11_end_69 : decode prog_13_method_50_code 69 = .ok (.if_icmp .ne 15, 3) := by decide +kernel
theorem dX11_end_72 : decode prog_13_method_50_code 72 = .ok (.aload_n 0, 1) := by decide +kernel
theorem dX11_end_73 : decode prog_13_method_50_code 73 = .ok (.iload_n 1, 1) := by decide +kernel
theorem dX11_end_74 : decode prog_13_method_50_code 74 = .ok (.invokestatic 355, 3) := by decide +kernel
theorem dX11_end_77 : decode prog_13_method_50_code 77 = .ok (.iload_n 1, 1) := by decide +kernel
theorem dX11_end_78 : decode prog_13_method_50_code 78 = .ok (.invokestatic 293, 3) := by decide +kernel
theorem dX11_end_81 : decode prog_13_method_50_code 81 = .ok (.invokevirtual 358, 3) := by decide +kernel
theorem dX11_end_84 : decode prog_13_method_50_code 84 = .ok (.iinc 1 1, 3) := by decide +kernel
theorem dX11_end_87 : decode prog_13_method_50_code 87 = .ok (.goto (-66), 3) := by decide +kernel
theorem dX11_end_90 : decode prog_13_method_50_code 90 = .ok (.aload_n 0, 1) := by decide +kernel
theorem dX11_end_91 : decode prog_13_method_50_code 91 = .ok (.invokevirtual 352, 3) := by decide +kernel
theorem dX11_end_94 : decode prog_13_method_50_code 94 = .ok (.ireturn, 1) := by decide +kernel
theorem dX11_feed_0 : decode prog_13_method_4_code 0 = .ok (.iload_n 1, 1) := by decide +kernel
theorem dX11_feed_1 : decode prog_13_method_4_code 1 = .ok (.iconst 1, 1) := by decide +kernel
theorem dX11_feed_2 : decode prog_13_method_4_code 2 = .ok (.bipush 127, 2) := by decide +kernel
theorem dX11_feed_4 : decode prog_13_method_4_code 4 = .ok (.invokestatic 173, 3) := by decide +kernel
theorem dX11_feed_7 : decode prog_13_method_4_code 7 = .ok (.ifCond .ne 6, 3) := by decide +kernel
theorem dX11_feed_10 : decode prog_13_method_4_code 10 = .ok (.bipush (-2), 2) := by decide +kernel
theorem dX11_feed_12 : decode prog_13_method_4_code 12 = .ok (.ireturn, 1) := by decide +kernel
theorem dX11_feed_13 : decode prog_13_method_4_code 13 = .ok (.aload_n 0, 1) := by decide +kernel
theorem dX11_feed_14 : decode prog_13_method_4_code 14 = .ok (.getfield 177, 3) := by decide +kernel
theorem dX11_feed_17 : decode prog_13_method_4_code 17 = .ok (.bipush 120, 2) := by decide +kernel
theorem dX11_feed_19 : decode prog_13_method_4_code 19 = .ok (.if_icmp .ne 6, 3) := by decide +kernel
theorem dX11_feed_22 : decode prog_13_method_4_code 22 = .ok (.bipush (-4), 2) := by decide +kernel
theorem dX11_feed_24 : decode prog_13_method_4_code 24 = .ok (.ireturn, 1) := by decide +kernel
theorem dX11_feed_25 : decode prog_13_method_4_code 25 = .ok (.aload_n 0, 1) := by decide +kernel
theorem dX11_feed_26 : decode prog_13_method_4_code 26 = .ok (.getfield 113, 3) := by decide +kernel
theorem dX11_feed_29 : decode prog_13_method_4_code 29 = .ok (.aload_n 0, 1) := by decide +kernel
theorem dX11_feed_30 : decode prog_13_method_4_code 30 = .ok (.getfield 177, 3) := by decide +kernel
theorem dX11_feed_33 : decode prog_13_method_4_code 33 = .ok (.iload_n 1, 1) := by decide +kernel
theorem dX11_feed_34 : decode prog_13_method_4_code 34 = .ok (.iastore, 1) := by decide +kernel
theorem dX11_feed_35 : decode prog_13_method_4_code 35 = .ok (.aload_n 0, 1) := by decide +kernel
theorem dX11_feed_36 : decode prog_13_method_4_code 36 = .ok (.dup, 1) := by decide +kernel
theorem dX11_feed_37 : decode prog_13_method_4_code 37 = .ok (.getfield 177, 3) := by decide +kernel
theorem dX11_feed_40 : decode prog_13_method_4_code 40 = .ok (.iconst 1, 1) := by decide +kernel
theorem dX11_feed_41 : decode prog_13_method_4_code 41 = .ok (.iadd, 1) := by decide +kernel
theorem dX11_feed_42 : decode prog_13_method_4_code 42 = .ok (.putfield 177, 3) := by decide +kernel
theorem dX11_feed_45 : decode prog_13_method_4_code 45 = .ok (.aload_n 0, 1) := by decide +kernel
theorem dX11_feed_46 : decode prog_13_method_4_code 46 = .ok (.getfield 177, 3) := by decide +kernel
theorem dX11_feed_49 : decode prog_13_method_4_code 49 = .ok (.ireturn, 1) := by decide +kernel
theorem dX11_freeze_0 : decode prog_13_method_48_code 0 = .ok (.iload_n 1, 1) := by decide +kernel
theorem dX11_freeze_1 : decode prog_13_method_48_code 1 = .ok (.invokestatic 361, 3) := by decide +kernel
theorem dX11_freeze_4 : decode prog_13_method_48_code 4 = .ok (.ifCond .ne 5, 3) := by decide +kernel
theorem dX11_freeze_7 : decode prog_13_method_48_code 7 = .ok (.iconst (-1), 1) := by decide +kernel
theorem dX11_freeze_8 : decode prog_13_method_48_code 8 = .ok (.ireturn, 1) := by decide +kernel
theorem dX11_freeze_9 : decode prog_13_method_48_code 9 = .ok (.aload_n 0, 1) := by decide +kernel
theorem dX11_freeze_10 : decode prog_13_method_48_code 10 = .ok (.getfield 11, 3) := by decide +kernel
theorem dX11_freeze_13 : decode prog_13_method_48_code 13 = .ok (.iload_n 1, 1) := by decide +kernel
theorem dX11_freeze_14 : decode prog_13_method_48_code 14 = .ok (.iaload, 1) := by decide +kernel
theorem dX11_freeze_15 : decode prog_13_method_48_code 15 = .ok (.iconst 2, 1) := by decide +kernel
theorem dX11_freeze_16 : decode prog_13_method_48_code 16 = .ok (.if_icmp .ne 12, 3) := by decide +kernel
theorem dX11_freeze_19 : decode prog_13_method_48_code 19 = .ok (.aload_n 0, 1) := by decide +kernel
theorem dX11_freeze_20 : decode prog_13_method_48_code 20 = .ok (.getfield 15, 3) := by decide +kernel
theorem dX11_freeze_23 : decode prog_13_method_48_code 23 = .ok (.iload_n 1, 1) := by decide +kernel
theorem dX11_freeze_24 : decode prog_13_method_48_code 24 = .ok (.iaload, 1) := by decide +kernel
theorem dX11_freeze_25 : decode prog_13_method_48_code 25 = .ok (.ifCond .eq 8, 3) := by decide +kernel
theorem dX11_freeze_28 : decode prog_13_method_48_code 28 = .ok (.bipush (-3), 2) := by decide +kernel
theorem dX11_freeze_30 : decode prog_13_method_48_code 30 = .ok (.goto 16, 3) := by decide +kernel
theorem dX11_freeze_33 : decode prog_13_method_48_code 33 = .ok (.aload_n 0, 1) := by decide +kernel
theorem dX11_freeze_34 : decode prog_13_method_48_code 34 = .ok (.iload_n 1, 1) := by decide +kernel
theorem dX11_freeze_35 : decode prog_13_method_48_code 35 = .ok (.iconst 1, 1) := by decide +kernel
theorem dX11_freeze_36 : decode prog_13_method_48_code 36 = .ok (.aload_n 0, 1) := by decide +kernel
theorem dX11_freeze_37 : decode prog_13_method_48_code 37 = .ok (.getfield 30, 3) := by decide +kernel
theorem dX11_freeze_40 : decode prog_13_method_48_code 40 = .ok (.iload_n 1, 1) := by decide +kernel
theorem dX11_freeze_41 : decode prog_13_method_48_code 41 = .ok (.laload, 1) := by decide +kernel
theorem dX11_freeze_42 : decode prog_13_method_48_code 42 = .ok (.iconst 0, 1) := by decide +kernel
theorem dX11_freeze_43 : decode prog_13_method_48_code 43 = .ok (.invokevirtual 364, 3) := by decide +kernel
theorem dX11_freeze_46 : decode prog_13_method_48_code 46 = .ok (.ireturn, 1) := by decide +kernel
theorem dX11_ones_0 : decode prog_13_method_57_code 0 = .ok (.iconst 0, 1) := by decide +kernel
theorem dX11_ones_1 : decode prog_13_method_57_code 1 = .ok (.istore_n 2, 1) := by decide +kernel
theorem dX11_ones_2 : decode prog_13_method_57_code 2 = .ok (.iconst 0, 1) := by decide +kernel
theorem dX11_ones_3 : decode prog_13_method_57_code 3 = .ok (.istore_n 3, 1) := by decide +kernel
theorem dX11_ones_4 : decode prog_13_method_57_code 4 = .ok (.iload_n 3, 1) := by decide +kernel
theorem dX11_ones_5 : decode prog_13_method_57_code 5 = .ok (.bipush 32, 2) := by decide +kernel
theorem dX11_ones_7 : decode prog_13_method_57_code 7 = .ok (.if_icmp .ge 18, 3) := by decide +kernel
theorem dX11_ones_10 : decode prog_13_method_57_code 10 = .ok (.iload_n 2, 1) := by decide +kernel
theorem dX11_ones_11 : decode prog_13_method_57_code 11 = .ok (.lload_n 0, 1) := by decide +kernel
theorem dX11_ones_12 : decode prog_13_method_57_code 12 = .ok (.iload_n 3, 1) := by decide +kernel
theorem dX11_ones_13 : decode prog_13_method_57_code 13 = .ok (.lshr, 1) := by decide +kernel
theorem dX11_ones_14 : decode prog_13_method_57_code 14 = .ok (.lconst 1, 1) := by decide +kernel
theorem dX11_ones_15 : decode prog_13_method_57_code 15 = .ok (.land, 1) := by decide +kernel
theorem dX11_ones_16 : decode prog_13_method_57_code 16 = .ok (.l2i, 1) := by decide +kernel
theorem dX11_ones_17 : decode prog_13_method_57_code 17 = .ok (.iadd, 1) := by decide +kernel
theorem dX11_ones_18 : decode prog_13_method_57_code 18 = .ok (.istore_n 2, 1) := by decide +kernel
theorem dX11_ones_19 : decode prog_13_method_57_code 19 = .ok (.iinc 3 1, 3) := by decide +kernel
theorem dX11_ones_22 : decode prog_13_method_57_code 22 = .ok (.goto (-18), 3) := by decide +kernel
theorem dX11_ones_25 : decode prog_13_method_57_code 25 = .ok (.iload_n 2, 1) := by decide +kernel
theorem dX11_ones_26 : decode prog_13_method_57_code 26 = .ok (.ireturn, 1) := by decide +kernel
theorem dX11_readC_0 : decode prog_13_method_13_code 0 = .ok (.aload_n 0, 1) := by decide +kernel
theorem dX11_readC_1 : decode prog_13_method_13_code 1 = .ok (.invokevirtual 219, 3) := by decide +kernel
theorem dX11_readC_4 : decode prog_13_method_13_code 4 = .ok (.istore_n 1, 1) := by decide +kernel
theorem dX11_readC_5 : decode prog_13_method_13_code 5 = .ok (.aload_n 0, 1) := by decide +kernel
theorem dX11_readC_6 : decode prog_13_method_13_code 6 = .ok (.bipush 60, 2) := by decide +kernel
theorem dX11_readC_8 : decode prog_13_method_13_code 8 = .ok (.invokevirtual 187, 3) := by decide +kernel
theorem dX11_readC_11 : decode prog_13_method_13_code 11 = .ok (.ifCond .ne 21, 3) := by decide +kernel
theorem dX11_readC_14 : decode prog_13_method_13_code 14 = .ok (.aload_n 0, 1) := by decide +kernel
theorem dX11_readC_15 : decode prog_13_method_13_code 15 = .ok (.bipush 61, 2) := by decide +kernel
theorem dX11_readC_17 : decode prog_13_method_13_code 17 = .ok (.invokevirtual 187, 3) := by decide +kernel
theorem dX11_readC_20 : decode prog_13_method_13_code 20 = .ok (.ifCond .ne 12, 3) := by decide +kernel
theorem dX11_readC_23 : decode prog_13_method_13_code 23 = .ok (.aload_n 0, 1) := by decide +kernel
theorem dX11_readC_24 : decode prog_13_method_13_code 24 = .ok (.bipush 62, 2) := by decide +kernel
theorem dX11_readC_26 : decode prog_13_method_13_code 26 = .ok (.invokevirtual 187, 3) := by decide +kernel
theorem dX11_readC_29 : decode prog_13_method_13_code 29 = .ok (.ifCond .eq 15, 3) := by decide +kernel
theorem dX11_readC_32 : decode prog_13_method_13_code 32 = .ok (.aload_n 0, 1) := by decide +kernel
theorem dX11_readC_33 : decode prog_13_method_13_code 33 = .ok (.getfield 113, 3) := by decide +kernel
theorem dX11_readC_36 : decode prog_13_method_13_code 36 = .ok (.aload_n 0, 1) := by decide +kernel
theorem dX11_readC_37 : decode prog_13_method_13_code 37 = .ok (.getfield 184, 3) := by decide +kernel
theorem dX11_readC_40 : decode prog_13_method_13_code 40 = .ok (.iaload, 1) := by decide +kernel
theorem dX11_readC_41 : decode prog_13_method_13_code 41 = .ok (.goto 4, 3) := by decide +kernel
theorem dX11_readC_44 : decode prog_13_method_13_code 44 = .ok (.iconst 0, 1) := by decide +kernel
theorem dX11_readC_45 : decode prog_13_method_13_code 45 = .ok (.istore_n 2, 1) := by decide +kernel
theorem dX11_readC_46 : decode prog_13_method_13_code 46 = .ok (.iload_n 2, 1) := by decide +kernel
theorem dX11_readC_47 : decode prog_13_method_13_code 47 = .ok (.ifCond .ne 5, 3) := by decide +kernel
theorem dX11_readC_50 : decode prog_13_method_13_code 50 = .ok (.iload_n 1, 1) := by decide +kernel
theorem dX11_readC_51 : decode prog_13_method_13_code 51 = .ok (.ireturn, 1) := by decide +kernel
theorem dX11_readC_52 : decode prog_13_method_13_code 52 = .ok (.aload_n 0, 1) := by decide +kernel
theorem dX11_readC_53 : decode prog_13_method_13_code 53 = .ok (.dup, 1) := by decide +kernel
theorem dX11_readC_54 : decode prog_13_method_13_code 54 = .ok (.getfield 184, 3) := by decide +kernel
theorem dX11_readC_57 : decode prog_13_method_13_code 57 = .ok (.iconst 1, 1) := by decide +kernel
theorem dX11_readC_58 : decode prog_13_method_13_code 58 = .ok (.iadd, 1) := by decide +kernel
theorem dX11_readC_59 : decode prog_13_method_13_code 59 = .ok (.putfield 184, 3) := by decide +kernel
theorem dX11_readC_62 : decode prog_13_method_13_code 62 = .ok (.aload_n 0, 1) := by decide +kernel
theorem dX11_readC_63 : decode prog_13_method_13_code 63 = .ok (.invokevirtual 219, 3) := by decide +kernel
theorem dX11_readC_66 : decode prog_13_method_13_code 66 = .ok (.istore_n 3, 1) := by decide +kernel
theorem dX11_readC_67 : decode prog_13_method_13_code 67 = .ok (.aload_n 0, 1) := by decide +kernel
theorem dX11_readC_68 : decode prog_13_method_13_code 68 = .ok (.iload_n 2, 1) := by decide +kernel
theorem dX11_readC_69 : decode prog_13_method_13_code 69 = .ok (.iload_n 1, 1) := by decide +kernel
theorem dX11_readC_70 : decode prog_13_method_13_code 70 = .ok (.iload_n 3, 1) := by decide +kernel
theorem dX11_readC_71 : decode prog_13_method_13_code 71 = .ok (.iconst 0, 1) := by decide +kernel
theorem dX11_readC_72 : decode prog_13_method_13_code 72 = .ok (.invokevirtual 215, 3) := by decide +kernel
theorem dX11_readC_75 : decode prog_13_method_13_code 75 = .ok (.ireturn, 1) := by decide +kernel
theorem dX11_readE_0 : decode prog_13_method_12_code 0 = .ok (.aload_n 0, 1) := by decide +kernel
theorem dX11_readE_1 : decode prog_13_method_12_code 1 = .ok (.invokevirtual 204, 3) := by decide +kernel
theorem dX11_readE_4 : decode prog_13_method_12_code 4 = .ok (.istore_n 1, 1) := by decide +kernel
theorem dX11_readE_5 : decode prog_13_method_12_code 5 = .ok (.aload_n 0, 1) := by decide +kernel
theorem dX11_readE_6 : decode prog_13_method_12_code 6 = .ok (.bipush 63, 2) := by decide +kernel
theorem dX11_readE_8 : decode prog_13_method_12_code 8 = .ok (.invokevirtual 191, 3) := by decide +kernel
theorem dX11_readE_11 : decode prog_13_method_12_code 11 = .ok (.ifCond .ne 5, 3) := by decide +kernel
theorem dX11_readE_14 : decode prog_13_method_12_code 14 = .ok (.iload_n 1, 1) := by decide +kernel
theorem dX11_readE_15 : decode prog_13_method_12_code 15 = .ok (.ireturn, 1) := by decide +kernel
theorem dX11_readE_16 : decode prog_13_method_12_code 16 = .ok (.aload_n 0, 1) := by decide +kernel
theorem dX11_readE_17 : decode prog_13_method_12_code 17 = .ok (.invokevirtual 204, 3) := by decide +kernel
theorem dX11_readE_20 : decode prog_13_method_12_code 20 = .ok (.istore_n 2, 1) := by decide +kernel
theorem dX11_readE_21 : decode prog_13_method_12_code 21 = .ok (.aload_n 0, 1) := by decide +kernel
theorem dX11_readE_22 : decode prog_13_method_12_code 22 = .ok (.bipush 58, 2) := by decide +kernel
theorem dX11_readE_24 : decode prog_13_method_12_code 24 = .ok (.invokevirtual 208, 3) := by decide +kernel
theorem dX11_readE_27 : decode prog_13_method_12_code 27 = .ok (.aload_n 0, 1) := by decide +kernel
theorem dX11_readE_28 : decode prog_13_method_12_code 28 = .ok (.invokevirtual 212, 3) := by decide +kernel
theorem dX11_readS_0 : decode prog_13_method_14_code 0 = .ok (.aload_n 0, 1) := by decide +kernel
theorem dX11_readS_1 : decode prog_13_method_14_code 1 = .ok (.invokevirtual 222, 3) := by decide +kernel
theorem dX11_readS_4 : decode prog_13_method_14_code 4 = .ok (.istore_n 1, 1) := by decide +kernel
theorem dX11_readS_5 : decode prog_13_method_14_code 5 = .ok (.aload_n 0, 1) := by decide +kernel
theorem dX11_readS_6 : decode prog_13_method_14_code 6 = .ok (.bipush 43, 2) := by decide +kernel
theorem dX11_readS_8 : decode prog_13_method_14_code 8 = .ok (.invokevirtual 187, 3) := by decide +kernel
theorem dX11_readS_11 : decode prog_13_method_14_code 11 = .ok (.ifCond .ne 12, 3) := by decide +kernel
theorem dX11_readS_14 : decode prog_13_method_14_code 14 = .ok (.aload_n 0, 1) := by decide +kernel
theorem dX11_readS_15 : decode prog_13_method_14_code 15 = .ok (.bipush 45, 2) := by decide +kernel
theorem dX11_readS_17 : decode prog_13_method_14_code 17 = .ok (.invokevirtual 187, 3) := by decide +kernel
theorem dX11_readS_20 : decode prog_13_method_14_code 20 = .ok (.ifCond .eq 40, 3) := by decide +kernel
theorem dX11_readS_23 : decode prog_13_method_14_code 23 = .ok (.aload_n 0, 1) := by decide +kernel
theorem dX11_readS_24 : decode prog_13_method_14_code 24 = .ok (.getfield 113, 3) := by decide +kernel
theorem dX11_readS_27 : decode prog_13_method_14_code 27 = .ok (.aload_n 0, 1) := by decide +kernel
theorem dX11_readS_28 : decode prog_13_method_14_code 28 = .ok (.getfield 184, 3) := by decide +kernel
theorem dX11_readS_31 : decode prog_13_method_14_code 31 = .ok (.iaload, 1) := by decide +kernel
theorem dX11_readS_32 : decode prog_13_method_14_code 32 = .ok (.istore_n 2, 1) := by decide +kernel
theorem dX11_readS_33 : decode prog_13_method_14_code 33 = .ok (.aload_n 0, 1) := by decide +kernel
theorem dX11_readS_34 : decode prog_13_method_14_code 34 = .ok (.dup, 1) := by decide +kernel
theorem dX11_readS_35 : decode prog_13_method_14_code 35 = .ok (.getfield 184, 3) := by decide +kernel
theorem dX11_readS_38 : decode prog_13_method_14_code 38 = .ok (.iconst 1, 1) := by decide +kernel
theorem dX11_readS_39 : decode prog_13_method_14_code 39 = .ok (.iadd, 1) := by decide +kernel
theorem dX11_readS_40 : decode prog_13_method_14_code 40 = .ok (.putfield 184, 3) := by decide +kernel
theorem dX11_readS_43 : decode prog_13_method_14_code 43 = .ok (.aload_n 0, 1) := by decide +kernel
theorem dX11_readS_44 : decode prog_13_method_14_code 44 = .ok (.invokevirtual 222, 3) := by decide +kernel
theorem dX11_readS_47 : decode prog_13_method_14_code 47 = .ok (.istore_n 3, 1) := by decide +kernel
theorem dX11_readS_48 : decode prog_13_method_14_code 48 = .ok (.aload_n 0, 1) := by decide +kernel
theorem dX11_readS_49 : decode prog_13_method_14_code 49 = .ok (.iload_n 2, 1) := by decide +kernel
theorem dX11_readS_50 : decode prog_13_method_14_code 50 = .ok (.iload_n 1, 1) := by decide +kernel
theorem dX11_readS_51 : decode prog_13_method_14_code 51 = .ok (.iload_n 3, 1) := by decide +kernel
theorem dX11_readS_52 : decode prog_13_method_14_code 52 = .ok (.iconst 0, 1) := by decide +kernel
theorem dX11_readS_53 : decode prog_13_method_14_code 53 = .ok (.invokevirtual 215, 3) := by decide +kernel
theorem dX11_readS_56 : decode prog_13_method_14_code 56 = .ok (.istore_n 1, 1) := by decide +kernel
theorem dX11_readS_57 : decode prog_13_method_14_code 57 = .ok (.goto (-52), 3) := by decide +kernel
theorem dX11_readS_60 : decode prog_13_method_14_code 60 = .ok (.iload_n 1, 1) := by decide +kernel
theorem dX11_readS_61 : decode prog_13_method_14_code 61 = .ok (.ireturn, 1) := by decide +kernel
theorem dX11_readT_0 : decode prog_13_method_15_code 0 = .ok (.aload_n 0, 1) := by decide +kernel
theorem dX11_readT_1 : decode prog_13_method_15_code 1 = .ok (.invokevirtual 225, 3) := by decide +kernel
theorem dX11_readT_4 : decode prog_13_method_15_code 4 = .ok (.istore_n 1, 1) := by decide +kernel
theorem dX11_readT_5 : decode prog_13_method_15_code 5 = .ok (.aload_n 0, 1) := by decide +kernel
theorem dX11_readT_6 : decode prog_13_method_15_code 6 = .ok (.bipush 42, 2) := by decide +kernel
theorem dX11_readT_8 : decode prog_13_method_15_code 8 = .ok (.invokevirtual 187, 3) := by decide +kernel
theorem dX11_readT_11 : decode prog_13_method_15_code 11 = .ok (.ifCond .ne 12, 3) := by decide +kernel
theorem dX11_readT_14 : decode prog_13_method_15_code 14 = .ok (.aload_n 0, 1) := by decide +kernel
theorem dX11_readT_15 : decode prog_13_method_15_code 15 = .ok (.bipush 47, 2) := by decide +kernel
theorem dX11_readT_17 : decode prog_13_method_15_code 17 = .ok (.invokevirtual 187, 3) := by decide +kernel
theorem dX11_readT_20 : decode prog_13_method_15_code 20 = .ok (.ifCond .eq 40, 3) := by decide +kernel
theorem dX11_readT_23 : decode prog_13_method_15_code 23 = .ok (.aload_n 0, 1) := by decide +kernel
theorem dX11_readT_24 : decode prog_13_method_15_code 24 = .ok (.getfield 113, 3) := by decide +kernel
theorem dX11_readT_27 : decode prog_13_method_15_code 27 = .ok (.aload_n 0, 1) := by decide +kernel
theorem dX11_readT_28 : decode prog_13_method_15_code 28 = .ok (.getfield 184, 3) := by decide +kernel
theorem dX11_readT_31 : decode prog_13_method_15_code 31 = .ok (.iaload, 1) := by decide +kernel
theorem dX11_readT_32 : decode prog_13_method_15_code 32 = .ok (.istore_n 2, 1) := by decide +kernel
theorem dX11_readT_33 : decode prog_13_method_15_code 33 = .ok (.aload_n 0, 1) := by decide +kernel
theorem dX11_readT_34 : decode prog_13_method_15_code 34 = .ok (.dup, 1) := by decide +kernel
theorem dX11_readT_35 : decode prog_13_method_15_code 35 = .ok (.getfield 184, 3) := by decide +kernel
theorem dX11_readT_38 : decode prog_13_method_15_code 38 = .ok (.iconst 1, 1) := by decide +kernel
theorem dX11_readT_39 : decode prog_13_method_15_code 39 = .ok (.iadd, 1) := by decide +kernel
theorem dX11_readT_40 : decode prog_13_method_15_code 40 = .ok (.putfield 184, 3) := by decide +kernel
theorem dX11_readT_43 : decode prog_13_method_15_code 43 = .ok (.aload_n 0, 1) := by decide +kernel
theorem dX11_readT_44 : decode prog_13_method_15_code 44 = .ok (.invokevirtual 225, 3) := by decide +kernel
theorem dX11_readT_47 : decode prog_13_method_15_code 47 = .ok (.istore_n 3, 1) := by decide +kernel
theorem dX11_readT_48 : decode prog_13_method_15_code 48 = .ok (.aload_n 0, 1) := by decide +kernel
theorem dX11_readT_49 : decode prog_13_method_15_code 49 = .ok (.iload_n 2, 1) := by decide +kernel
theorem dX11_readT_50 : decode prog_13_method_15_code 50 = .ok (.iload_n 1, 1) := by decide +kernel
theorem dX11_readT_51 : decode prog_13_method_15_code 51 = .ok (.iload_n 3, 1) := by decide +kernel
theorem dX11_readT_52 : decode prog_13_method_15_code 52 = .ok (.iconst 0, 1) := by decide +kernel
theorem dX11_readT_53 : decode prog_13_method_15_code 53 = .ok (.invokevirtual 215, 3) := by decide +kernel
theorem dX11_readT_56 : decode prog_13_method_15_code 56 = .ok (.istore_n 1, 1) := by decide +kernel
theorem dX11_readT_57 : decode prog_13_method_15_code 57 = .ok (.goto (-52), 3) := by decide +kernel
theorem dX11_readT_60 : decode prog_13_method_15_code 60 = .ok (.iload_n 1, 1) := by decide +kernel
theorem dX11_readT_61 : decode prog_13_method_15_code 61 = .ok (.ireturn, 1) := by decide +kernel
theorem dX11_readers_0 : decode prog_13_method_56_code 0 = .ok (.iload_n 1, 1) := by decide +kernel
theorem dX11_readers_1 : decode prog_13_method_56_code 1 = .ok (.invokestatic 361, 3) := by decide +kernel
theorem dX11_readers_4 : decode prog_13_method_56_code 4 = .ok (.ifCond .ne 7, 3) := by decide +kernel
theorem dX11_readers_7 : decode prog_13_method_56_code 7 = .ok (.ldc2_w 255, 3) := by decide +kernel
theorem dX11_readers_10 : decode prog_13_method_56_code 10 = .ok (.lreturn, 1) := by decide +kernel
theorem dX11_readers_11 : decode prog_13_method_56_code 11 = .ok (.lconst 0, 1) := by decide +kernel
theorem dX11_readers_12 : decode prog_13_method_56_code 12 = .ok (.lstore_n 2, 1) := by decide +kernel
theorem dX11_readers_13 : decode prog_13_method_56_code 13 = .ok (.iconst 0, 1) := by decide +kernel
theorem dX11_readers_14 : decode prog_13_method_56_code 14 = .ok (.istore 4, 2) := by decide +kernel
theorem dX11_readers_16 : decode prog_13_method_56_code 16 = .ok (.iload 4, 2) := by decide +kernel
theorem dX11_readers_18 : decode prog_13_method_56_code 18 = .ok (.bipush 32, 2) := by decide +kernel
theorem dX11_readers_20 : decode prog_13_method_56_code 20 = .ok (.if_icmp .ge 54, 3) := by decide +kernel
theorem dX11_readers_23 : decode prog_13_method_56_code 23 = .ok (.iconst 0, 1) := by decide +kernel
theorem dX11_readers_24 : decode prog_13_method_56_code 24 = .ok (.istore 5, 2) := by decide +kernel
theorem dX11_readers_26 : decode prog_13_method_56_code 26 = .ok (.iload 5, 2) := by decide +kernel
theorem dX11_readers_28 : decode prog_13_method_56_code 28 = .ok (.aload_n 0, 1) := by decide +kernel
theorem dX11_readers_29 : decode prog_13_method_56_code 29 = .ok (.getfield 21, 3) := by decide +kernel
theorem dX11_readers_32 : decode prog_13_method_56_code 32 = .ok (.iload 4, 2) := by decide +kernel
theorem dX11_readers_34 : decode prog_13_method_56_code 34 = .ok (.iaload, 1) := by decide +kernel
theorem dX11_readers_35 : decode prog_13_method_56_code 35 = .ok (.if_icmp .ge 33, 3) := by decide +kernel
theorem dX11_readers_38 : decode prog_13_method_56_code 38 = .ok (.aload_n 0, 1) := by decide +kernel
theorem dX11_readers_39 : decode prog_13_method_56_code 39 = .ok (.getfield 34, 3) := by decide +kernel
theorem dX11_readers_42 : decode prog_13_method_56_code 42 = .ok (.bipush 32, 2) := by decide +kernel
theorem dX11_readers_44 : decode prog_13_method_56_code 44 = .ok (.iload 4, 2) := by decide +kernel
theorem dX11_readers_46 : decode prog_13_method_56_code 46 = .ok (.imul, 1) := by decide +kernel
theorem dX11_readers_47 : decode prog_13_method_56_code 47 = .ok (.iload 5, 2) := by decide +kernel
theorem dX11_readers_49 : decode prog_13_method_56_code 49 = .ok (.iadd, 1) := by decide +kernel
theorem dX11_readers_50 : decode prog_13_method_56_code 50 = .ok (.iaload, 1) := by decide +kernel
theorem dX11_readers_51 : decode prog_13_method_56_code 51 = .ok (.iload_n 1, 1) := by decide +kernel
theorem dX11_readers_52 : decode prog_13_method_56_code 52 = .ok (.if_icmp .ne 10, 3) := by decide +kernel
theorem dX11_readers_55 : decode prog_13_method_56_code 55 = .ok (.lload_n 2, 1) := by decide +kernel
theorem dX11_readers_56 : decode prog_13_method_56_code 56 = .ok (.lconst 1, 1) := by decide +kernel
theorem dX11_readers_57 : decode prog_13_method_56_code 57 = .ok (.iload 4, 2) := by decide +kernel
theorem dX11_readers_59 : decode prog_13_method_56_code 59 = .ok (.lshl, 1) := by decide +kernel
theorem dX11_readers_60 : decode prog_13_method_56_code 60 = .ok (.lor, 1) := by decide +kernel
theorem dX11_readers_61 : decode prog_13_method_56_code 61 = .ok (.lstore_n 2, 1) := by decide +kernel
theorem dX11_readers_62 : decode prog_13_method_56_code 62 = .ok (.iinc 5 1, 3) := by decide +kernel
theorem dX11_readers_65 : decode prog_13_method_56_code 65 = .ok (.goto (-39), 3) := by decide +kernel
theorem dX11_readers_68 : decode prog_13_method_56_code 68 = .ok (.iinc 4 1, 3) := by decide +kernel
theorem dX11_readers_71 : decode prog_13_method_56_code 71 = .ok (.goto (-55), 3) := by decide +kernel
theorem dX11_readers_74 : decode prog_13_method_56_code 74 = .ok (.lload_n 2, 1) := by decide +kernel
theorem dX11_readers_75 : decode prog_13_method_56_code 75 = .ok (.lreturn, 1) := by decide +kernel
theorem dX11_reads_0 : decode prog_13_method_17_code 0 = .ok (.aload_n 0, 1) := by decide +kernel
theorem dX11_reads_1 : decode prog_13_method_17_code 1 = .ok (.iload_n 1, 1) := by decide +kernel
theorem dX11_reads_2 : decode prog_13_method_17_code 2 = .ok (.putfield 198, 3) := by decide +kernel
theorem dX11_reads_5 : decode prog_13_method_17_code 5 = .ok (.aload_n 0, 1) := by decide +kernel
theorem dX11_reads_6 : decode prog_13_method_17_code 6 = .ok (.iconst 0, 1) := by decide +kernel
theorem dX11_reads_7 : decode prog_13_method_17_code 7 = .ok (.putfield 201, 3) := by decide +kernel
theorem dX11_reads_10 : decode prog_13_method_17_code 10 = .ok (.aload_n 0, 1) := by decide +kernel
theorem dX11_reads_11 : decode prog_13_method_17_code 11 = .ok (.iconst 0, 1) := by decide +kernel
theorem dX11_reads_12 : decode prog_13_method_17_code 12 = .ok (.putfield 184, 3) := by decide +kernel
theorem dX11_reads_15 : decode prog_13_method_17_code 15 = .ok (.aload_n 0, 1) := by decide +kernel
theorem dX11_reads_16 : decode prog_13_method_17_code 16 = .ok (.iconst (-1), 1) := by decide +kernel
theorem dX11_reads_17 : decode prog_13_method_17_code 17 = .ok (.putfield 181, 3) := by decide +kernel
theorem dX11_reads_20 : decode prog_13_method_17_code 20 = .ok (.aload_n 0, 1) := by decide +kernel
theorem dX11_reads_21 : decode prog_13_method_17_code 21 = .ok (.iconst 0, 1) := by decide +kernel
theorem dX11_reads_22 : decode prog_13_method_17_code 22 = .ok (.putfield 233, 3) := by decide +kernel
theorem dX11_reads_25 : decode prog_13_method_17_code 25 = .ok (.aload_n 0, 1) := by decide +kernel
theorem dX11_reads_26 : decode prog_13_method_17_code 26 = .ok (.invokevirtual 212, 3) := by decide +kernel
theorem dX11_reads_29 : decode prog_13_method_17_code 29 = .ok (.istore_n 2, 1) := by decide +kernel
theorem dX11_reads_30 : decode prog_13_method_17_code 30 = .ok (.aload_n 0, 1) := by decide +kernel
theorem dX11_reads_31 : decode prog_13_method_17_code 31 = .ok (.getfield 181, 3) := by decide +kernel
theorem dX11_reads_34 : decode prog_13_method_17_code 34 = .ok (.ifCond .ge 22, 3) := by decide +kernel
theorem dX11_reads_37 : decode prog_13_method_17_code 37 = .ok (.aload_n 0, 1) := by decide +kernel
theorem dX11_reads_38 : decode prog_13_method_17_code 38 = .ok (.getfield 184, 3) := by decide +kernel
theorem dX11_reads_41 : decode prog_13_method_17_code 41 = .ok (.aload_n 0, 1) := by decide +kernel
theorem dX11_reads_42 : decode prog_13_method_17_code 42 = .ok (.getfield 177, 3) := by decide +kernel
theorem dX11_reads_45 : decode prog_13_method_17_code 45 = .ok (.if_icmp .ge 11, 3) := by decide +kernel
theorem dX11_reads_48 : decode prog_13_method_17_code 48 = .ok (.aload_n 0, 1) := by decide +kernel
theorem dX11_reads_49 : decode prog_13_method_17_code 49 = .ok (.aload_n 0, 1) := by decide +kernel
theorem dX11_reads_50 : decode prog_13_method_17_code 50 = .ok (.getfield 184, 3) := by decide +kernel
theorem dX11_reads_53 : decode prog_13_method_17_code 53 = .ok (.putfield 181, 3) := by decide +kernel
theorem dX11_reads_56 : decode prog_13_method_17_code 56 = .ok (.iload_n 2, 1) := by decide +kernel
theorem dX11_reads_57 : decode prog_13_method_17_code 57 = .ok (.ireturn, 1) := by decide +kernel
theorem dX11_value_0 : decode prog_13_method_53_code 0 = .ok (.iload_n 1, 1) := by decide +kernel
theorem dX11_value_1 : decode prog_13_method_53_code 1 = .ok (.invokestatic 361, 3) := by decide +kernel
theorem dX11_value_4 : decode prog_13_method_53_code 4 = .ok (.ifCond .eq 12, 3) := by decide +kernel
theorem dX11_value_7 : decode prog_13_method_53_code 7 = .ok (.aload_n 0, 1) := by decide +kernel
theorem dX11_value_8 : decode prog_13_method_53_code 8 = .ok (.getfield 15, 3) := by decide +kernel
theorem dX11_value_11 : decode prog_13_method_53_code 11 = .ok (.iload_n 1, 1) := by decide +kernel
theorem dX11_value_12 : decode prog_13_method_53_code 12 = .ok (.iaload, 1) := by decide +kernel
theorem dX11_value_13 : decode prog_13_method_53_code 13 = .ok (.ifCond .eq 9, 3) := by decide +kernel
theorem dX11_value_16 : decode prog_13_method_53_code 16 = .ok (.ldc2_w 255, 3) := by decide +kernel
theorem dX11_value_19 : decode prog_13_method_53_code 19 = .ok (.goto 9, 3) := by decide +kernel
theorem dX11_value_22 : decode prog_13_method_53_code 22 = .ok (.aload_n 0, 1) := by decide +kernel
theorem dX11_value_23 : decode prog_13_method_53_code 23 = .ok (.getfield 30, 3) := by decide +kernel
theorem dX11_value_26 : decode prog_13_method_53_code 26 = .ok (.iload_n 1, 1) := by decide +kernel
theorem dX11_value_27 : decode prog_13_method_53_code 27 = .ok (.laload, 1) := by decide +kernel
theorem dX11_value_28 : decode prog_13_method_53_code 28 = .ok (.lreturn, 1) := by decide +kernel
/-! ReactiveSheetModel.readT()I ['m'] -/
abbrev rm_M_X11_readT__0 : Room := { frames := 4, cells := 0, slots := 0, locals := 86 }
def b_M_X11_readT__0_23 (k5 : fw_S → Int32 → Option (Int32 × fw_S)) (t : fw_S) (x1 : Int32) : Option (Int32 × fw_S) := fb_g (¬ ((st_I t 7) < 0 ∨ 120 ≤ (st_I t 7).toNatClampNeg)) (fb_l (up_I t 7 ((st_I t 7) + ((1 : Int32)))) fun t_1 => (fb_b (f_M_X11_readF__0 t_1) fun v_3 t_2 => (fb_b (f_M_X11_node__0 t_2 (st_F t 29 (st_I t 7).toNatClampNeg) x1 v_3 ((0 : Int32))) fun v_5 t_4 => (k5 t_4 v_5))))
def b_M_X11_readT__0_60  (t : fw_S) (x1 : Int32) : Option (Int32 × fw_S) := some (x1, t)
def b_M_X11_readT__0_14 (k5 : fw_S → Int32 → Option (Int32 × fw_S)) (t : fw_S) (x1 : Int32) : Option (Int32 × fw_S) := fb_b (f_M_X11_isAt__0 t ((47 : Int32))) fun v_2 t_1 => (if v_2 = 0 then b_M_X11_readT__0_60 t_1 x1 else b_M_X11_readT__0_23 k5 t_1 x1)
def b_M_X11_readT__0_5  : Nat → (fw_S → Int32 → Option (Int32 × fw_S))
  | 0 => fun _ _ => none
  | n + 1 => fun t x1 => fb_b (f_M_X11_isAt__0 t ((42 : Int32))) fun v_2 t_1 => (if v_2 = 0 then b_M_X11_readT__0_14 (b_M_X11_readT__0_5 n) t_1 x1 else b_M_X11_readT__0_23 (b_M_X11_readT__0_5 n) t_1 x1)
def b_M_X11_readT__0_0  (t : fw_S)  : Option (Int32 × fw_S) := fb_b (f_M_X11_readF__0 t) fun v_2 t_1 => (b_M_X11_readT__0_5 3000 t_1 v_2)
def f_M_X11_readT__0 (t : fw_S)  : Option (Int32 × fw_S) := b_M_X11_readT__0_0 t 
set_option maxRecDepth 20000 in
theorem w_M_X11_readT__0_23 {p : Program} {l : Launch} {e : Env} {s : State} {m : MethodId} {args : Array Value} {below : List Frame} {meth : Method} {c : Code} {A : Nat → Prop} {Q : State → Prop} {D : va_G} {ca : Nat → ClassId} {a : Nat → Nat} {u : fw_S} {r : Int32} {k5 : fw_S → Int32 → Option (Int32 × fw_S)} (C : CX (WM ca a) D (tyv ca) p s m args c A prog_13_method_15_code 4 RX11) (hr : True → RX (WM ca a) D p l e rm_M_X11_readT__0 s m args below meth c A prog_13_method_15_code Q .ireturn [.int r] u) (hk5 : ∀ (t : fw_S) (x1 : Int32) (H : Heap) (locs : List Loc) (ls : Array Slot), k5 t x1 = some (r, u) → va_P D classes (WM ca a t) H → va_S A s.heap H locs → lv_has ls 4 [(0, .ref (a 0)), (1, .int x1)] → W p l e rm_M_X11_readT__0 s m args below meth c H locs 0 0 Q (F0 m 5 ls [])) {t : fw_S} {x1 : Int32} {H : Heap} {locs : List Loc} {ls : Array Slot} (hf : b_M_X11_readT__0_23 k5 t x1 = some (r, u)) (hP : va_P D classes (WM ca a t) H) (hS : va_S A s.heap H locs) (hl : lv_has ls 4 [(0, .ref (a 0)), (1, .int x1)]) : W p l e rm_M_X11_readT__0 s m args below meth c H locs 0 0 Q (F0 m 23 ls []) := by
  obtain ⟨hx, hb, hml, hown, hts, hN, hK, hD, hA⟩ := id C
  have hf : (fb_g (¬ ((st_I t 7) < 0 ∨ 120 ≤ (st_I t 7).toNatClampNeg)) (fb_l (up_I t 7 ((st_I t 7) + ((1 : Int32)))) fun t_1 => (fb_b (f_M_X11_readF__0 t_1) fun v_3 t_2 => (fb_b (f_M_X11_node__0 t_2 (st_F t 29 (st_I t 7).toNatClampNeg) x1 v_3 ((0 : Int32))) fun v_5 t_4 => (k5 t_4 v_5))))) = some (r, u) := hf
  refine lv_aload_n hx hb dX11_readT_23 rfl (lv_at hl 0 rfl) ?_
  refine va_get (D := D) (ci := 11) (v := .ref (a 34)) (C := RX11) (T := TX11) (N := 76) hx hb hts inX11 hown hK hP 0 (heM_0 ca a t) rfl 38 (by decide) (hts _ kw_1230) (fun _ h9 => h9) rfl dX11_readT_24 ?_
  refine lv_aload_n hx hb dX11_readT_27 rfl (lv_at hl 0 rfl) ?_
  refine va_get (D := D) (ci := 11) (v := .int (st_I t 7)) (C := RX11) (T := TX11) (N := 76) hx hb hts inX11 hown hK hP 0 (heM_0 ca a t) rfl 42 (by decide) (hts _ kw_1234) (fun _ h9 => h9) rfl dX11_readT_28 ?_
  obtain ⟨h_31, hf⟩ := fb_if hf
  refine va_iald hx hb hK hP 34 0 (haM_34 ca a t) rfl h_31 dX11_readT_31 ?_
  refine lv_istore_n (lv' := [(2, .int (st_F t 29 (st_I t 7).toNatClampNeg)), (0, .ref (a 0)), (1, .int x1)]) hx hb dX11_readT_32 rfl hl (by decide) rfl (fun ls hl => ?_)
  refine lv_aload_n hx hb dX11_readT_33 rfl (lv_at hl 1 rfl) ?_
  refine lv_dup hx hb dX11_readT_34 rfl ?_
  refine va_get (D := D) (ci := 11) (v := .int (st_I t 7)) (C := RX11) (T := TX11) (N := 76) hx hb hts inX11 hown hK hP 0 (heM_0 ca a t) rfl 42 (by decide) (hts _ kw_1234) (fun _ h9 => h9) rfl dX11_readT_35 ?_
  refine lv_iconst (v := 1) hx hb dX11_readT_38 (by decide) ?_
  refine lv_iadd hx hb dX11_readT_39 ?_
  refine va_put (D := D) (ci := 11) (v := .int ((st_I t 7) + ((1 : Int32)))) (ty := .int) (C := RX11) (T := TX11) (N := 76) hx hb hts inX11 tyX11 tyX11_ok nmX11 hown hK hP (hD t) hS 0 (heM_0 ca a t) rfl 42 (by decide) (hts _ kw_1234) (fun _ h9 => h9) rfl (by decide +kernel) rfl rfl (Nat.le_of_ble_eq_true rfl) dX11_readT_40 (fun H locs hP _ hS => ?_)
  rw [suM_0_42] at hP
  obtain ⟨t_1, e_40, hf⟩ := fb_ls hf
  rw [← e_40] at hP
  refine lv_aload_n hx hb dX11_readT_43 rfl (lv_at hl 1 rfl) ?_
  obtain ⟨v_3, t_2, g_44, hf⟩ := fb_bs hf
  refine fw_V1 (As := []) (rest := []) (n := 0) (q0 := 0) C (c_M_X11_readF__0 (l := l) (D := D) (ca := ca) (a := a) g_44) kw_1563 kw_1565 kw_102 kw_1566 kw_70 hP hS hl (heM_0 ca a t_1) rfl rfl rfl (by decide) (by decide +kernel) ⟨Nat.le_of_ble_eq_true rfl, Nat.le_of_ble_eq_true rfl⟩ rfl rfl (Nat.le_of_ble_eq_true rfl) dX11_readT_44 (fun H locs hP hS => ?_)
  refine W.eq (g2 := F0 m 47 ls [.int v_3]) rfl ?_
  refine lv_istore_n (lv' := [(3, .int v_3), (2, .int (st_F t 29 (st_I t 7).toNatClampNeg)), (0, .ref (a 0)), (1, .int x1)]) hx hb dX11_readT_47 rfl hl (by decide) rfl (fun ls hl => ?_)
  refine lv_aload_n hx hb dX11_readT_48 rfl (lv_at hl 2 rfl) ?_
  refine lv_iload_n hx hb dX11_readT_49 rfl (lv_at hl 1 rfl) ?_
  refine lv_iload_n hx hb dX11_readT_50 rfl (lv_at hl 3 rfl) ?_
  refine lv_iload_n hx hb dX11_readT_51 rfl (lv_at hl 0 rfl) ?_
  refine lv_iconst (v := 0) hx hb dX11_readT_52 (by decide) ?_
  obtain ⟨v_5, t_4, g_53, hf⟩ := fb_bs hf
  refine fw_V1 (As := [.int (st_F t 29 (st_I t 7).toNatClampNeg), .int x1, .int v_3, .int ((0 : Int32))]) (rest := []) (n := 4) (q0 := 0) C (c_M_X11_node__0 (l := l) (D := D) (ca := ca) (a := a) g_53) kw_1576 kw_1578 kw_102 kw_1579 kw_73 hP hS hl (heM_0 ca a t_2) rfl rfl rfl (by decide) (by decide +kernel) ⟨Nat.le_of_ble_eq_true rfl, Nat.le_of_ble_eq_true rfl⟩ rfl rfl (Nat.le_of_ble_eq_true rfl) dX11_readT_53 (fun H locs hP hS => ?_)
  refine W.eq (g2 := F0 m 56 ls [.int v_5]) rfl ?_
  refine lv_istore_n (lv' := [(1, .int v_5), (3, .int v_3), (2, .int (st_F t 29 (st_I t 7).toNatClampNeg)), (0, .ref (a 0))]) hx hb dX11_readT_56 rfl hl (by decide) rfl (fun ls hl => ?_)
  refine lv_goto (tgt := 5) hx hb dX11_readT_57 (by decide) ?_
  exact hk5 t_4 v_5 _ _ _ hf hP hS (lv_sub hl [3, 0] rfl)
set_option maxRecDepth 20000 in
theorem w_M_X11_readT__0_60 {p : Program} {l : Launch} {e : Env} {s : State} {m : MethodId} {args : Array Value} {below : List Frame} {meth : Method} {c : Code} {A : Nat → Prop} {Q : State → Prop} {D : va_G} {ca : Nat → ClassId} {a : Nat → Nat} {u : fw_S} {r : Int32}  (C : CX (WM ca a) D (tyv ca) p s m args c A prog_13_method_15_code 4 RX11) (hr : True → RX (WM ca a) D p l e rm_M_X11_readT__0 s m args below meth c A prog_13_method_15_code Q .ireturn [.int r] u) {t : fw_S} {x1 : Int32} {H : Heap} {locs : List Loc} {ls : Array Slot} (hf : b_M_X11_readT__0_60  t x1 = some (r, u)) (hP : va_P D classes (WM ca a t) H) (hS : va_S A s.heap H locs) (hl : lv_has ls 4 [(1, .int x1)]) : W p l e rm_M_X11_readT__0 s m args below meth c H locs 0 0 Q (F0 m 60 ls []) := by
  obtain ⟨hx, hb, hml, hown, hts, hN, hK, hD, hA⟩ := id C
  have hf : (some (x1, t)) = some (r, u) := hf
  refine lv_iload_n hx hb dX11_readT_60 rfl (lv_at hl 0 rfl) ?_
  obtain ⟨e_61, e2_61⟩ := fb_e hf
  subst e_61; subst e2_61
  exact hr trivial _ _ _ _ hP hS dX11_readT_61
set_option maxRecDepth 20000 in
theorem w_M_X11_readT__0_14 {p : Program} {l : Launch} {e : Env} {s : State} {m : MethodId} {args : Array Value} {below : List Frame} {meth : Method} {c : Code} {A : Nat → Prop} {Q : State → Prop} {D : va_G} {ca : Nat → ClassId} {a : Nat → Nat} {u : fw_S} {r : Int32} {k5 : fw_S → Int32 → Option (Int32 × fw_S)} (C : CX (WM ca a) D (tyv ca) p s m args c A prog_13_method_15_code 4 RX11) (hr : True → RX (WM ca a) D p l e rm_M_X11_readT__0 s m args below meth c A prog_13_method_15_code Q .ireturn [.int r] u) (hk5 : ∀ (t : fw_S) (x1 : Int32) (H : Heap) (locs : List Loc) (ls : Array Slot), k5 t x1 = some (r, u) → va_P D classes (WM ca a t) H → va_S A s.heap H locs → lv_has ls 4 [(0, .ref (a 0)), (1, .int x1)] → W p l e rm_M_X11_readT__0 s m args below meth c H locs 0 0 Q (F0 m 5 ls [])) {t : fw_S} {x1 : Int32} {H : Heap} {locs : List Loc} {ls : Array Slot} (hf : b_M_X11_readT__0_14 k5 t x1 = some (r, u)) (hP : va_P D classes (WM ca a t) H) (hS : va_S A s.heap H locs) (hl : lv_has ls 4 [(0, .ref (a 0)), (1, .int x1)]) : W p l e rm_M_X11_readT__0 s m args below meth c H locs 0 0 Q (F0 m 14 ls []) := by
  obtain ⟨hx, hb, hml, hown, hts, hN, hK, hD, hA⟩ := id C
  have hf : (fb_b (f_M_X11_isAt__0 t ((47 : Int32))) fun v_2 t_1 => (if v_2 = 0 then b_M_X11_readT__0_60 t_1 x1 else b_M_X11_readT__0_23 k5 t_1 x1)) = some (r, u) := hf
  refine lv_aload_n hx hb dX11_readT_14 rfl (lv_at hl 0 rfl) ?_
  refine lv_bipush (v := 47) hx hb dX11_readT_15 (by decide) ?_
  obtain ⟨v_2, t_1, g_17, hf⟩ := fb_bs hf
  refine fw_V1 (As := [.int ((47 : Int32))]) (rest := []) (n := 1) (q0 := 0) C (c_M_X11_isAt__0 (l := l) (D := D) (ca := ca) (a := a) g_17) kw_1584 kw_1586 kw_102 kw_1587 kw_75 hP hS hl (heM_0 ca a t) rfl rfl rfl (by decide) (by decide +kernel) ⟨Nat.le_of_ble_eq_true rfl, Nat.le_of_ble_eq_true rfl⟩ rfl rfl (Nat.le_of_ble_eq_true rfl) dX11_readT_17 (fun H locs hP hS => ?_)
  refine W.eq (g2 := F0 m 20 ls [.int v_2]) rfl ?_
  refine lv_if_eq (tgt := 60) hx hb dX11_readT_20 (by decide) (fun h_20 => ?_) (fun h_20 => ?_)
  · have hf := fb_t h_20 hf
    exact w_M_X11_readT__0_60 C hr hf hP hS (lv_sub hl [1] rfl)
  · have hf := fb_f h_20 hf
    exact w_M_X11_readT__0_23 C hr hk5 hf hP hS (lv_sub hl [0, 1] rfl)
set_option maxRecDepth 20000 in
theorem w_M_X11_readT__0_5 {p : Program} {l : Launch} {e : Env} {s : State} {m : MethodId} {args : Array Value} {below : List Frame} {meth : Method} {c : Code} {A : Nat → Prop} {Q : State → Prop} {D : va_G} {ca : Nat → ClassId} {a : Nat → Nat} {u : fw_S} {r : Int32}  (C : CX (WM ca a) D (tyv ca) p s m args c A prog_13_method_15_code 4 RX11) (hr : True → RX (WM ca a) D p l e rm_M_X11_readT__0 s m args below meth c A prog_13_method_15_code Q .ireturn [.int r] u) : ∀ (n : Nat) (t : fw_S) (x1 : Int32) (H : Heap) (locs : List Loc) (ls : Array Slot), b_M_X11_readT__0_5  n t x1 = some (r, u) → va_P D classes (WM ca a t) H → va_S A s.heap H locs → lv_has ls 4 [(0, .ref (a 0)), (1, .int x1)] → W p l e rm_M_X11_readT__0 s m args below meth c H locs 0 0 Q (F0 m 5 ls []) := by
  obtain ⟨hx, hb, hml, hown, hts, hN, hK, hD, hA⟩ := id C
  intro n
  induction n with
  | zero => intro t x1 H locs ls hf; cases hf
  | succ n hk5 =>
    intro t x1 H locs ls hf hP hS hl
    have hf : (fb_b (f_M_X11_isAt__0 t ((42 : Int32))) fun v_2 t_1 => (if v_2 = 0 then b_M_X11_readT__0_14 (b_M_X11_readT__0_5 n) t_1 x1 else b_M_X11_readT__0_23 (b_M_X11_readT__0_5 n) t_1 x1)) = some (r, u) := hf
    refine lv_aload_n hx hb dX11_readT_5 rfl (lv_at hl 0 rfl) ?_
    refine lv_bipush (v := 42) hx hb dX11_readT_6 (by decide) ?_
    obtain ⟨v_2, t_1, g_8, hf⟩ := fb_bs hf
    refine fw_V1 (As := [.int ((42 : Int32))]) (rest := []) (n := 1) (q0 := 0) C (c_M_X11_isAt__0 (l := l) (D := D) (ca := ca) (a := a) g_8) kw_1584 kw_1586 kw_102 kw_1587 kw_75 hP hS hl (heM_0 ca a t) rfl rfl rfl (by decide) (by decide +kernel) ⟨Nat.le_of_ble_eq_true rfl, Nat.le_of_ble_eq_true rfl⟩ rfl rfl (Nat.le_of_ble_eq_true rfl) dX11_readT_8 (fun H locs hP hS => ?_)
    refine W.eq (g2 := F0 m 11 ls [.int v_2]) rfl ?_
    refine lv_if_ne (tgt := 23) hx hb dX11_readT_11 (by decide) (fun h_11 => ?_) (fun h_11 => ?_)
    · have hf := fb_f h_11 hf
      exact w_M_X11_readT__0_23 C hr hk5 hf hP hS (lv_sub hl [0, 1] rfl)
    · have hf := fb_t h_11 hf
      exact w_M_X11_readT__0_14 C hr hk5 hf hP hS (lv_sub hl [0, 1] rfl)
set_option maxRecDepth 20000 in
theorem w_M_X11_readT__0_0 {p : Program} {l : Launch} {e : Env} {s : State} {m : MethodId} {args : Array Value} {below : List Frame} {meth : Method} {c : Code} {A : Nat → Prop} {Q : State → Prop} {D : va_G} {ca : Nat → ClassId} {a : Nat → Nat} {u : fw_S} {r : Int32}  (C : CX (WM ca a) D (tyv ca) p s m args c A prog_13_method_15_code 4 RX11) (hr : True → RX (WM ca a) D p l e rm_M_X11_readT__0 s m args below meth c A prog_13_method_15_code Q .ireturn [.int r] u) {t : fw_S}  {H : Heap} {locs : List Loc} {ls : Array Slot} (hf : b_M_X11_readT__0_0  t  = some (r, u)) (hP : va_P D classes (WM ca a t) H) (hS : va_S A s.heap H locs) (hl : lv_has ls 4 [(0, .ref (a 0))]) : W p l e rm_M_X11_readT__0 s m args below meth c H locs 0 0 Q (F0 m 0 ls []) := by
  obtain ⟨hx, hb, hml, hown, hts, hN, hK, hD, hA⟩ := id C
  have hf : (fb_b (f_M_X11_readF__0 t) fun v_2 t_1 => (b_M_X11_readT__0_5 3000 t_1 v_2)) = some (r, u) := hf
  refine lv_aload_n hx hb dX11_readT_0 rfl (lv_at hl 0 rfl) ?_
  obtain ⟨v_2, t_1, g_1, hf⟩ := fb_bs hf
  refine fw_V1 (As := []) (rest := []) (n := 0) (q0 := 0) C (c_M_X11_readF__0 (l := l) (D := D) (ca := ca) (a := a) g_1) kw_1563 kw_1565 kw_102 kw_1566 kw_70 hP hS hl (heM_0 ca a t) rfl rfl rfl (by decide) (by decide +kernel) ⟨Nat.le_of_ble_eq_true rfl, Nat.le_of_ble_eq_true rfl⟩ rfl rfl (Nat.le_of_ble_eq_true rfl) dX11_readT_1 (fun H locs hP hS => ?_)
  refine W.eq (g2 := F0 m 4 ls [.int v_2]) rfl ?_
  refine lv_istore_n (lv' := [(1, .int v_2), (0, .ref (a 0))]) hx hb dX11_readT_4 rfl hl (by decide) rfl (fun ls hl => ?_)
  exact w_M_X11_readT__0_5 C hr 3000 t_1 v_2 _ _ _ hf hP hS (lv_sub hl [1, 0] rfl)
set_option maxRecDepth 20000 in
theorem c_M_X11_readT__0 {l : Launch} {D : va_G} {ca : Nat → ClassId} {a : Nat → Nat} {t : fw_S}  {u : fw_S} {r : Int32} (hf : f_M_X11_readT__0 t  = some (r, u)) : MC (WM ca a) D (tyv ca) l yX11_readT (.code yX11_readT prog_13_method_15_code 4 (some .int) :: lw_gd) rm_M_X11_readT__0 [.ref (a 0)] (some (.int r)) t u := by
  refine fw_met (okM ca a) (by decide +kernel) rfl rfl (Nat.le_of_ble_eq_true rfl) ?_
  intro p e s m args below meth c A Q ls C hr hk hP hS hl hQ
  exact w_M_X11_readT__0_0 C (fun _ => fw_ri C hr hk hQ) hf hP hS (lv_sub hl [0] rfl)
/-! ReactiveSheetModel.readS()I ['m'] -/
abbrev rm_M_X11_readS__0 : Room := { frames := 5, cells := 0, slots := 0, locals := 109 }
def b_M_X11_readS__0_23 (k5 : fw_S → Int32 → Option (Int32 × fw_S)) (t : fw_S) (x1 : Int32) : Option (Int32 × fw_S) := fb_g (¬ ((st_I t 7) < 0 ∨ 120 ≤ (st_I t 7).toNatClampNeg)) (fb_l (up_I t 7 ((st_I t 7) + ((1 : Int32)))) fun t_1 => (fb_b (f_M_X11_readT__0 t_1) fun v_3 t_2 => (fb_b (f_M_X11_node__0 t_2 (st_F t 29 (st_I t 7).toNatClampNeg) x1 v_3 ((0 : Int32))) fun v_5 t_4 => (k5 t_4 v_5))))
def b_M_X11_readS__0_60  (t : fw_S) (x1 : Int32) : Option (Int32 × fw_S) := some (x1, t)
def b_M_X11_readS__0_14 (k5 : fw_S → Int32 → Option (Int32 × fw_S)) (t : fw_S) (x1 : Int32) : Option (Int32 × fw_S) := fb_b (f_M_X11_isAt__0 t ((45 : Int32))) fun v_2 t_1 => (if v_2 = 0 then b_M_X11_readS__0_60 t_1 x1 else b_M_X11_readS__0_23 k5 t_1 x1)
def b_M_X11_readS__0_5  : Nat → (fw_S → Int32 → Option (Int32 × fw_S))
  | 0 => fun _ _ => none
  | n + 1 => fun t x1 => fb_b (f_M_X11_isAt__0 t ((43 : Int32))) fun v_2 t_1 => (if v_2 = 0 then b_M_X11_readS__0_14 (b_M_X11_readS__0_5 n) t_1 x1 else b_M_X11_readS__0_23 (b_M_X11_readS__0_5 n) t_1 x1)
def b_M_X11_readS__0_0  (t : fw_S)  : Option (Int32 × fw_S) := fb_b (f_M_X11_readT__0 t) fun v_2 t_1 => (b_M_X11_readS__0_5 3000 t_1 v_2)
def f_M_X11_readS__0 (t : fw_S)  : Option (Int32 × fw_S) := b_M_X11_readS__0_0 t 
set_option maxRecDepth 20000 in
theorem w_M_X11_readS__0_23 {p : Program} {l : Launch} {e : Env} {s : State} {m : MethodId} {args : Array Value} {below : List Frame} {meth : Method} {c : Code} {A : Nat → Prop} {Q : State → Prop} {D : va_G} {ca : Nat → ClassId} {a : Nat → Nat} {u : fw_S} {r : Int32} {k5 : fw_S → Int32 → Option (Int32 × fw_S)} (C : CX (WM ca a) D (tyv ca) p s m args c A prog_13_method_14_code 4 RX11) (hr : True → RX (WM ca a) D p l e rm_M_X11_readS__0 s m args below meth c A prog_13_method_14_code Q .ireturn [.int r] u) (hk5 : ∀ (t : fw_S) (x1 : Int32) (H : Heap) (locs : List Loc) (ls : Array Slot), k5 t x1 = some (r, u) → va_P D classes (WM ca a t) H → va_S A s.heap H locs → lv_has ls 4 [(0, .ref (a 0)), (1, .int x1)] → W p l e rm_M_X11_readS__0 s m args below meth c H locs 0 0 Q (F0 m 5 ls [])) {t : fw_S} {x1 : Int32} {H : Heap} {locs : List Loc} {ls : Array Slot} (hf : b_M_X11_readS__0_23 k5 t x1 = some (r, u)) (hP : va_P D classes (WM ca a t) H) (hS : va_S A s.heap H locs) (hl : lv_has ls 4 [(0, .ref (a 0)), (1, .int x1)]) : W p l e rm_M_X11_readS__0 s m args below meth c H locs 0 0 Q (F0 m 23 ls []) := by
  obtain ⟨hx, hb, hml, hown, hts, hN, hK, hD, hA⟩ := id C
  have hf : (fb_g (¬ ((st_I t 7) < 0 ∨ 120 ≤ (st_I t 7).toNatClampNeg)) (fb_l (up_I t 7 ((st_I t 7) + ((1 : Int32)))) fun t_1 => (fb_b (f_M_X11_readT__0 t_1) fun v_3 t_2 => (fb_b (f_M_X11_node__0 t_2 (st_F t 29 (st_I t 7).toNatClampNeg) x1 v_3 ((0 : Int32))) fun v_5 t_4 => (k5 t_4 v_5))))) = some (r, u) := hf
  refine lv_aload_n hx hb dX11_readS_23 rfl (lv_at hl 0 rfl) ?_
  refine va_get (D := D) (ci := 11) (v := .ref (a 34)) (C := RX11) (T := TX11) (N := 76) hx hb hts inX11 hown hK hP 0 (heM_0 ca a t) rfl 38 (by decide) (hts _ kw_1230) (fun _ h9 => h9) rfl dX11_readS_24 ?_
  refine lv_aload_n hx hb dX11_readS_27 rfl (lv_at hl 0 rfl) ?_
  refine va_get (D := D) (ci := 11) (v := .int (st_I t 7)) (C := RX11) (T := TX11) (N := 76) hx hb hts inX11 hown hK hP 0 (heM_0 ca a t) rfl 42 (by decide) (hts _ kw_1234) (fun _ h9 => h9) rfl dX11_readS_28 ?_
  obtain ⟨h_31, hf⟩ := fb_if hf
  refine va_iald hx hb hK hP 34 0 (haM_34 ca a t) rfl h_31 dX11_readS_31 ?_
  refine lv_istore_n (lv' := [(2, .int (st_F t 29 (st_I t 7).toNatClampNeg)), (0, .ref (a 0)), (1, .int x1)]) hx hb dX11_readS_32 rfl hl (by decide) rfl (fun ls hl => ?_)
  refine lv_aload_n hx hb dX11_readS_33 rfl (lv_at hl 1 rfl) ?_
  refine lv_dup hx hb dX11_readS_34 rfl ?_
  refine va_get (D := D) (ci := 11) (v := .int (st_I t 7)) (C := RX11) (T := TX11) (N := 76) hx hb hts inX11 hown hK hP 0 (heM_0 ca a t) rfl 42 (by decide) (hts _ kw_1234) (fun _ h9 => h9) rfl dX11_readS_35 ?_
  refine lv_iconst (v := 1) hx hb dX11_readS_38 (by decide) ?_
  refine lv_iadd hx hb dX11_readS_39 ?_
  refine va_put (D := D) (ci := 11) (v := .int ((st_I t 7) + ((1 : Int32)))) (ty := .int) (C := RX11) (T := TX11) (N := 76) hx hb hts inX11 tyX11 tyX11_ok nmX11 hown hK hP (hD t) hS 0 (heM_0 ca a t) rfl 42 (by decide) (hts _ kw_1234) (fun _ h9 => h9) rfl (by decide +kernel) rfl rfl (Nat.le_of_ble_eq_true rfl) dX11_readS_40 (fun H locs hP _ hS => ?_)
  rw [suM_0_42] at hP
  obtain ⟨t_1, e_40, hf⟩ := fb_ls hf
  rw [← e_40] at hP
  refine lv_aload_n hx hb dX11_readS_43 rfl (lv_at hl 1 rfl) ?_
  obtain ⟨v_3, t_2, g_44, hf⟩ := fb_bs hf
  refine fw_V1 (As := []) (rest := []) (n := 0) (q0 := 0) C (c_M_X11_readT__0 (l := l) (D := D) (ca := ca) (a := a) g_44) kw_1559 kw_1561 kw_102 kw_1562 kw_69 hP hS hl (heM_0 ca a t_1) rfl rfl rfl (by decide) (by decide +kernel) ⟨Nat.le_of_ble_eq_true rfl, Nat.le_of_ble_eq_true rfl⟩ rfl rfl (Nat.le_of_ble_eq_true rfl) dX11_readS_44 (fun H locs hP hS => ?_)
  refine W.eq (g2 := F0 m 47 ls [.int v_3]) rfl ?_
  refine lv_istore_n (lv' := [(3, .int v_3), (2, .int (st_F t 29 (st_I t 7).toNatClampNeg)), (0, .ref (a 0)), (1, .int x1)]) hx hb dX11_readS_47 rfl hl (by decide) rfl (fun ls hl => ?_)
  refine lv_aload_n hx hb dX11_readS_48 rfl (lv_at hl 2 rfl) ?_
  refine lv_iload_n hx hb dX11_readS_49 rfl (lv_at hl 1 rfl) ?_
  refine lv_iload_n hx hb dX11_readS_50 rfl (lv_at hl 3 rfl) ?_
  refine lv_iload_n hx hb dX11_readS_51 rfl (lv_at hl 0 rfl) ?_
  refine lv_iconst (v := 0) hx hb dX11_readS_52 (by decide) ?_
  obtain ⟨v_5, t_4, g_53, hf⟩ := fb_bs hf
  refine fw_V1 (As := [.int (st_F t 29 (st_I t 7).toNatClampNeg), .int x1, .int v_3, .int ((0 : Int32))]) (rest := []) (n := 4) (q0 := 0) C (c_M_X11_node__0 (l := l) (D := D) (ca := ca) (a := a) g_53) kw_1576 kw_1578 kw_102 kw_1579 kw_73 hP hS hl (heM_0 ca a t_2) rfl rfl rfl (by decide) (by decide +kernel) ⟨Nat.le_of_ble_eq_true rfl, Nat.le_of_ble_eq_true rfl⟩ rfl rfl (Nat.le_of_ble_eq_true rfl) dX11_readS_53 (fun H locs hP hS => ?_)
  refine W.eq (g2 := F0 m 56 ls [.int v_5]) rfl ?_
  refine lv_istore_n (lv' := [(1, .int v_5), (3, .int v_3), (2, .int (st_F t 29 (st_I t 7).toNatClampNeg)), (0, .ref (a 0))]) hx hb dX11_readS_56 rfl hl (by decide) rfl (fun ls hl => ?_)
  refine lv_goto (tgt := 5) hx hb dX11_readS_57 (by decide) ?_
  exact hk5 t_4 v_5 _ _ _ hf hP hS (lv_sub hl [3, 0] rfl)
set_option maxRecDepth 20000 in
theorem w_M_X11_readS__0_60 {p : Program} {l : Launch} {e : Env} {s : State} {m : MethodId} {args : Array Value} {below : List Frame} {meth : Method} {c : Code} {A : Nat → Prop} {Q : State → Prop} {D : va_G} {ca : Nat → ClassId} {a : Nat → Nat} {u : fw_S} {r : Int32}  (C : CX (WM ca a) D (tyv ca) p s m args c A prog_13_method_14_code 4 RX11) (hr : True → RX (WM ca a) D p l e rm_M_X11_readS__0 s m args below meth c A prog_13_method_14_code Q .ireturn [.int r] u) {t : fw_S} {x1 : Int32} {H : Heap} {locs : List Loc} {ls : Array Slot} (hf : b_M_X11_readS__0_60  t x1 = some (r, u)) (hP : va_P D classes (WM ca a t) H) (hS : va_S A s.heap H locs) (hl : lv_has ls 4 [(1, .int x1)]) : W p l e rm_M_X11_readS__0 s m args below meth c H locs 0 0 Q (F0 m 60 ls []) := by
  obtain ⟨hx, hb, hml, hown, hts, hN, hK, hD, hA⟩ := id C
  have hf : (some (x1, t)) = some (r, u) := hf
  refine lv_iload_n hx hb dX11_readS_60 rfl (lv_at hl 0 rfl) ?_
  obtain ⟨e_61, e2_61⟩ := fb_e hf
  subst e_61; subst e2_61
  exact hr trivial _ _ _ _ hP hS dX11_readS_61
set_option maxRecDepth 20000 in
theorem w_M_X11_readS__0_14 {p : Program} {l : Launch} {e : Env} {s : State} {m : MethodId} {args : Array Value} {below : List Frame} {meth : Method} {c : Code} {A : Nat → Prop} {Q : State → Prop} {D : va_G} {ca : Nat → ClassId} {a : Nat → Nat} {u : fw_S} {r : Int32} {k5 : fw_S → Int32 → Option (Int32 × fw_S)} (C : CX (WM ca a) D (tyv ca) p s m args c A prog_13_method_14_code 4 RX11) (hr : True → RX (WM ca a) D p l e rm_M_X11_readS__0 s m args below meth c A prog_13_method_14_code Q .ireturn [.int r] u) (hk5 : ∀ (t : fw_S) (x1 : Int32) (H : Heap) (locs : List Loc) (ls : Array Slot), k5 t x1 = some (r, u) → va_P D classes (WM ca a t) H → va_S A s.heap H locs → lv_has ls 4 [(0, .ref (a 0)), (1, .int x1)] → W p l e rm_M_X11_readS__0 s m args below meth c H locs 0 0 Q (F0 m 5 ls [])) {t : fw_S} {x1 : Int32} {H : Heap} {locs : List Loc} {ls : Array Slot} (hf : b_M_X11_readS__0_14 k5 t x1 = some (r, u)) (hP : va_P D classes (WM ca a t) H) (hS : va_S A s.heap H locs) (hl : lv_has ls 4 [(0, .ref (a 0)), (1, .int x1)]) : W p l e rm_M_X11_readS__0 s m args below meth c H locs 0 0 Q (F0 m 14 ls []) := by
  obtain ⟨hx, hb, hml, hown, hts, hN, hK, hD, hA⟩ := id C
  have hf : (fb_b (f_M_X11_isAt__0 t ((45 : Int32))) fun v_2 t_1 => (if v_2 = 0 then b_M_X11_readS__0_60 t_1 x1 else b_M_X11_readS__0_23 k5 t_1 x1)) = some (r, u) := hf
  refine lv_aload_n hx hb dX11_readS_14 rfl (lv_at hl 0 rfl) ?_
  refine lv_bipush (v := 45) hx hb dX11_readS_15 (by decide) ?_
  obtain ⟨v_2, t_1, g_17, hf⟩ := fb_bs hf
  refine fw_V1 (As := [.int ((45 : Int32))]) (rest := []) (n := 1) (q0 := 0) C (c_M_X11_isAt__0 (l := l) (D := D) (ca := ca) (a := a) g_17) kw_1584 kw_1586 kw_102 kw_1587 kw_75 hP hS hl (heM_0 ca a t) rfl rfl rfl (by decide) (by decide +kernel) ⟨Nat.le_of_ble_eq_true rfl, Nat.le_of_ble_eq_true rfl⟩ rfl rfl (Nat.le_of_ble_eq_true rfl) dX11_readS_17 (fun H locs hP hS => ?_)
  refine W.eq (g2 := F0 m 20 ls [.int v_2]) rfl ?_
  refine lv_if_eq (tgt := 60) hx hb dX11_readS_20 (by decide) (fun h_20 => ?_) (fun h_20 => ?_)
  · have hf := fb_t h_20 hf
    exact w_M_X11_readS__0_60 C hr hf hP hS (lv_sub hl [1] rfl)
  · have hf := fb_f h_20 hf
    exact w_M_X11_readS__0_23 C hr hk5 hf hP hS (lv_sub hl [0, 1] rfl)
set_option maxRecDepth 20000 in
theorem w_M_X11_readS__0_5 {p : Program} {l : Launch} {e : Env} {s : State} {m : MethodId} {args : Array Value} {below : List Frame} {meth : Method} {c : Code} {A : Nat → Prop} {Q : State → Prop} {D : va_G} {ca : Nat → ClassId} {a : Nat → Nat} {u : fw_S} {r : Int32}  (C : CX (WM ca a) D (tyv ca) p s m args c A prog_13_method_14_code 4 RX11) (hr : True → RX (WM ca a) D p l e rm_M_X11_readS__0 s m args below meth c A prog_13_method_14_code Q .ireturn [.int r] u) : ∀ (n : Nat) (t : fw_S) (x1 : Int32) (H : Heap) (locs : List Loc) (ls : Array Slot), b_M_X11_readS__0_5  n t x1 = some (r, u) → va_P D classes (WM ca a t) H → va_S A s.heap H locs → lv_has ls 4 [(0, .ref (a 0)), (1, .int x1)] → W p l e rm_M_X11_readS__0 s m args below meth c H locs 0 0 Q (F0 m 5 ls []) := by
  obtain ⟨hx, hb, hml, hown, hts, hN, hK, hD, hA⟩ := id C
  intro n
  induction n with
  | zero => intro t x1 H locs ls hf; cases hf
  | succ n hk5 =>
    intro t x1 H locs ls hf hP hS hl
    have hf : (fb_b (f_M_X11_isAt__0 t ((43 : Int32))) fun v_2 t_1 => (if v_2 = 0 then b_M_X11_readS__0_14 (b_M_X11_readS__0_5 n) t_1 x1 else b_M_X11_readS__0_23 (b_M_X11_readS__0_5 n) t_1 x1)) = some (r, u) := hf
    refine lv_aload_n hx hb dX11_readS_5 rfl (lv_at hl 0 rfl) ?_
    refine lv_bipush (v := 43) hx hb dX11_readS_6 (by decide) ?_
    obtain ⟨v_2, t_1, g_8, hf⟩ := fb_bs hf
    refine fw_V1 (As := [.int ((43 : Int32))]) (rest := []) (n := 1) (q0 := 0) C (c_M_X11_isAt__0 (l := l) (D := D) (ca := ca) (a := a) g_8) kw_1584 kw_1586 kw_102 kw_1587 kw_75 hP hS hl (heM_0 ca a t) rfl rfl rfl (by decide) (by decide +kernel) ⟨Nat.le_of_ble_eq_true rfl, Nat.le_of_ble_eq_true rfl⟩ rfl rfl (Nat.le_of_ble_eq_true rfl) dX11_readS_8 (fun H locs hP hS => ?_)
    refine W.eq (g2 := F0 m 11 ls [.int v_2]) rfl ?_
    refine lv_if_ne (tgt := 23) hx hb dX11_readS_11 (by decide) (fun h_11 => ?_) (fun h_11 => ?_)
    · have hf := fb_f h_11 hf
      exact w_M_X11_readS__0_23 C hr hk5 hf hP hS (lv_sub hl [0, 1] rfl)
    · have hf := fb_t h_11 hf
      exact w_M_X11_readS__0_14 C hr hk5 hf hP hS (lv_sub hl [0, 1] rfl)
set_option maxRecDepth 20000 in
theorem w_M_X11_readS__0_0 {p : Program} {l : Launch} {e : Env} {s : State} {m : MethodId} {args : Array Value} {below : List Frame} {meth : Method} {c : Code} {A : Nat → Prop} {Q : State → Prop} {D : va_G} {ca : Nat → ClassId} {a : Nat → Nat} {u : fw_S} {r : Int32}  (C : CX (WM ca a) D (tyv ca) p s m args c A prog_13_method_14_code 4 RX11) (hr : True → RX (WM ca a) D p l e rm_M_X11_readS__0 s m args below meth c A prog_13_method_14_code Q .ireturn [.int r] u) {t : fw_S}  {H : Heap} {locs : List Loc} {ls : Array Slot} (hf : b_M_X11_readS__0_0  t  = some (r, u)) (hP : va_P D classes (WM ca a t) H) (hS : va_S A s.heap H locs) (hl : lv_has ls 4 [(0, .ref (a 0))]) : W p l e rm_M_X11_readS__0 s m args below meth c H locs 0 0 Q (F0 m 0 ls []) := by
  obtain ⟨hx, hb, hml, hown, hts, hN, hK, hD, hA⟩ := id C
  have hf : (fb_b (f_M_X11_readT__0 t) fun v_2 t_1 => (b_M_X11_readS__0_5 3000 t_1 v_2)) = some (r, u) := hf
  refine lv_aload_n hx hb dX11_readS_0 rfl (lv_at hl 0 rfl) ?_
  obtain ⟨v_2, t_1, g_1, hf⟩ := fb_bs hf
  refine fw_V1 (As := []) (rest := []) (n := 0) (q0 := 0) C (c_M_X11_readT__0 (l := l) (D := D) (ca := ca) (a := a) g_1) kw_1559 kw_1561 kw_102 kw_1562 kw_69 hP hS hl (heM_0 ca a t) rfl rfl rfl (by decide) (by decide +kernel) ⟨Nat.le_of_ble_eq_true rfl, Nat.le_of_ble_eq_true rfl⟩ rfl rfl (Nat.le_of_ble_eq_true rfl) dX11_readS_1 (fun H locs hP hS => ?_)
  refine W.eq (g2 := F0 m 4 ls [.int v_2]) rfl ?_
  refine lv_istore_n (lv' := [(1, .int v_2), (0, .ref (a 0))]) hx hb dX11_readS_4 rfl hl (by decide) rfl (fun ls hl => ?_)
  exact w_M_X11_readS__0_5 C hr 3000 t_1 v_2 _ _ _ hf hP hS (lv_sub hl [1, 0] rfl)
set_option maxRecDepth 20000 in
theorem c_M_X11_readS__0 {l : Launch} {D : va_G} {ca : Nat → ClassId} {a : Nat → Nat} {t : fw_S}  {u : fw_S} {r : Int32} (hf : f_M_X11_readS__0 t  = some (r, u)) : MC (WM ca a) D (tyv ca) l yX11_readS (.code yX11_readS prog_13_method_14_code 4 (some .int) :: lw_gd) rm_M_X11_readS__0 [.ref (a 0)] (some (.int r)) t u := by
  refine fw_met (okM ca a) (by decide +kernel) rfl rfl (Nat.le_of_ble_eq_true rfl) ?_
  intro p e s m args below meth c A Q ls C hr hk hP hS hl hQ
  exact w_M_X11_readS__0_0 C (fun _ => fw_ri C hr hk hQ) hf hP hS (lv_sub hl [0] rfl)
/-! ReactiveSheetModel.readC()I ['m'] -/
abbrev rm_M_X11_readC__0 : Room := { frames := 6, cells := 0, slots := 0, locals := 132 }
def b_M_X11_readC__0_52  (t : fw_S) (x1 : Int32) (x2 : Int32) : Option (Int32 × fw_S) := fb_l (up_I t 7 ((st_I t 7) + ((1 : Int32)))) fun t_1 => (fb_b (f_M_X11_readS__0 t_1) fun v_3 t_2 => (fb_b (f_M_X11_node__0 t_2 x2 x1 v_3 ((0 : Int32))) fun v_5 t_4 => (some (v_5, t_4))))
def b_M_X11_readC__0_50  (t : fw_S) (x1 : Int32) : Option (Int32 × fw_S) := some (x1, t)
def b_M_X11_readC__0_45  (t : fw_S) (x1 : Int32) (z0 : Int32) : Option (Int32 × fw_S) := if z0 = 0 then b_M_X11_readC__0_50 t x1 else b_M_X11_readC__0_52 t x1 z0
def b_M_X11_readC__0_32  (t : fw_S) (x1 : Int32) : Option (Int32 × fw_S) := fb_g (¬ ((st_I t 7) < 0 ∨ 120 ≤ (st_I t 7).toNatClampNeg)) (b_M_X11_readC__0_45 t x1 (st_F t 29 (st_I t 7).toNatClampNeg))
def b_M_X11_readC__0_44  (t : fw_S) (x1 : Int32) : Option (Int32 × fw_S) := b_M_X11_readC__0_45 t x1 ((0 : Int32))
def b_M_X11_readC__0_23  (t : fw_S) (x1 : Int32) : Option (Int32 × fw_S) := fb_b (f_M_X11_isAt__0 t ((62 : Int32))) fun v_2 t_1 => (if v_2 = 0 then b_M_X11_readC__0_44 t_1 x1 else b_M_X11_readC__0_32 t_1 x1)
def b_M_X11_readC__0_14  (t : fw_S) (x1 : Int32) : Option (Int32 × fw_S) := fb_b (f_M_X11_isAt__0 t ((61 : Int32))) fun v_2 t_1 => (if v_2 = 0 then b_M_X11_readC__0_23 t_1 x1 else b_M_X11_readC__0_32 t_1 x1)
def b_M_X11_readC__0_0  (t : fw_S)  : Option (Int32 × fw_S) := fb_b (f_M_X11_readS__0 t) fun v_2 t_1 => (fb_b (f_M_X11_isAt__0 t_1 ((60 : Int32))) fun v_4 t_3 => (if v_4 = 0 then b_M_X11_readC__0_14 t_3 v_2 else b_M_X11_readC__0_32 t_3 v_2))
def f_M_X11_readC__0 (t : fw_S)  : Option (Int32 × fw_S) := b_M_X11_readC__0_0 t 
set_option maxRecDepth 20000 in
theorem w_M_X11_readC__0_52 {p : Program} {l : Launch} {e : Env} {s : State} {m : MethodId} {args : Array Value} {below : List Frame} {meth : Method} {c : Code} {A : Nat → Prop} {Q : State → Prop} {D : va_G} {ca : Nat → ClassId} {a : Nat → Nat} {u : fw_S} {r : Int32}  (C : CX (WM ca a) D (tyv ca) p s m args c A prog_13_method_13_code 4 RX11) (hr : True → RX (WM ca a) D p l e rm_M_X11_readC__0 s m args below meth c A prog_13_method_13_code Q .ireturn [.int r] u) {t : fw_S} {x1 : Int32} {x2 : Int32} {H : Heap} {locs : List Loc} {ls : Array Slot} (hf : b_M_X11_readC__0_52  t x1 x2 = some (r, u)) (hP : va_P D classes (WM ca a t) H) (hS : va_S A s.heap H locs) (hl : lv_has ls 4 [(0, .ref (a 0)), (1, .int x1), (2, .int x2)]) : W p l e rm_M_X11_readC__0 s m args below meth c H locs 0 0 Q (F0 m 52 ls []) := by
  obtain ⟨hx, hb, hml, hown, hts, hN, hK, hD, hA⟩ := id C
  have hf : (fb_l (up_I t 7 ((st_I t 7) + ((1 : Int32)))) fun t_1 => (fb_b (f_M_X11_readS__0 t_1) fun v_3 t_2 => (fb_b (f_M_X11_node__0 t_2 x2 x1 v_3 ((0 : Int32))) fun v_5 t_4 => (some (v_5, t_4))))) = some (r, u) := hf
  refine lv_aload_n hx hb dX11_readC_52 rfl (lv_at hl 0 rfl) ?_
  refine lv_dup hx hb dX11_readC_53 rfl ?_
  refine va_get (D := D) (ci := 11) (v := .int (st_I t 7)) (C := RX11) (T := TX11) (N := 76) hx hb hts inX11 hown hK hP 0 (heM_0 ca a t) rfl 42 (by decide) (hts _ kw_1234) (fun _ h9 => h9) rfl dX11_readC_54 ?_
  refine lv_iconst (v := 1) hx hb dX11_readC_57 (by decide) ?_
  refine lv_iadd hx hb dX11_readC_58 ?_
  refine va_put (D := D) (ci := 11) (v := .int ((st_I t 7) + ((1 : Int32)))) (ty := .int) (C := RX11) (T := TX11) (N := 76) hx hb hts inX11 tyX11 tyX11_ok nmX11 hown hK hP (hD t) hS 0 (heM_0 ca a t) rfl 42 (by decide) (hts _ kw_1234) (fun _ h9 => h9) rfl (by decide +kernel) rfl rfl (Nat.le_of_ble_eq_true rfl) dX11_readC_59 (fun H locs hP _ hS => ?_)
  rw [suM_0_42] at hP
  obtain ⟨t_1, e_59, hf⟩ := fb_ls hf
  rw [← e_59] at hP
  refine lv_aload_n hx hb dX11_readC_62 rfl (lv_at hl 0 rfl) ?_
  obtain ⟨v_3, t_2, g_63, hf⟩ := fb_bs hf
  refine fw_V1 (As := []) (rest := []) (n := 0) (q0 := 0) C (c_M_X11_readS__0 (l := l) (D := D) (ca := ca) (a := a) g_63) kw_1555 kw_1557 kw_102 kw_1558 kw_68 hP hS hl (heM_0 ca a t_1) rfl rfl rfl (by decide) (by decide +kernel) ⟨Nat.le_of_ble_eq_true rfl, Nat.le_of_ble_eq_true rfl⟩ rfl rfl (Nat.le_of_ble_eq_true rfl) dX11_readC_63 (fun H locs hP hS => ?_)
  refine W.eq (g2 := F0 m 66 ls [.int v_3]) rfl ?_
  refine lv_istore_n (lv' := [(3, .int v_3), (0, .ref (a 0)), (1, .int x1), (2, .int x2)]) hx hb dX11_readC_66 rfl hl (by decide) rfl (fun ls hl => ?_)
  refine lv_aload_n hx hb dX11_readC_67 rfl (lv_at hl 1 rfl) ?_
  refine lv_iload_n hx hb dX11_readC_68 rfl (lv_at hl 3 rfl) ?_
  refine lv_iload_n hx hb dX11_readC_69 rfl (lv_at hl 2 rfl) ?_
  refine lv_iload_n hx hb dX11_readC_70 rfl (lv_at hl 0 rfl) ?_
  refine lv_iconst (v := 0) hx hb dX11_readC_71 (by decide) ?_
  obtain ⟨v_5, t_4, g_72, hf⟩ := fb_bs hf
  refine fw_V1 (As := [.int x2, .int x1, .int v_3, .int ((0 : Int32))]) (rest := []) (n := 4) (q0 := 0) C (c_M_X11_node__0 (l := l) (D := D) (ca := ca) (a := a) g_72) kw_1576 kw_1578 kw_102 kw_1579 kw_73 hP hS hl (heM_0 ca a t_2) rfl rfl rfl (by decide) (by decide +kernel) ⟨Nat.le_of_ble_eq_true rfl, Nat.le_of_ble_eq_true rfl⟩ rfl rfl (Nat.le_of_ble_eq_true rfl) dX11_readC_72 (fun H locs hP hS => ?_)
  refine W.eq (g2 := F0 m 75 ls [.int v_5]) rfl ?_
  obtain ⟨e_75, e2_75⟩ := fb_e hf
  subst e_75; subst e2_75
  exact hr trivial _ _ _ _ hP hS dX11_readC_75
set_option maxRecDepth 20000 in
theorem w_M_X11_readC__0_50 {p : Program} {l : Launch} {e : Env} {s : State} {m : MethodId} {args : Array Value} {below : List Frame} {meth : Method} {c : Code} {A : Nat → Prop} {Q : State → Prop} {D : va_G} {ca : Nat → ClassId} {a : Nat → Nat} {u : fw_S} {r : Int32}  (C : CX (WM ca a) D (tyv ca) p s m args c A prog_13_method_13_code 4 RX11) (hr : True → RX (WM ca a) D p l e rm_M_X11_readC__0 s m args below meth c A prog_13_method_13_code Q .ireturn [.int r] u) {t : fw_S} {x1 : Int32} {H : Heap} {locs : List Loc} {ls : Array Slot} (hf : b_M_X11_readC__0_50  t x1 = some (r, u)) (hP : va_P D classes (WM ca a t) H) (hS : va_S A s.heap H locs) (hl : lv_has ls 4 [(1, .int x1)]) : W p l e rm_M_X11_readC__0 s m args below meth c H locs 0 0 Q (F0 m 50 ls []) := by
  obtain ⟨hx, hb, hml, hown, hts, hN, hK, hD, hA⟩ := id C
  have hf : (some (x1, t)) = some (r, u) := hf
  refine lv_iload_n hx hb dX11_readC_50 rfl (lv_at hl 0 rfl) ?_
  obtain ⟨e_51, e2_51⟩ := fb_e hf
  subst e_51; subst e2_51
  exact hr trivial _ _ _ _ hP hS dX11_readC_51
set_option maxRecDepth 20000 in
theorem w_M_X11_readC__0_45 {p : Program} {l : Launch} {e : Env} {s : State} {m : MethodId} {args : Array Value} {below : List Frame} {meth : Method} {c : Code} {A : Nat → Prop} {Q : State → Prop} {D : va_G} {ca : Nat → ClassId} {a : Nat → Nat} {u : fw_S} {r : Int32}  (C : CX (WM ca a) D (tyv ca) p s m args c A prog_13_method_13_code 4 RX11) (hr : True → RX (WM ca a) D p l e rm_M_X11_readC__0 s m args below meth c A prog_13_method_13_code Q .ireturn [.int r] u) {t : fw_S} {x1 : Int32} {z0 : Int32} {H : Heap} {locs : List Loc} {ls : Array Slot} (hf : b_M_X11_readC__0_45  t x1 z0 = some (r, u)) (hP : va_P D classes (WM ca a t) H) (hS : va_S A s.heap H locs) (hl : lv_has ls 4 [(0, .ref (a 0)), (1, .int x1)]) : W p l e rm_M_X11_readC__0 s m args below meth c H locs 0 0 Q (F0 m 45 ls [.int z0]) := by
  obtain ⟨hx, hb, hml, hown, hts, hN, hK, hD, hA⟩ := id C
  have hf : (if z0 = 0 then b_M_X11_readC__0_50 t x1 else b_M_X11_readC__0_52 t x1 z0) = some (r, u) := hf
  refine lv_istore_n (lv' := [(2, .int z0), (0, .ref (a 0)), (1, .int x1)]) hx hb dX11_readC_45 rfl hl (by decide) rfl (fun ls hl => ?_)
  refine lv_iload_n hx hb dX11_readC_46 rfl (lv_at hl 0 rfl) ?_
  refine lv_if_ne (tgt := 52) hx hb dX11_readC_47 (by decide) (fun h_47 => ?_) (fun h_47 => ?_)
  · have hf := fb_f h_47 hf
    exact w_M_X11_readC__0_52 C hr hf hP hS (lv_sub hl [1, 2, 0] rfl)
  · have hf := fb_t h_47 hf
    exact w_M_X11_readC__0_50 C hr hf hP hS (lv_sub hl [2] rfl)
set_option maxRecDepth 20000 in
theorem w_M_X11_readC__0_32 {p : Program} {l : Launch} {e : Env} {s : State} {m : MethodId} {args : Array Value} {below : List Frame} {meth : Method} {c : Code} {A : Nat → Prop} {Q : State → Prop} {D : va_G} {ca : Nat → ClassId} {a : Nat → Nat} {u : fw_S} {r : Int32}  (C : CX (WM ca a) D (tyv ca) p s m args c A prog_13_method_13_code 4 RX11) (hr : True → RX (WM ca a) D p l e rm_M_X11_readC__0 s m args below meth c A prog_13_method_13_code Q .ireturn [.int r] u) {t : fw_S} {x1 : Int32} {H : Heap} {locs : List Loc} {ls : Array Slot} (hf : b_M_X11_readC__0_32  t x1 = some (r, u)) (hP : va_P D classes (WM ca a t) H) (hS : va_S A s.heap H locs) (hl : lv_has ls 4 [(0, .ref (a 0)), (1, .int x1)]) : W p l e rm_M_X11_readC__0 s m args below meth c H locs 0 0 Q (F0 m 32 ls []) := by
  obtain ⟨hx, hb, hml, hown, hts, hN, hK, hD, hA⟩ := id C
  have hf : (fb_g (¬ ((st_I t 7) < 0 ∨ 120 ≤ (st_I t 7).toNatClampNeg)) (b_M_X11_readC__0_45 t x1 (st_F t 29 (st_I t 7).toNatClampNeg))) = some (r, u) := hf
  refine lv_aload_n hx hb dX11_readC_32 rfl (lv_at hl 0 rfl) ?_
  refine va_get (D := D) (ci := 11) (v := .ref (a 34)) (C := RX11) (T := TX11) (N := 76) hx hb hts inX11 hown hK hP 0 (heM_0 ca a t) rfl 38 (by decide) (hts _ kw_1230) (fun _ h9 => h9) rfl dX11_readC_33 ?_
  refine lv_aload_n hx hb dX11_readC_36 rfl (lv_at hl 0 rfl) ?_
  refine va_get (D := D) (ci := 11) (v := .int (st_I t 7)) (C := RX11) (T := TX11) (N := 76) hx hb hts inX11 hown hK hP 0 (heM_0 ca a t) rfl 42 (by decide) (hts _ kw_1234) (fun _ h9 => h9) rfl dX11_readC_37 ?_
  obtain ⟨h_40, hf⟩ := fb_if hf
  refine va_iald hx hb hK hP 34 0 (haM_34 ca a t) rfl h_40 dX11_readC_40 ?_
  refine lv_goto (tgt := 45) hx hb dX11_readC_41 (by decide) ?_
  exact w_M_X11_readC__0_45 C hr hf hP hS (lv_sub hl [0, 1] rfl)
set_option maxRecDepth 20000 in
theorem w_M_X11_readC__0_44 {p : Program} {l : Launch} {e : Env} {s : State} {m : MethodId} {args : Array Value} {below : List Frame} {meth : Method} {c : Code} {A : Nat → Prop} {Q : State → Prop} {D : va_G} {ca : Nat → ClassId} {a : Nat → Nat} {u : fw_S} {r : Int32}  (C : CX (WM ca a) D (tyv ca) p s m args c A prog_13_method_13_code 4 RX11) (hr : True → RX (WM ca a) D p l e rm_M_X11_readC__0 s m args below meth c A prog_13_method_13_code Q .ireturn [.int r] u) {t : fw_S} {x1 : Int32} {H : Heap} {locs : List Loc} {ls : Array Slot} (hf : b_M_X11_readC__0_44  t x1 = some (r, u)) (hP : va_P D classes (WM ca a t) H) (hS : va_S A s.heap H locs) (hl : lv_has ls 4 [(0, .ref (a 0)), (1, .int x1)]) : W p l e rm_M_X11_readC__0 s m args below meth c H locs 0 0 Q (F0 m 44 ls []) := by
  obtain ⟨hx, hb, hml, hown, hts, hN, hK, hD, hA⟩ := id C
  have hf : (b_M_X11_readC__0_45 t x1 ((0 : Int32))) = some (r, u) := hf
  refine lv_iconst (v := 0) hx hb dX11_readC_44 (by decide) ?_
  exact w_M_X11_readC__0_45 C hr hf hP hS (lv_sub hl [0, 1] rfl)
set_option maxRecDepth 20000 in
theorem w_M_X11_readC__0_23 {p : Program} {l : Launch} {e : Env} {s : State} {m : MethodId} {args : Array Value} {below : List Frame} {meth : Method} {c : Code} {A : Nat → Prop} {Q : State → Prop} {D : va_G} {ca : Nat → ClassId} {a : Nat → Nat} {u : fw_S} {r : Int32}  (C : CX (WM ca a) D (tyv ca) p s m args c A prog_13_method_13_code 4 RX11) (hr : True → RX (WM ca a) D p l e rm_M_X11_readC__0 s m args below meth c A prog_13_method_13_code Q .ireturn [.int r] u) {t : fw_S} {x1 : Int32} {H : Heap} {locs : List Loc} {ls : Array Slot} (hf : b_M_X11_readC__0_23  t x1 = some (r, u)) (hP : va_P D classes (WM ca a t) H) (hS : va_S A s.heap H locs) (hl : lv_has ls 4 [(0, .ref (a 0)), (1, .int x1)]) : W p l e rm_M_X11_readC__0 s m args below meth c H locs 0 0 Q (F0 m 23 ls []) := by
  obtain ⟨hx, hb, hml, hown, hts, hN, hK, hD, hA⟩ := id C
  have hf : (fb_b (f_M_X11_isAt__0 t ((62 : Int32))) fun v_2 t_1 => (if v_2 = 0 then b_M_X11_readC__0_44 t_1 x1 else b_M_X11_readC__0_32 t_1 x1)) = some (r, u) := hf
  refine lv_aload_n hx hb dX11_readC_23 rfl (lv_at hl 0 rfl) ?_
  refine lv_bipush (v := 62) hx hb dX11_readC_24 (by decide) ?_
  obtain ⟨v_2, t_1, g_26, hf⟩ := fb_bs hf
  refine fw_V1 (As := [.int ((62 : Int32))]) (rest := []) (n := 1) (q0 := 0) C (c_M_X11_isAt__0 (l := l) (D := D) (ca := ca) (a := a) g_26) kw_1584 kw_1586 kw_102 kw_1587 kw_75 hP hS hl (heM_0 ca a t) rfl rfl rfl (by decide) (by decide +kernel) ⟨Nat.le_of_ble_eq_true rfl, Nat.le_of_ble_eq_true rfl⟩ rfl rfl (Nat.le_of_ble_eq_true rfl) dX11_readC_26 (fun H locs hP hS => ?_)
  refine W.eq (g2 := F0 m 29 ls [.int v_2]) rfl ?_
  refine lv_if_eq (tgt := 44) hx hb dX11_readC_29 (by decide) (fun h_29 => ?_) (fun h_29 => ?_)
  · have hf := fb_t h_29 hf
    exact w_M_X11_readC__0_44 C hr hf hP hS (lv_sub hl [0, 1] rfl)
  · have hf := fb_f h_29 hf
    exact w_M_X11_readC__0_32 C hr hf hP hS (lv_sub hl [0, 1] rfl)
set_option maxRecDepth 20000 in
theorem w_M_X11_readC__0_14 {p : Program} {l : Launch} {e : Env} {s : State} {m : MethodId} {args : Array Value} {below : List Frame} {meth : Method} {c : Code} {A : Nat → Prop} {Q : State → Prop} {D : va_G} {ca : Nat → ClassId} {a : Nat → Nat} {u : fw_S} {r : Int32}  (C : CX (WM ca a) D (tyv ca) p s m args c A prog_13_method_13_code 4 RX11) (hr : True → RX (WM ca a) D p l e rm_M_X11_readC__0 s m args below meth c A prog_13_method_13_code Q .ireturn [.int r] u) {t : fw_S} {x1 : Int32} {H : Heap} {locs : List Loc} {ls : Array Slot} (hf : b_M_X11_readC__0_14  t x1 = some (r, u)) (hP : va_P D classes (WM ca a t) H) (hS : va_S A s.heap H locs) (hl : lv_has ls 4 [(0, .ref (a 0)), (1, .int x1)]) : W p l e rm_M_X11_readC__0 s m args below meth c H locs 0 0 Q (F0 m 14 ls []) := by
  obtain ⟨hx, hb, hml, hown, hts, hN, hK, hD, hA⟩ := id C
  have hf : (fb_b (f_M_X11_isAt__0 t ((61 : Int32))) fun v_2 t_1 => (if v_2 = 0 then b_M_X11_readC__0_23 t_1 x1 else b_M_X11_readC__0_32 t_1 x1)) = some (r, u) := hf
  refine lv_aload_n hx hb dX11_readC_14 rfl (lv_at hl 0 rfl) ?_
  refine lv_bipush (v := 61) hx hb dX11_readC_15 (by decide) ?_
  obtain ⟨v_2, t_1, g_17, hf⟩ := fb_bs hf
  refine fw_V1 (As := [.int ((61 : Int32))]) (rest := []) (n := 1) (q0 := 0) C (c_M_X11_isAt__0 (l := l) (D := D) (ca := ca) (a := a) g_17) kw_1584 kw_1586 kw_102 kw_1587 kw_75 hP hS hl (heM_0 ca a t) rfl rfl rfl (by decide) (by decide +kernel) ⟨Nat.le_of_ble_eq_true rfl, Nat.le_of_ble_eq_true rfl⟩ rfl rfl (Nat.le_of_ble_eq_true rfl) dX11_readC_17 (fun H locs hP hS => ?_)
  refine W.eq (g2 := F0 m 20 ls [.int v_2]) rfl ?_
  refine lv_if_ne (tgt := 32) hx hb dX11_readC_20 (by decide) (fun h_20 => ?_) (fun h_20 => ?_)
  · have hf := fb_f h_20 hf
    exact w_M_X11_readC__0_32 C hr hf hP hS (lv_sub hl [0, 1] rfl)
  · have hf := fb_t h_20 hf
    exact w_M_X11_readC__0_23 C hr hf hP hS (lv_sub hl [0, 1] rfl)
set_option maxRecDepth 20000 in
theorem w_M_X11_readC__0_0 {p : Program} {l : Launch} {e : Env} {s : State} {m : MethodId} {args : Array Value} {below : List Frame} {meth : Method} {c : Code} {A : Nat → Prop} {Q : State → Prop} {D : va_G} {ca : Nat → ClassId} {a : Nat → Nat} {u : fw_S} {r : Int32}  (C : CX (WM ca a) D (tyv ca) p s m args c A prog_13_method_13_code 4 RX11) (hr : True → RX (WM ca a) D p l e rm_M_X11_readC__0 s m args below meth c A prog_13_method_13_code Q .ireturn [.int r] u) {t : fw_S}  {H : Heap} {locs : List Loc} {ls : Array Slot} (hf : b_M_X11_readC__0_0  t  = some (r, u)) (hP : va_P D classes (WM ca a t) H) (hS : va_S A s.heap H locs) (hl : lv_has ls 4 [(0, .ref (a 0))]) : W p l e rm_M_X11_readC__0 s m args below meth c H locs 0 0 Q (F0 m 0 ls []) := by
  obtain ⟨hx, hb, hml, hown, hts, hN, hK, hD, hA⟩ := id C
  have hf : (fb_b (f_M_X11_readS__0 t) fun v_2 t_1 => (fb_b (f_M_X11_isAt__0 t_1 ((60 : Int32))) fun v_4 t_3 => (if v_4 = 0 then b_M_X11_readC__0_14 t_3 v_2 else b_M_X11_readC__0_32 t_3 v_2))) = some (r, u) := hf
  refine lv_aload_n hx hb dX11_readC_0 rfl (lv_at hl 0 rfl) ?_
  obtain ⟨v_2, t_1, g_1, hf⟩ := fb_bs hf
  refine fw_V1 (As := []) (rest := []) (n := 0) (q0 := 0) C (c_M_X11_readS__0 (l := l) (D := D) (ca := ca) (a := a) g_1) kw_1555 kw_1557 kw_102 kw_1558 kw_68 hP hS hl (heM_0 ca a t) rfl rfl rfl (by decide) (by decide +kernel) ⟨Nat.le_of_ble_eq_true rfl, Nat.le_of_ble_eq_true rfl⟩ rfl rfl (Nat.le_of_ble_eq_true rfl) dX11_readC_1 (fun H locs hP hS => ?_)
  refine W.eq (g2 := F0 m 4 ls [.int v_2]) rfl ?_
  refine lv_istore_n (lv' := [(1, .int v_2), (0, .ref (a 0))]) hx hb dX11_readC_4 rfl hl (by decide) rfl (fun ls hl => ?_)
  refine lv_aload_n hx hb dX11_readC_5 rfl (lv_at hl 1 rfl) ?_
  refine lv_bipush (v := 60) hx hb dX11_readC_6 (by decide) ?_
  obtain ⟨v_4, t_3, g_8, hf⟩ := fb_bs hf
  refine fw_V1 (As := [.int ((60 : Int32))]) (rest := []) (n := 1) (q0 := 0) C (c_M_X11_isAt__0 (l := l) (D := D) (ca := ca) (a := a) g_8) kw_1584 kw_1586 kw_102 kw_1587 kw_75 hP hS hl (heM_0 ca a t_1) rfl rfl rfl (by decide) (by decide +kernel) ⟨Nat.le_of_ble_eq_true rfl, Nat.le_of_ble_eq_true rfl⟩ rfl rfl (Nat.le_of_ble_eq_true rfl) dX11_readC_8 (fun H locs hP hS => ?_)
  refine W.eq (g2 := F0 m 11 ls [.int v_4]) rfl ?_
  refine lv_if_ne (tgt := 32) hx hb dX11_readC_11 (by decide) (fun h_11 => ?_) (fun h_11 => ?_)
  · have hf := fb_f h_11 hf
    exact w_M_X11_readC__0_32 C hr hf hP hS (lv_sub hl [1, 0] rfl)
  · have hf := fb_t h_11 hf
    exact w_M_X11_readC__0_14 C hr hf hP hS (lv_sub hl [1, 0] rfl)
set_option maxRecDepth 20000 in
theorem c_M_X11_readC__0 {l : Launch} {D : va_G} {ca : Nat → ClassId} {a : Nat → Nat} {t : fw_S}  {u : fw_S} {r : Int32} (hf : f_M_X11_readC__0 t  = some (r, u)) : MC (WM ca a) D (tyv ca) l yX11_readC (.code yX11_readC prog_13_method_13_code 4 (some .int) :: lw_gd) rm_M_X11_readC__0 [.ref (a 0)] (some (.int r)) t u := by
  refine fw_met (okM ca a) (by decide +kernel) rfl rfl (Nat.le_of_ble_eq_true rfl) ?_
  intro p e s m args below meth c A Q ls C hr hk hP hS hl hQ
  exact w_M_X11_readC__0_0 C (fun _ => fw_ri C hr hk hQ) hf hP hS (lv_sub hl [0] rfl)
/-! ReactiveSheetModel.readE()I ['m'] -/
abbrev rm_M_X11_readE__0 : Room := { frames := 7, cells := 0, slots := 0, locals := 155 }
def b_M_X11_readE__0_16  (t : fw_S) (x1 : Int32) : Option (Int32 × fw_S) := fb_b (f_M_X11_readC__0 t) fun v_2 t_1 => (fb_v (f_M_X11_need__0 t_1 ((58 : Int32))) fun t_3 => (none))
def b_M_X11_readE__0_14  (t : fw_S) (x1 : Int32) : Option (Int32 × fw_S) := some (x1, t)
def b_M_X11_readE__0_0  (t : fw_S)  : Option (Int32 × fw_S) := fb_b (f_M_X11_readC__0 t) fun v_2 t_1 => (fb_b (f_M_X11_takes__0 t_1 ((63 : Int32))) fun v_4 t_3 => (if v_4 = 0 then b_M_X11_readE__0_14 t_3 v_2 else b_M_X11_readE__0_16 t_3 v_2))
def f_M_X11_readE__0 (t : fw_S)  : Option (Int32 × fw_S) := b_M_X11_readE__0_0 t 
set_option maxRecDepth 20000 in
theorem w_M_X11_readE__0_16 {p : Program} {l : Launch} {e : Env} {s : State} {m : MethodId} {args : Array Value} {below : List Frame} {meth : Method} {c : Code} {A : Nat → Prop} {Q : State → Prop} {D : va_G} {ca : Nat → ClassId} {a : Nat → Nat} {u : fw_S} {r : Int32}  (C : CX (WM ca a) D (tyv ca) p s m args c A prog_13_method_12_code 4 RX11) (hr : True → RX (WM ca a) D p l e rm_M_X11_readE__0 s m args below meth c A prog_13_method_12_code Q .ireturn [.int r] u) {t : fw_S} {x1 : Int32} {H : Heap} {locs : List Loc} {ls : Array Slot} (hf : b_M_X11_readE__0_16  t x1 = some (r, u)) (hP : va_P D classes (WM ca a t) H) (hS : va_S A s.heap H locs) (hl : lv_has ls 4 [(0, .ref (a 0)), (1, .int x1)]) : W p l e rm_M_X11_readE__0 s m args below meth c H locs 0 0 Q (F0 m 16 ls []) := by
  obtain ⟨hx, hb, hml, hown, hts, hN, hK, hD, hA⟩ := id C
  have hf : (fb_b (f_M_X11_readC__0 t) fun v_2 t_1 => (fb_v (f_M_X11_need__0 t_1 ((58 : Int32))) fun t_3 => (none))) = some (r, u) := hf
  refine lv_aload_n hx hb dX11_readE_16 rfl (lv_at hl 0 rfl) ?_
  obtain ⟨v_2, t_1, g_17, hf⟩ := fb_bs hf
  refine fw_V1 (As := []) (rest := []) (n := 0) (q0 := 0) C (c_M_X11_readC__0 (l := l) (D := D) (ca := ca) (a := a) g_17) kw_1551 kw_1553 kw_102 kw_1554 kw_67 hP hS hl (heM_0 ca a t) rfl rfl rfl (by decide) (by decide +kernel) ⟨Nat.le_of_ble_eq_true rfl, Nat.le_of_ble_eq_true rfl⟩ rfl rfl (Nat.le_of_ble_eq_true rfl) dX11_readE_17 (fun H locs hP hS => ?_)
  refine W.eq (g2 := F0 m 20 ls [.int v_2]) rfl ?_
  refine lv_istore_n (lv' := [(2, .int v_2), (0, .ref (a 0)), (1, .int x1)]) hx hb dX11_readE_20 rfl hl (by decide) rfl (fun ls hl => ?_)
  refine lv_aload_n hx hb dX11_readE_21 rfl (lv_at hl 1 rfl) ?_
  refine lv_bipush (v := 58) hx hb dX11_readE_22 (by decide) ?_
  obtain ⟨t_3, g_24, hf⟩ := fb_vs hf
  refine fw_V1 (As := [.int ((58 : Int32))]) (rest := []) (n := 1) (q0 := 0) C (c_M_X11_need__0 (l := l) (D := D) (ca := ca) (a := a) g_24) kw_1588 kw_1590 kw_102 kw_1591 kw_76 hP hS hl (heM_0 ca a t_1) rfl rfl rfl (by decide) (by decide +kernel) ⟨Nat.le_of_ble_eq_true rfl, Nat.le_of_ble_eq_true rfl⟩ rfl rfl (Nat.le_of_ble_eq_true rfl) dX11_readE_24 (fun H locs hP hS => ?_)
  refine W.eq (g2 := F0 m 27 ls []) rfl ?_
  refine lv_aload_n hx hb dX11_readE_27 rfl (lv_at hl 1 rfl) ?_
  cases hf
set_option maxRecDepth 20000 in
theorem w_M_X11_readE__0_14 {p : Program} {l : Launch} {e : Env} {s : State} {m : MethodId} {args : Array Value} {below : List Frame} {meth : Method} {c : Code} {A : Nat → Prop} {Q : State → Prop} {D : va_G} {ca : Nat → ClassId} {a : Nat → Nat} {u : fw_S} {r : Int32}  (C : CX (WM ca a) D (tyv ca) p s m args c A prog_13_method_12_code 4 RX11) (hr : True → RX (WM ca a) D p l e rm_M_X11_readE__0 s m args below meth c A prog_13_method_12_code Q .ireturn [.int r] u) {t : fw_S} {x1 : Int32} {H : Heap} {locs : List Loc} {ls : Array Slot} (hf : b_M_X11_readE__0_14  t x1 = some (r, u)) (hP : va_P D classes (WM ca a t) H) (hS : va_S A s.heap H locs) (hl : lv_has ls 4 [(1, .int x1)]) : W p l e rm_M_X11_readE__0 s m args below meth c H locs 0 0 Q (F0 m 14 ls []) := by
  obtain ⟨hx, hb, hml, hown, hts, hN, hK, hD, hA⟩ := id C
  have hf : (some (x1, t)) = some (r, u) := hf
  refine lv_iload_n hx hb dX11_readE_14 rfl (lv_at hl 0 rfl) ?_
  obtain ⟨e_15, e2_15⟩ := fb_e hf
  subst e_15; subst e2_15
  exact hr trivial _ _ _ _ hP hS dX11_readE_15
set_option maxRecDepth 20000 in
theorem w_M_X11_readE__0_0 {p : Program} {l : Launch} {e : Env} {s : State} {m : MethodId} {args : Array Value} {below : List Frame} {meth : Method} {c : Code} {A : Nat → Prop} {Q : State → Prop} {D : va_G} {ca : Nat → ClassId} {a : Nat → Nat} {u : fw_S} {r : Int32}  (C : CX (WM ca a) D (tyv ca) p s m args c A prog_13_method_12_code 4 RX11) (hr : True → RX (WM ca a) D p l e rm_M_X11_readE__0 s m args below meth c A prog_13_method_12_code Q .ireturn [.int r] u) {t : fw_S}  {H : Heap} {locs : List Loc} {ls : Array Slot} (hf : b_M_X11_readE__0_0  t  = some (r, u)) (hP : va_P D classes (WM ca a t) H) (hS : va_S A s.heap H locs) (hl : lv_has ls 4 [(0, .ref (a 0))]) : W p l e rm_M_X11_readE__0 s m args below meth c H locs 0 0 Q (F0 m 0 ls []) := by
  obtain ⟨hx, hb, hml, hown, hts, hN, hK, hD, hA⟩ := id C
  have hf : (fb_b (f_M_X11_readC__0 t) fun v_2 t_1 => (fb_b (f_M_X11_takes__0 t_1 ((63 : Int32))) fun v_4 t_3 => (if v_4 = 0 then b_M_X11_readE__0_14 t_3 v_2 else b_M_X11_readE__0_16 t_3 v_2))) = some (r, u) := hf
  refine lv_aload_n hx hb dX11_readE_0 rfl (lv_at hl 0 rfl) ?_
  obtain ⟨v_2, t_1, g_1, hf⟩ := fb_bs hf
  refine fw_V1 (As := []) (rest := []) (n := 0) (q0 := 0) C (c_M_X11_readC__0 (l := l) (D := D) (ca := ca) (a := a) g_1) kw_1551 kw_1553 kw_102 kw_1554 kw_67 hP hS hl (heM_0 ca a t) rfl rfl rfl (by decide) (by decide +kernel) ⟨Nat.le_of_ble_eq_true rfl, Nat.le_of_ble_eq_true rfl⟩ rfl rfl (Nat.le_of_ble_eq_true rfl) dX11_readE_1 (fun H locs hP hS => ?_)
  refine W.eq (g2 := F0 m 4 ls [.int v_2]) rfl ?_
  refine lv_istore_n (lv' := [(1, .int v_2), (0, .ref (a 0))]) hx hb dX11_readE_4 rfl hl (by decide) rfl (fun ls hl => ?_)
  refine lv_aload_n hx hb dX11_readE_5 rfl (lv_at hl 1 rfl) ?_
  refine lv_bipush (v := 63) hx hb dX11_readE_6 (by decide) ?_
  obtain ⟨v_4, t_3, g_8, hf⟩ := fb_bs hf
  refine fw_V1 (As := [.int ((63 : Int32))]) (rest := []) (n := 1) (q0 := 0) C (c_M_X11_takes__0 (l := l) (D := D) (ca := ca) (a := a) g_8) kw_1580 kw_1582 kw_102 kw_1583 kw_74 hP hS hl (heM_0 ca a t_1) rfl rfl rfl (by decide) (by decide +kernel) ⟨Nat.le_of_ble_eq_true rfl, Nat.le_of_ble_eq_true rfl⟩ rfl rfl (Nat.le_of_ble_eq_true rfl) dX11_readE_8 (fun H locs hP hS => ?_)
  refine W.eq (g2 := F0 m 11 ls [.int v_4]) rfl ?_
  refine lv_if_ne (tgt := 16) hx hb dX11_readE_11 (by decide) (fun h_11 => ?_) (fun h_11 => ?_)
  · have hf := fb_f h_11 hf
    exact w_M_X11_readE__0_16 C hr hf hP hS (lv_sub hl [1, 0] rfl)
  · have hf := fb_t h_11 hf
    exact w_M_X11_readE__0_14 C hr hf hP hS (lv_sub hl [0] rfl)
set_option maxRecDepth 20000 in
theorem c_M_X11_readE__0 {l : Launch} {D : va_G} {ca : Nat → ClassId} {a : Nat → Nat} {t : fw_S}  {u : fw_S} {r : Int32} (hf : f_M_X11_readE__0 t  = some (r, u)) : MC (WM ca a) D (tyv ca) l yX11_readE (.code yX11_readE prog_13_method_12_code 4 (some .int) :: lw_gd) rm_M_X11_readE__0 [.ref (a 0)] (some (.int r)) t u := by
  refine fw_met (okM ca a) (by decide +kernel) rfl rfl (Nat.le_of_ble_eq_true rfl) ?_
  intro p e s m args below meth c A Q ls C hr hk hP hS hl hQ
  exact w_M_X11_readE__0_0 C (fun _ => fw_ri C hr hk hQ) hf hP hS (lv_sub hl [0] rfl)
/-! ReactiveSheetModel.reads(I)I ['m'] -/
abbrev rm_M_X11_reads__0 : Room := { frames := 8, cells := 0, slots := 0, locals := 178 }
def b_M_X11_reads__0_56  (t : fw_S) (x2 : Int32) : Option (Int32 × fw_S) := some (x2, t)
def b_M_X11_reads__0_48  (t : fw_S) (x2 : Int32) : Option (Int32 × fw_S) := fb_l (up_I t 8 (st_I t 7)) fun t_1 => (b_M_X11_reads__0_56 t_1 x2)
def b_M_X11_reads__0_37  (t : fw_S) (x2 : Int32) : Option (Int32 × fw_S) := if (st_I t 5) ≤ (st_I t 7) then b_M_X11_reads__0_56 t x2 else b_M_X11_reads__0_48 t x2
def b_M_X11_reads__0_0  (t : fw_S) (x1 : Int32) : Option (Int32 × fw_S) := fb_l (up_I t 10 x1) fun t_1 => (fb_l (up_I t_1 11 ((0 : Int32))) fun t_2 => (fb_l (up_I t_2 7 ((0 : Int32))) fun t_3 => (fb_l (up_I t_3 8 ((-1 : Int32))) fun t_4 => (fb_l (up_I t_4 9 ((0 : Int32))) fun t_5 => (fb_b (f_M_X11_readE__0 t_5) fun v_7 t_6 => (if 0 ≤ (st_I t_6 8) then b_M_X11_reads__0_56 t_6 v_7 else b_M_X11_reads__0_37 t_6 v_7))))))
def f_M_X11_reads__0 (t : fw_S) (x1 : Int32) : Option (Int32 × fw_S) := b_M_X11_reads__0_0 t x1
set_option maxRecDepth 20000 in
theorem w_M_X11_reads__0_56 {p : Program} {l : Launch} {e : Env} {s : State} {m : MethodId} {args : Array Value} {below : List Frame} {meth : Method} {c : Code} {A : Nat → Prop} {Q : State → Prop} {D : va_G} {ca : Nat → ClassId} {a : Nat → Nat} {u : fw_S} {r : Int32}  (C : CX (WM ca a) D (tyv ca) p s m args c A prog_13_method_17_code 3 RX11) (hr : True → RX (WM ca a) D p l e rm_M_X11_reads__0 s m args below meth c A prog_13_method_17_code Q .ireturn [.int r] u) {t : fw_S} {x2 : Int32} {H : Heap} {locs : List Loc} {ls : Array Slot} (hf : b_M_X11_reads__0_56  t x2 = some (r, u)) (hP : va_P D classes (WM ca a t) H) (hS : va_S A s.heap H locs) (hl : lv_has ls 3 [(2, .int x2)]) : W p l e rm_M_X11_reads__0 s m args below meth c H locs 0 0 Q (F0 m 56 ls []) := by
  obtain ⟨hx, hb, hml, hown, hts, hN, hK, hD, hA⟩ := id C
  have hf : (some (x2, t)) = some (r, u) := hf
  refine lv_iload_n hx hb dX11_reads_56 rfl (lv_at hl 0 rfl) ?_
  obtain ⟨e_57, e2_57⟩ := fb_e hf
  subst e_57; subst e2_57
  exact hr trivial _ _ _ _ hP hS dX11_reads_57
set_option maxRecDepth 20000 in
theorem w_M_X11_reads__0_48 {p : Program} {l : Launch} {e : Env} {s : State} {m : MethodId} {args : Array Value} {below : List Frame} {meth : Method} {c : Code} {A : Nat → Prop} {Q : State → Prop} {D : va_G} {ca : Nat → ClassId} {a : Nat → Nat} {u : fw_S} {r : Int32}  (C : CX (WM ca a) D (tyv ca) p s m args c A prog_13_method_17_code 3 RX11) (hr : True → RX (WM ca a) D p l e rm_M_X11_reads__0 s m args below meth c A prog_13_method_17_code Q .ireturn [.int r] u) {t : fw_S} {x2 : Int32} {H : Heap} {locs : List Loc} {ls : Array Slot} (hf : b_M_X11_reads__0_48  t x2 = some (r, u)) (hP : va_P D classes (WM ca a t) H) (hS : va_S A s.heap H locs) (hl : lv_has ls 3 [(0, .ref (a 0)), (2, .int x2)]) : W p l e rm_M_X11_reads__0 s m args below meth c H locs 0 0 Q (F0 m 48 ls []) := by
  obtain ⟨hx, hb, hml, hown, hts, hN, hK, hD, hA⟩ := id C
  have hf : (fb_l (up_I t 8 (st_I t 7)) fun t_1 => (b_M_X11_reads__0_56 t_1 x2)) = some (r, u) := hf
  refine lv_aload_n hx hb dX11_reads_48 rfl (lv_at hl 0 rfl) ?_
  refine lv_aload_n hx hb dX11_reads_49 rfl (lv_at hl 0 rfl) ?_
  refine va_get (D := D) (ci := 11) (v := .int (st_I t 7)) (C := RX11) (T := TX11) (N := 76) hx hb hts inX11 hown hK hP 0 (heM_0 ca a t) rfl 42 (by decide) (hts _ kw_1234) (fun _ h9 => h9) rfl dX11_reads_50 ?_
  refine va_put (D := D) (ci := 11) (v := .int (st_I t 7)) (ty := .int) (C := RX11) (T := TX11) (N := 76) hx hb hts inX11 tyX11 tyX11_ok nmX11 hown hK hP (hD t) hS 0 (heM_0 ca a t) rfl 43 (by decide) (hts _ kw_1235) (fun _ h9 => h9) rfl (by decide +kernel) rfl rfl (Nat.le_of_ble_eq_true rfl) dX11_reads_53 (fun H locs hP _ hS => ?_)
  rw [suM_0_43] at hP
  obtain ⟨t_1, e_53, hf⟩ := fb_ls hf
  rw [← e_53] at hP
  exact w_M_X11_reads__0_56 C hr hf hP hS (lv_sub hl [1] rfl)
set_option maxRecDepth 20000 in
theorem w_M_X11_reads__0_37 {p : Program} {l : Launch} {e : Env} {s : State} {m : MethodId} {args : Array Value} {below : List Frame} {meth : Method} {c : Code} {A : Nat → Prop} {Q : State → Prop} {D : va_G} {ca : Nat → ClassId} {a : Nat → Nat} {u : fw_S} {r : Int32}  (C : CX (WM ca a) D (tyv ca) p s m args c A prog_13_method_17_code 3 RX11) (hr : True → RX (WM ca a) D p l e rm_M_X11_reads__0 s m args below meth c A prog_13_method_17_code Q .ireturn [.int r] u) {t : fw_S} {x2 : Int32} {H : Heap} {locs : List Loc} {ls : Array Slot} (hf : b_M_X11_reads__0_37  t x2 = some (r, u)) (hP : va_P D classes (WM ca a t) H) (hS : va_S A s.heap H locs) (hl : lv_has ls 3 [(0, .ref (a 0)), (2, .int x2)]) : W p l e rm_M_X11_reads__0 s m args below meth c H locs 0 0 Q (F0 m 37 ls []) := by
  obtain ⟨hx, hb, hml, hown, hts, hN, hK, hD, hA⟩ := id C
  have hf : (if (st_I t 5) ≤ (st_I t 7) then b_M_X11_reads__0_56 t x2 else b_M_X11_reads__0_48 t x2) = some (r, u) := hf
  refine lv_aload_n hx hb dX11_reads_37 rfl (lv_at hl 0 rfl) ?_
  refine va_get (D := D) (ci := 11) (v := .int (st_I t 7)) (C := RX11) (T := TX11) (N := 76) hx hb hts inX11 hown hK hP 0 (heM_0 ca a t) rfl 42 (by decide) (hts _ kw_1234) (fun _ h9 => h9) rfl dX11_reads_38 ?_
  refine lv_aload_n hx hb dX11_reads_41 rfl (lv_at hl 0 rfl) ?_
  refine va_get (D := D) (ci := 11) (v := .int (st_I t 5)) (C := RX11) (T := TX11) (N := 76) hx hb hts inX11 hown hK hP 0 (heM_0 ca a t) rfl 40 (by decide) (hts _ kw_1232) (fun _ h9 => h9) rfl dX11_reads_42 ?_
  refine lv_icmp_ge (tgt := 56) hx hb dX11_reads_45 (by decide) (fun h_45 => ?_) (fun h_45 => ?_)
  · have hf := fb_t h_45 hf
    exact w_M_X11_reads__0_56 C hr hf hP hS (lv_sub hl [1] rfl)
  · have hf := fb_f h_45 hf
    exact w_M_X11_reads__0_48 C hr hf hP hS (lv_sub hl [0, 1] rfl)
set_option maxRecDepth 20000 in
theorem w_M_X11_reads__0_0 {p : Program} {l : Launch} {e : Env} {s : State} {m : MethodId} {args : Array Value} {below : List Frame} {meth : Method} {c : Code} {A : Nat → Prop} {Q : State → Prop} {D : va_G} {ca : Nat → ClassId} {a : Nat → Nat} {u : fw_S} {r : Int32}  (C : CX (WM ca a) D (tyv ca) p s m args c A prog_13_method_17_code 3 RX11) (hr : True → RX (WM ca a) D p l e rm_M_X11_reads__0 s m args below meth c A prog_13_method_17_code Q .ireturn [.int r] u) {t : fw_S} {x1 : Int32} {H : Heap} {locs : List Loc} {ls : Array Slot} (hf : b_M_X11_reads__0_0  t x1 = some (r, u)) (hP : va_P D classes (WM ca a t) H) (hS : va_S A s.heap H locs) (hl : lv_has ls 3 [(0, .ref (a 0)), (1, .int x1)]) : W p l e rm_M_X11_reads__0 s m args below meth c H locs 0 0 Q (F0 m 0 ls []) := by
  obtain ⟨hx, hb, hml, hown, hts, hN, hK, hD, hA⟩ := id C
  have hf : (fb_l (up_I t 10 x1) fun t_1 => (fb_l (up_I t_1 11 ((0 : Int32))) fun t_2 => (fb_l (up_I t_2 7 ((0 : Int32))) fun t_3 => (fb_l (up_I t_3 8 ((-1 : Int32))) fun t_4 => (fb_l (up_I t_4 9 ((0 : Int32))) fun t_5 => (fb_b (f_M_X11_readE__0 t_5) fun v_7 t_6 => (if 0 ≤ (st_I t_6 8) then b_M_X11_reads__0_56 t_6 v_7 else b_M_X11_reads__0_37 t_6 v_7))))))) = some (r, u) := hf
  refine lv_aload_n hx hb dX11_reads_0 rfl (lv_at hl 0 rfl) ?_
  refine lv_iload_n hx hb dX11_reads_1 rfl (lv_at hl 1 rfl) ?_
  refine va_put (D := D) (ci := 11) (v := .int x1) (ty := .int) (C := RX11) (T := TX11) (N := 76) hx hb hts inX11 tyX11 tyX11_ok nmX11 hown hK hP (hD t) hS 0 (heM_0 ca a t) rfl 45 (by decide) (hts _ kw_1237) (fun _ h9 => h9) rfl (by decide +kernel) rfl rfl (Nat.le_of_ble_eq_true rfl) dX11_reads_2 (fun H locs hP _ hS => ?_)
  rw [suM_0_45] at hP
  obtain ⟨t_1, e_2, hf⟩ := fb_ls hf
  rw [← e_2] at hP
  refine lv_aload_n hx hb dX11_reads_5 rfl (lv_at hl 0 rfl) ?_
  refine lv_iconst (v := 0) hx hb dX11_reads_6 (by decide) ?_
  refine va_put (D := D) (ci := 11) (v := .int ((0 : Int32))) (ty := .int) (C := RX11) (T := TX11) (N := 76) hx hb hts inX11 tyX11 tyX11_ok nmX11 hown hK hP (hD t_1) hS 0 (heM_0 ca a t_1) rfl 46 (by decide) (hts _ kw_1238) (fun _ h9 => h9) rfl (by decide +kernel) rfl rfl (Nat.le_of_ble_eq_true rfl) dX11_reads_7 (fun H locs hP _ hS => ?_)
  rw [suM_0_46] at hP
  obtain ⟨t_2, e_7, hf⟩ := fb_ls hf
  rw [← e_7] at hP
  refine lv_aload_n hx hb dX11_reads_10 rfl (lv_at hl 0 rfl) ?_
  refine lv_iconst (v := 0) hx hb dX11_reads_11 (by decide) ?_
  refine va_put (D := D) (ci := 11) (v := .int ((0 : Int32))) (ty := .int) (C := RX11) (T := TX11) (N := 76) hx hb hts inX11 tyX11 tyX11_ok nmX11 hown hK hP (hD t_2) hS 0 (heM_0 ca a t_2) rfl 42 (by decide) (hts _ kw_1234) (fun _ h9 => h9) rfl (by decide +kernel) rfl rfl (Nat.le_of_ble_eq_true rfl) dX11_reads_12 (fun H locs hP _ hS => ?_)
  rw [suM_0_42] at hP
  obtain ⟨t_3, e_12, hf⟩ := fb_ls hf
  rw [← e_12] at hP
  refine lv_aload_n hx hb dX11_reads_15 rfl (lv_at hl 0 rfl) ?_
  refine lv_iconst (v := (-1)) hx hb dX11_reads_16 (by decide) ?_
  refine va_put (D := D) (ci := 11) (v := .int ((-1 : Int32))) (ty := .int) (C := RX11) (T := TX11) (N := 76) hx hb hts inX11 tyX11 tyX11_ok nmX11 hown hK hP (hD t_3) hS 0 (heM_0 ca a t_3) rfl 43 (by decide) (hts _ kw_1235) (fun _ h9 => h9) rfl (by decide +kernel) rfl rfl (Nat.le_of_ble_eq_true rfl) dX11_reads_17 (fun H locs hP _ hS => ?_)
  rw [suM_0_43] at hP
  obtain ⟨t_4, e_17, hf⟩ := fb_ls hf
  rw [← e_17] at hP
  refine lv_aload_n hx hb dX11_reads_20 rfl (lv_at hl 0 rfl) ?_
  refine lv_iconst (v := 0) hx hb dX11_reads_21 (by decide) ?_
  refine va_put (D := D) (ci := 11) (v := .int ((0 : Int32))) (ty := .int) (C := RX11) (T := TX11) (N := 76) hx hb hts inX11 tyX11 tyX11_ok nmX11 hown hK hP (hD t_4) hS 0 (heM_0 ca a t_4) rfl 44 (by decide) (hts _ kw_1236) (fun _ h9 => h9) rfl (by decide +kernel) rfl rfl (Nat.le_of_ble_eq_true rfl) dX11_reads_22 (fun H locs hP _ hS => ?_)
  rw [suM_0_44] at hP
  obtain ⟨t_5, e_22, hf⟩ := fb_ls hf
  rw [← e_22] at hP
  refine lv_aload_n hx hb dX11_reads_25 rfl (lv_at hl 0 rfl) ?_
  obtain ⟨v_7, t_6, g_26, hf⟩ := fb_bs hf
  refine fw_V1 (As := []) (rest := []) (n := 0) (q0 := 0) C (c_M_X11_readE__0 (l := l) (D := D) (ca := ca) (a := a) g_26) kw_1547 kw_1549 kw_102 kw_1550 kw_66 hP hS hl (heM_0 ca a t_5) rfl rfl rfl (by decide) (by decide +kernel) ⟨Nat.le_of_ble_eq_true rfl, Nat.le_of_ble_eq_true rfl⟩ rfl rfl (Nat.le_of_ble_eq_true rfl) dX11_reads_26 (fun H locs hP hS => ?_)
  refine W.eq (g2 := F0 m 29 ls [.int v_7]) rfl ?_
  refine lv_istore_n (lv' := [(2, .int v_7), (0, .ref (a 0)), (1, .int x1)]) hx hb dX11_reads_29 rfl hl (by decide) rfl (fun ls hl => ?_)
  refine lv_aload_n hx hb dX11_reads_30 rfl (lv_at hl 1 rfl) ?_
  refine va_get (D := D) (ci := 11) (v := .int (st_I t_6 8)) (C := RX11) (T := TX11) (N := 76) hx hb hts inX11 hown hK hP 0 (heM_0 ca a t_6) rfl 43 (by decide) (hts _ kw_1235) (fun _ h9 => h9) rfl dX11_reads_31 ?_
  refine lv_if_ge (tgt := 56) hx hb dX11_reads_34 (by decide) (fun h_34 => ?_) (fun h_34 => ?_)
  · have hf := fb_t h_34 hf
    exact w_M_X11_reads__0_56 C hr hf hP hS (lv_sub hl [0] rfl)
  · have hf := fb_f h_34 hf
    exact w_M_X11_reads__0_37 C hr hf hP hS (lv_sub hl [1, 0] rfl)
set_option maxRecDepth 20000 in
theorem c_M_X11_reads__0 {l : Launch} {D : va_G} {ca : Nat → ClassId} {a : Nat → Nat} {t : fw_S} {x1 : Int32} {u : fw_S} {r : Int32} (hf : f_M_X11_reads__0 t x1 = some (r, u)) : MC (WM ca a) D (tyv ca) l yX11_reads (.code yX11_reads prog_13_method_17_code 3 (some .int) :: lw_gd) rm_M_X11_reads__0 [.ref (a 0), .int x1] (some (.int r)) t u := by
  refine fw_met (okM ca a) (by decide +kernel) rfl rfl (Nat.le_of_ble_eq_true rfl) ?_
  intro p e s m args below meth c A Q ls C hr hk hP hS hl hQ
  exact w_M_X11_reads__0_0 C (fun _ => fw_ri C hr hk hQ) hf hP hS (lv_sub hl [0, 1] rfl)
/-! ReactiveSheetModel.define(I)I ['m'] -/
abbrev rm_M_X11_define__0 : Room := { frames := 9, cells := 0, slots := 0, locals := 200 }
def b_M_X11_define__0_48  (t : fw_S) (z0 : Int32) : Option (Int32 × fw_S) := some (z0, t)
def b_M_X11_define__0_40  (t : fw_S) (x1 : Int32) (x2 : Int32) : Option (Int32 × fw_S) := fb_b (f_M_X11_told__0 t x1 ((2 : Int32)) ((0 : Int64)) x2) fun v_2 t_1 => (b_M_X11_define__0_48 t_1 v_2)
def b_M_X11_define__0_30  (t : fw_S)  : Option (Int32 × fw_S) := b_M_X11_define__0_48 t (((-100 : Int32)) - (st_I t 8))
def b_M_X11_define__0_9  (t : fw_S) (x1 : Int32) : Option (Int32 × fw_S) := fb_b (f_M_X11_ofTold t x1) fun v_2 t_1 => (fb_b (f_M_X11_reads__0 t_1 v_2) fun v_4 t_3 => (fb_l (up_I t_3 5 ((0 : Int32))) fun t_5 => (if (st_I t_5 8) < 0 then b_M_X11_define__0_40 t_5 x1 v_4 else b_M_X11_define__0_30 t_5)))
def b_M_X11_define__0_7  (t : fw_S)  : Option (Int32 × fw_S) := some ((-1 : Int32), t)
def b_M_X11_define__0_0  (t : fw_S) (x1 : Int32) : Option (Int32 × fw_S) := fb_b (f_M_X11_isCell t x1) fun v_2 t_1 => (if v_2 = 0 then b_M_X11_define__0_7 t_1 else b_M_X11_define__0_9 t_1 x1)
def f_M_X11_define__0 (t : fw_S) (x1 : Int32) : Option (Int32 × fw_S) := b_M_X11_define__0_0 t x1
set_option maxRecDepth 20000 in
theorem w_M_X11_define__0_48 {p : Program} {l : Launch} {e : Env} {s : State} {m : MethodId} {args : Array Value} {below : List Frame} {meth : Method} {c : Code} {A : Nat → Prop} {Q : State → Prop} {D : va_G} {ca : Nat → ClassId} {a : Nat → Nat} {u : fw_S} {r : Int32}  (C : CX (WM ca a) D (tyv ca) p s m args c A prog_13_method_44_code 3 RX11) (hr : True → RX (WM ca a) D p l e rm_M_X11_define__0 s m args below meth c A prog_13_method_44_code Q .ireturn [.int r] u) {t : fw_S} {z0 : Int32} {H : Heap} {locs : List Loc} {ls : Array Slot} (hf : b_M_X11_define__0_48  t z0 = some (r, u)) (hP : va_P D classes (WM ca a t) H) (hS : va_S A s.heap H locs) (hl : lv_has ls 3 []) : W p l e rm_M_X11_define__0 s m args below meth c H locs 0 0 Q (F0 m 48 ls [.int z0]) := by
  obtain ⟨hx, hb, hml, hown, hts, hN, hK, hD, hA⟩ := id C
  have hf : (some (z0, t)) = some (r, u) := hf
  obtain ⟨e_48, e2_48⟩ := fb_e hf
  subst e_48; subst e2_48
  exact hr trivial _ _ _ _ hP hS dX11_define_48
set_option maxRecDepth 20000 in
theorem w_M_X11_define__0_40 {p : Program} {l : Launch} {e : Env} {s : State} {m : MethodId} {args : Array Value} {below : List Frame} {meth : Method} {c : Code} {A : Nat → Prop} {Q : State → Prop} {D : va_G} {ca : Nat → ClassId} {a : Nat → Nat} {u : fw_S} {r : Int32}  (C : CX (WM ca a) D (tyv ca) p s m args c A prog_13_method_44_code 3 RX11) (hr : True → RX (WM ca a) D p l e rm_M_X11_define__0 s m args below meth c A prog_13_method_44_code Q .ireturn [.int r] u) {t : fw_S} {x1 : Int32} {x2 : Int32} {H : Heap} {locs : List Loc} {ls : Array Slot} (hf : b_M_X11_define__0_40  t x1 x2 = some (r, u)) (hP : va_P D classes (WM ca a t) H) (hS : va_S A s.heap H locs) (hl : lv_has ls 3 [(0, .ref (a 0)), (1, .int x1), (2, .int x2)]) : W p l e rm_M_X11_define__0 s m args below meth c H locs 0 0 Q (F0 m 40 ls []) := by
  obtain ⟨hx, hb, hml, hown, hts, hN, hK, hD, hA⟩ := id C
  have hf : (fb_b (f_M_X11_told__0 t x1 ((2 : Int32)) ((0 : Int64)) x2) fun v_2 t_1 => (b_M_X11_define__0_48 t_1 v_2)) = some (r, u) := hf
  refine lv_aload_n hx hb dX11_define_40 rfl (lv_at hl 0 rfl) ?_
  refine lv_iload_n hx hb dX11_define_41 rfl (lv_at hl 1 rfl) ?_
  refine lv_iconst (v := 2) hx hb dX11_define_42 (by decide) ?_
  refine lv_lconst (v := 0) hx hb dX11_define_43 (by decide) ?_
  refine lv_iload_n hx hb dX11_define_44 rfl (lv_at hl 2 rfl) ?_
  obtain ⟨v_2, t_1, g_45, hf⟩ := fb_bs hf
  refine fw_V1 (As := [.int x1, .int ((2 : Int32)), .long ((0 : Int64)), .int x2]) (rest := []) (n := 4) (q0 := 0) C (c_M_X11_told__0 (l := l) (D := D) (ca := ca) (a := a) g_45) kw_1440 kw_1442 kw_102 kw_1443 kw_44 hP hS hl (heM_0 ca a t) rfl rfl rfl (by decide) (by decide +kernel) ⟨Nat.le_of_ble_eq_true rfl, Nat.le_of_ble_eq_true rfl⟩ rfl rfl (Nat.le_of_ble_eq_true rfl) dX11_define_45 (fun H locs hP hS => ?_)
  refine W.eq (g2 := F0 m 48 ls [.int v_2]) rfl ?_
  exact w_M_X11_define__0_48 C hr hf hP hS (lv_sub hl [] rfl)
set_option maxRecDepth 20000 in
theorem w_M_X11_define__0_30 {p : Program} {l : Launch} {e : Env} {s : State} {m : MethodId} {args : Array Value} {below : List Frame} {meth : Method} {c : Code} {A : Nat → Prop} {Q : State → Prop} {D : va_G} {ca : Nat → ClassId} {a : Nat → Nat} {u : fw_S} {r : Int32}  (C : CX (WM ca a) D (tyv ca) p s m args c A prog_13_method_44_code 3 RX11) (hr : True → RX (WM ca a) D p l e rm_M_X11_define__0 s m args below meth c A prog_13_method_44_code Q .ireturn [.int r] u) {t : fw_S}  {H : Heap} {locs : List Loc} {ls : Array Slot} (hf : b_M_X11_define__0_30  t  = some (r, u)) (hP : va_P D classes (WM ca a t) H) (hS : va_S A s.heap H locs) (hl : lv_has ls 3 [(0, .ref (a 0))]) : W p l e rm_M_X11_define__0 s m args below meth c H locs 0 0 Q (F0 m 30 ls []) := by
  obtain ⟨hx, hb, hml, hown, hts, hN, hK, hD, hA⟩ := id C
  have hf : (b_M_X11_define__0_48 t (((-100 : Int32)) - (st_I t 8))) = some (r, u) := hf
  refine lv_bipush (v := (-100)) hx hb dX11_define_30 (by decide) ?_
  refine lv_aload_n hx hb dX11_define_32 rfl (lv_at hl 0 rfl) ?_
  refine va_get (D := D) (ci := 11) (v := .int (st_I t 8)) (C := RX11) (T := TX11) (N := 76) hx hb hts inX11 hown hK hP 0 (heM_0 ca a t) rfl 43 (by decide) (hts _ kw_1235) (fun _ h9 => h9) rfl dX11_define_33 ?_
  refine lv_isub hx hb dX11_define_36 ?_
  refine lv_goto (tgt := 48) hx hb dX11_define_37 (by decide) ?_
  exact w_M_X11_define__0_48 C hr hf hP hS (lv_sub hl [] rfl)
set_option maxRecDepth 20000 in
theorem w_M_X11_define__0_9 {p : Program} {l : Launch} {e : Env} {s : State} {m : MethodId} {args : Array Value} {below : List Frame} {meth : Method} {c : Code} {A : Nat → Prop} {Q : State → Prop} {D : va_G} {ca : Nat → ClassId} {a : Nat → Nat} {u : fw_S} {r : Int32}  (C : CX (WM ca a) D (tyv ca) p s m args c A prog_13_method_44_code 3 RX11) (hr : True → RX (WM ca a) D p l e rm_M_X11_define__0 s m args below meth c A prog_13_method_44_code Q .ireturn [.int r] u) {t : fw_S} {x1 : Int32} {H : Heap} {locs : List Loc} {ls : Array Slot} (hf : b_M_X11_define__0_9  t x1 = some (r, u)) (hP : va_P D classes (WM ca a t) H) (hS : va_S A s.heap H locs) (hl : lv_has ls 3 [(0, .ref (a 0)), (1, .int x1)]) : W p l e rm_M_X11_define__0 s m args below meth c H locs 0 0 Q (F0 m 9 ls []) := by
  obtain ⟨hx, hb, hml, hown, hts, hN, hK, hD, hA⟩ := id C
  have hf : (fb_b (f_M_X11_ofTold t x1) fun v_2 t_1 => (fb_b (f_M_X11_reads__0 t_1 v_2) fun v_4 t_3 => (fb_l (up_I t_3 5 ((0 : Int32))) fun t_5 => (if (st_I t_5 8) < 0 then b_M_X11_define__0_40 t_5 x1 v_4 else b_M_X11_define__0_30 t_5)))) = some (r, u) := hf
  refine lv_aload_n hx hb dX11_define_9 rfl (lv_at hl 0 rfl) ?_
  refine lv_iload_n hx hb dX11_define_10 rfl (lv_at hl 1 rfl) ?_
  obtain ⟨v_2, t_1, g_11, hf⟩ := fb_bs hf
  refine fw_S1 (As := [.int x1]) (rest := [.ref (a 0)]) (n := 1) C (c_M_X11_ofTold (l := l) (D := D) (ca := ca) (a := a) g_11) kw_1471 kw_1472 kw_102 kw_1473 hP hS hl rfl rfl (by decide) (by decide +kernel) ⟨Nat.le_of_ble_eq_true rfl, Nat.le_of_ble_eq_true rfl⟩ rfl rfl (Nat.le_of_ble_eq_true rfl) dX11_define_11 (fun H locs hP hS => ?_)
  refine W.eq (g2 := F0 m 14 ls [.int v_2, .ref (a 0)]) rfl ?_
  obtain ⟨v_4, t_3, g_14, hf⟩ := fb_bs hf
  refine fw_V1 (As := [.int v_2]) (rest := []) (n := 1) (q0 := 0) C (c_M_X11_reads__0 (l := l) (D := D) (ca := ca) (a := a) g_14) kw_1543 kw_1545 kw_102 kw_1546 kw_65 hP hS hl (heM_0 ca a t_1) rfl rfl rfl (by decide) (by decide +kernel) ⟨Nat.le_of_ble_eq_true rfl, Nat.le_of_ble_eq_true rfl⟩ rfl rfl (Nat.le_of_ble_eq_true rfl) dX11_define_14 (fun H locs hP hS => ?_)
  refine W.eq (g2 := F0 m 17 ls [.int v_4]) rfl ?_
  refine lv_istore_n (lv' := [(2, .int v_4), (0, .ref (a 0)), (1, .int x1)]) hx hb dX11_define_17 rfl hl (by decide) rfl (fun ls hl => ?_)
  refine lv_aload_n hx hb dX11_define_18 rfl (lv_at hl 1 rfl) ?_
  refine lv_iconst (v := 0) hx hb dX11_define_19 (by decide) ?_
  refine va_put (D := D) (ci := 11) (v := .int ((0 : Int32))) (ty := .int) (C := RX11) (T := TX11) (N := 76) hx hb hts inX11 tyX11 tyX11_ok nmX11 hown hK hP (hD t_3) hS 0 (heM_0 ca a t_3) rfl 40 (by decide) (hts _ kw_1232) (fun _ h9 => h9) rfl (by decide +kernel) rfl rfl (Nat.le_of_ble_eq_true rfl) dX11_define_20 (fun H locs hP _ hS => ?_)
  rw [suM_0_40] at hP
  obtain ⟨t_5, e_20, hf⟩ := fb_ls hf
  rw [← e_20] at hP
  refine lv_aload_n hx hb dX11_define_23 rfl (lv_at hl 1 rfl) ?_
  refine va_get (D := D) (ci := 11) (v := .int (st_I t_5 8)) (C := RX11) (T := TX11) (N := 76) hx hb hts inX11 hown hK hP 0 (heM_0 ca a t_5) rfl 43 (by decide) (hts _ kw_1235) (fun _ h9 => h9) rfl dX11_define_24 ?_
  refine lv_if_lt (tgt := 40) hx hb dX11_define_27 (by decide) (fun h_27 => ?_) (fun h_27 => ?_)
  · have hf := fb_t h_27 hf
    exact w_M_X11_define__0_40 C hr hf hP hS (lv_sub hl [1, 2, 0] rfl)
  · have hf := fb_f h_27 hf
    exact w_M_X11_define__0_30 C hr hf hP hS (lv_sub hl [1] rfl)
set_option maxRecDepth 20000 in
theorem w_M_X11_define__0_7 {p : Program} {l : Launch} {e : Env} {s : State} {m : MethodId} {args : Array Value} {below : List Frame} {meth : Method} {c : Code} {A : Nat → Prop} {Q : State → Prop} {D : va_G} {ca : Nat → ClassId} {a : Nat → Nat} {u : fw_S} {r : Int32}  (C : CX (WM ca a) D (tyv ca) p s m args c A prog_13_method_44_code 3 RX11) (hr : True → RX (WM ca a) D p l e rm_M_X11_define__0 s m args below meth c A prog_13_method_44_code Q .ireturn [.int r] u) {t : fw_S}  {H : Heap} {locs : List Loc} {ls : Array Slot} (hf : b_M_X11_define__0_7  t  = some (r, u)) (hP : va_P D classes (WM ca a t) H) (hS : va_S A s.heap H locs) (hl : lv_has ls 3 []) : W p l e rm_M_X11_define__0 s m args below meth c H locs 0 0 Q (F0 m 7 ls []) := by
  obtain ⟨hx, hb, hml, hown, hts, hN, hK, hD, hA⟩ := id C
  have hf : (some ((-1 : Int32), t)) = some (r, u) := hf
  refine lv_iconst (v := (-1)) hx hb dX11_define_7 (by decide) ?_
  obtain ⟨e_8, e2_8⟩ := fb_e hf
  subst e_8; subst e2_8
  exact hr trivial _ _ _ _ hP hS dX11_define_8
set_option maxRecDepth 20000 in
theorem w_M_X11_define__0_0 {p : Program} {l : Launch} {e : Env} {s : State} {m : MethodId} {args : Array Value} {below : List Frame} {meth : Method} {c : Code} {A : Nat → Prop} {Q : State → Prop} {D : va_G} {ca : Nat → ClassId} {a : Nat → Nat} {u : fw_S} {r : Int32}  (C : CX (WM ca a) D (tyv ca) p s m args c A prog_13_method_44_code 3 RX11) (hr : True → RX (WM ca a) D p l e rm_M_X11_define__0 s m args below meth c A prog_13_method_44_code Q .ireturn [.int r] u) {t : fw_S} {x1 : Int32} {H : Heap} {locs : List Loc} {ls : Array Slot} (hf : b_M_X11_define__0_0  t x1 = some (r, u)) (hP : va_P D classes (WM ca a t) H) (hS : va_S A s.heap H locs) (hl : lv_has ls 3 [(0, .ref (a 0)), (1, .int x1)]) : W p l e rm_M_X11_define__0 s m args below meth c H locs 0 0 Q (F0 m 0 ls []) := by
  obtain ⟨hx, hb, hml, hown, hts, hN, hK, hD, hA⟩ := id C
  have hf : (fb_b (f_M_X11_isCell t x1) fun v_2 t_1 => (if v_2 = 0 then b_M_X11_define__0_7 t_1 else b_M_X11_define__0_9 t_1 x1)) = some (r, u) := hf
  refine lv_iload_n hx hb dX11_define_0 rfl (lv_at hl 1 rfl) ?_
  obtain ⟨v_2, t_1, g_1, hf⟩ := fb_bs hf
  refine fw_S1 (As := [.int x1]) (rest := []) (n := 1) C (c_M_X11_isCell (l := l) (D := D) (ca := ca) (a := a) g_1) kw_1437 kw_1438 kw_102 kw_1439 hP hS hl rfl rfl (by decide) (by decide +kernel) ⟨Nat.le_of_ble_eq_true rfl, Nat.le_of_ble_eq_true rfl⟩ rfl rfl (Nat.le_of_ble_eq_true rfl) dX11_define_1 (fun H locs hP hS => ?_)
  refine W.eq (g2 := F0 m 4 ls [.int v_2]) rfl ?_
  refine lv_if_ne (tgt := 9) hx hb dX11_define_4 (by decide) (fun h_4 => ?_) (fun h_4 => ?_)
  · have hf := fb_f h_4 hf
    exact w_M_X11_define__0_9 C hr hf hP hS (lv_sub hl [0, 1] rfl)
  · have hf := fb_t h_4 hf
    exact w_M_X11_define__0_7 C hr hf hP hS (lv_sub hl [] rfl)
set_option maxRecDepth 20000 in
theorem c_M_X11_define__0 {l : Launch} {D : va_G} {ca : Nat → ClassId} {a : Nat → Nat} {t : fw_S} {x1 : Int32} {u : fw_S} {r : Int32} (hf : f_M_X11_define__0 t x1 = some (r, u)) : MC (WM ca a) D (tyv ca) l yX11_define (.code yX11_define prog_13_method_44_code 3 (some .int) :: lw_gd) rm_M_X11_define__0 [.ref (a 0), .int x1] (some (.int r)) t u := by
  refine fw_met (okM ca a) (by decide +kernel) rfl rfl (Nat.le_of_ble_eq_true rfl) ?_
  intro p e s m args below meth c A Q ls C hr hk hP hS hl hQ
  exact w_M_X11_define__0_0 C (fun _ => fw_ri C hr hk hQ) hf hP hS (lv_sub hl [0, 1] rfl)
/-! ReactiveSheetModel.drop(I)I ['m'] -/
abbrev rm_M_X11_drop__0 : Room := { frames := 5, cells := 0, slots := 0, locals := 110 }
def b_M_X11_drop__0_19  (t : fw_S) (z0 : Int32) : Option (Int32 × fw_S) := some (z0, t)
def b_M_X11_drop__0_11  (t : fw_S) (x1 : Int32) : Option (Int32 × fw_S) := fb_b (f_M_X11_told__0 t x1 ((0 : Int32)) ((0 : Int64)) ((0 : Int32))) fun v_2 t_1 => (b_M_X11_drop__0_19 t_1 v_2)
def b_M_X11_drop__0_7  (t : fw_S)  : Option (Int32 × fw_S) := b_M_X11_drop__0_19 t ((-1 : Int32))
def b_M_X11_drop__0_0  (t : fw_S) (x1 : Int32) : Option (Int32 × fw_S) := fb_b (f_M_X11_isCell t x1) fun v_2 t_1 => (if v_2 = 0 then b_M_X11_drop__0_7 t_1 else b_M_X11_drop__0_11 t_1 x1)
def f_M_X11_drop__0 (t : fw_S) (x1 : Int32) : Option (Int32 × fw_S) := b_M_X11_drop__0_0 t x1
set_option maxRecDepth 20000 in
theorem w_M_X11_drop__0_19 {p : Program} {l : Launch} {e : Env} {s : State} {m : MethodId} {args : Array Value} {below : List Frame} {meth : Method} {c : Code} {A : Nat → Prop} {Q : State → Prop} {D : va_G} {ca : Nat → ClassId} {a : Nat → Nat} {u : fw_S} {r : Int32}  (C : CX (WM ca a) D (tyv ca) p s m args c A prog_13_method_45_code 2 RX11) (hr : True → RX (WM ca a) D p l e rm_M_X11_drop__0 s m args below meth c A prog_13_method_45_code Q .ireturn [.int r] u) {t : fw_S} {z0 : Int32} {H : Heap} {locs : List Loc} {ls : Array Slot} (hf : b_M_X11_drop__0_19  t z0 = some (r, u)) (hP : va_P D classes (WM ca a t) H) (hS : va_S A s.heap H locs) (hl : lv_has ls 2 []) : W p l e rm_M_X11_drop__0 s m args below meth c H locs 0 0 Q (F0 m 19 ls [.int z0]) := by
  obtain ⟨hx, hb, hml, hown, hts, hN, hK, hD, hA⟩ := id C
  have hf : (some (z0, t)) = some (r, u) := hf
  obtain ⟨e_19, e2_19⟩ := fb_e hf
  subst e_19; subst e2_19
  exact hr trivial _ _ _ _ hP hS dX11_drop_19
set_option maxRecDepth 20000 in
theorem w_M_X11_drop__0_11 {p : Program} {l : Launch} {e : Env} {s : State} {m : MethodId} {args : Array Value} {below : List Frame} {meth : Method} {c : Code} {A : Nat → Prop} {Q : State → Prop} {D : va_G} {ca : Nat → ClassId} {a : Nat → Nat} {u : fw_S} {r : Int32}  (C : CX (WM ca a) D (tyv ca) p s m args c A prog_13_method_45_code 2 RX11) (hr : True → RX (WM ca a) D p l e rm_M_X11_drop__0 s m args below meth c A prog_13_method_45_code Q .ireturn [.int r] u) {t : fw_S} {x1 : Int32} {H : Heap} {locs : List Loc} {ls : Array Slot} (hf : b_M_X11_drop__0_11  t x1 = some (r, u)) (hP : va_P D classes (WM ca a t) H) (hS : va_S A s.heap H locs) (hl : lv_has ls 2 [(0, .ref (a 0)), (1, .int x1)]) : W p l e rm_M_X11_drop__0 s m args below meth c H locs 0 0 Q (F0 m 11 ls []) := by
  obtain ⟨hx, hb, hml, hown, hts, hN, hK, hD, hA⟩ := id C
  have hf : (fb_b (f_M_X11_told__0 t x1 ((0 : Int32)) ((0 : Int64)) ((0 : Int32))) fun v_2 t_1 => (b_M_X11_drop__0_19 t_1 v_2)) = some (r, u) := hf
  refine lv_aload_n hx hb dX11_drop_11 rfl (lv_at hl 0 rfl) ?_
  refine lv_iload_n hx hb dX11_drop_12 rfl (lv_at hl 1 rfl) ?_
  refine lv_iconst (v := 0) hx hb dX11_drop_13 (by decide) ?_
  refine lv_lconst (v := 0) hx hb dX11_drop_14 (by decide) ?_
  refine lv_iconst (v := 0) hx hb dX11_drop_15 (by decide) ?_
  obtain ⟨v_2, t_1, g_16, hf⟩ := fb_bs hf
  refine fw_V1 (As := [.int x1, .int ((0 : Int32)), .long ((0 : Int64)), .int ((0 : Int32))]) (rest := []) (n := 4) (q0 := 0) C (c_M_X11_told__0 (l := l) (D := D) (ca := ca) (a := a) g_16) kw_1440 kw_1442 kw_102 kw_1443 kw_44 hP hS hl (heM_0 ca a t) rfl rfl rfl (by decide) (by decide +kernel) ⟨Nat.le_of_ble_eq_true rfl, Nat.le_of_ble_eq_true rfl⟩ rfl rfl (Nat.le_of_ble_eq_true rfl) dX11_drop_16 (fun H locs hP hS => ?_)
  refine W.eq (g2 := F0 m 19 ls [.int v_2]) rfl ?_
  exact w_M_X11_drop__0_19 C hr hf hP hS (lv_sub hl [] rfl)
set_option maxRecDepth 20000 in
theorem w_M_X11_drop__0_7 {p : Program} {l : Launch} {e : Env} {s : State} {m : MethodId} {args : Array Value} {below : List Frame} {meth : Method} {c : Code} {A : Nat → Prop} {Q : State → Prop} {D : va_G} {ca : Nat → ClassId} {a : Nat → Nat} {u : fw_S} {r : Int32}  (C : CX (WM ca a) D (tyv ca) p s m args c A prog_13_method_45_code 2 RX11) (hr : True → RX (WM ca a) D p l e rm_M_X11_drop__0 s m args below meth c A prog_13_method_45_code Q .ireturn [.int r] u) {t : fw_S}  {H : Heap} {locs : List Loc} {ls : Array Slot} (hf : b_M_X11_drop__0_7  t  = some (r, u)) (hP : va_P D classes (WM ca a t) H) (hS : va_S A s.heap H locs) (hl : lv_has ls 2 []) : W p l e rm_M_X11_drop__0 s m args below meth c H locs 0 0 Q (F0 m 7 ls []) := by
  obtain ⟨hx, hb, hml, hown, hts, hN, hK, hD, hA⟩ := id C
  have hf : (b_M_X11_drop__0_19 t ((-1 : Int32))) = some (r, u) := hf
  refine lv_iconst (v := (-1)) hx hb dX11_drop_7 (by decide) ?_
  refine lv_goto (tgt := 19) hx hb dX11_drop_8 (by decide) ?_
  exact w_M_X11_drop__0_19 C hr hf hP hS (lv_sub hl [] rfl)
set_option maxRecDepth 20000 in
theorem w_M_X11_drop__0_0 {p : Program} {l : Launch} {e : Env} {s : State} {m : MethodId} {args : Array Value} {below : List Frame} {meth : Method} {c : Code} {A : Nat → Prop} {Q : State → Prop} {D : va_G} {ca : Nat → ClassId} {a : Nat → Nat} {u : fw_S} {r : Int32}  (C : CX (WM ca a) D (tyv ca) p s m args c A prog_13_method_45_code 2 RX11) (hr : True → RX (WM ca a) D p l e rm_M_X11_drop__0 s m args below meth c A prog_13_method_45_code Q .ireturn [.int r] u) {t : fw_S} {x1 : Int32} {H : Heap} {locs : List Loc} {ls : Array Slot} (hf : b_M_X11_drop__0_0  t x1 = some (r, u)) (hP : va_P D classes (WM ca a t) H) (hS : va_S A s.heap H locs) (hl : lv_has ls 2 [(0, .ref (a 0)), (1, .int x1)]) : W p l e rm_M_X11_drop__0 s m args below meth c H locs 0 0 Q (F0 m 0 ls []) := by
  obtain ⟨hx, hb, hml, hown, hts, hN, hK, hD, hA⟩ := id C
  have hf : (fb_b (f_M_X11_isCell t x1) fun v_2 t_1 => (if v_2 = 0 then b_M_X11_drop__0_7 t_1 else b_M_X11_drop__0_11 t_1 x1)) = some (r, u) := hf
  refine lv_iload_n hx hb dX11_drop_0 rfl (lv_at hl 1 rfl) ?_
  obtain ⟨v_2, t_1, g_1, hf⟩ := fb_bs hf
  refine fw_S1 (As := [.int x1]) (rest := []) (n := 1) C (c_M_X11_isCell (l := l) (D := D) (ca := ca) (a := a) g_1) kw_1437 kw_1438 kw_102 kw_1439 hP hS hl rfl rfl (by decide) (by decide +kernel) ⟨Nat.le_of_ble_eq_true rfl, Nat.le_of_ble_eq_true rfl⟩ rfl rfl (Nat.le_of_ble_eq_true rfl) dX11_drop_1 (fun H locs hP hS => ?_)
  refine W.eq (g2 := F0 m 4 ls [.int v_2]) rfl ?_
  refine lv_if_ne (tgt := 11) hx hb dX11_drop_4 (by decide) (fun h_4 => ?_) (fun h_4 => ?_)
  · have hf := fb_f h_4 hf
    exact w_M_X11_drop__0_11 C hr hf hP hS (lv_sub hl [0, 1] rfl)
  · have hf := fb_t h_4 hf
    exact w_M_X11_drop__0_7 C hr hf hP hS (lv_sub hl [] rfl)
set_option maxRecDepth 20000 in
theorem c_M_X11_drop__0 {l : Launch} {D : va_G} {ca : Nat → ClassId} {a : Nat → Nat} {t : fw_S} {x1 : Int32} {u : fw_S} {r : Int32} (hf : f_M_X11_drop__0 t x1 = some (r, u)) : MC (WM ca a) D (tyv ca) l yX11_drop (.code yX11_drop prog_13_method_45_code 2 (some .int) :: lw_gd) rm_M_X11_drop__0 [.ref (a 0), .int x1] (some (.int r)) t u := by
  refine fw_met (okM ca a) (by decide +kernel) rfl rfl (Nat.le_of_ble_eq_true rfl) ?_
  intro p e s m args below meth c A Q ls C hr hk hP hS hl hQ
  exact w_M_X11_drop__0_0 C (fun _ => fw_ri C hr hk hQ) hf hP hS (lv_sub hl [0, 1] rfl)
/-! ReactiveSheetModel.copy(II)I ['m'] -/
abbrev rm_M_X11_copy__0 : Room := { frames := 2, cells := 0, slots := 0, locals := 42 }
def b_M_X11_copy__0_14  (t : fw_S)  : Option (Int32 × fw_S) := some ((-1 : Int32), t)
def b_M_X11_copy__0_29  (t : fw_S) (x1 : Int32) (x2 : Int32) : Option (Int32 × fw_S) := fb_b (f_M_X11_ofCell t x1) fun v_2 t_1 => (fb_b (f_M_X11_ofTold t_1 x2) fun v_4 t_3 => (fb_v (f_M_X11_copies__0 t_3 v_2 v_4) fun t_5 => (fb_b (f_M_X11_ofTold t_5 x2) fun v_7 t_6 => (fb_g (¬ (x1 < 0 ∨ 32 ≤ x1.toNatClampNeg)) (none)))))
def b_M_X11_copy__0_26  (t : fw_S)  : Option (Int32 × fw_S) := some ((-3 : Int32), t)
def b_M_X11_copy__0_16  (t : fw_S) (x1 : Int32) (x2 : Int32) : Option (Int32 × fw_S) := fb_g (¬ (x1 < 0 ∨ 32 ≤ x1.toNatClampNeg)) (if (st_F t 0 x1.toNatClampNeg) = ((2 : Int32)) then b_M_X11_copy__0_29 t x1 x2 else b_M_X11_copy__0_26 t)
def b_M_X11_copy__0_7  (t : fw_S) (x1 : Int32) (x2 : Int32) : Option (Int32 × fw_S) := fb_b (f_M_X11_isCell t x2) fun v_2 t_1 => (if v_2 = 0 then b_M_X11_copy__0_14 t_1 else b_M_X11_copy__0_16 t_1 x1 x2)
def b_M_X11_copy__0_0  (t : fw_S) (x1 : Int32) (x2 : Int32) : Option (Int32 × fw_S) := fb_b (f_M_X11_isCell t x1) fun v_2 t_1 => (if v_2 = 0 then b_M_X11_copy__0_14 t_1 else b_M_X11_copy__0_7 t_1 x1 x2)
def f_M_X11_copy__0 (t : fw_S) (x1 : Int32) (x2 : Int32) : Option (Int32 × fw_S) := b_M_X11_copy__0_0 t x1 x2
set_option maxRecDepth 20000 in
theorem w_M_X11_copy__0_14 {p : Program} {l : Launch} {e : Env} {s : State} {m : MethodId} {args : Array Value} {below : List Frame} {meth : Method} {c : Code} {A : Nat → Prop} {Q : State → Prop} {D : va_G} {ca : Nat → ClassId} {a : Nat → Nat} {u : fw_S} {r : Int32}  (C : CX (WM ca a) D (tyv ca) p s m args c A prog_13_method_46_code 4 RX11) (hr : True → RX (WM ca a) D p l e rm_M_X11_copy__0 s m args below meth c A prog_13_method_46_code Q .ireturn [.int r] u) {t : fw_S}  {H : Heap} {locs : List Loc} {ls : Array Slot} (hf : b_M_X11_copy__0_14  t  = some (r, u)) (hP : va_P D classes (WM ca a t) H) (hS : va_S A s.heap H locs) (hl : lv_has ls 4 []) : W p l e rm_M_X11_copy__0 s m args below meth c H locs 0 0 Q (F0 m 14 ls []) := by
  obtain ⟨hx, hb, hml, hown, hts, hN, hK, hD, hA⟩ := id C
  have hf : (some ((-1 : Int32), t)) = some (r, u) := hf
  refine lv_iconst (v := (-1)) hx hb dX11_copy_14 (by decide) ?_
  obtain ⟨e_15, e2_15⟩ := fb_e hf
  subst e_15; subst e2_15
  exact hr trivial _ _ _ _ hP hS dX11_copy_15
set_option maxRecDepth 20000 in
theorem w_M_X11_copy__0_29 {p : Program} {l : Launch} {e : Env} {s : State} {m : MethodId} {args : Array Value} {below : List Frame} {meth : Method} {c : Code} {A : Nat → Prop} {Q : State → Prop} {D : va_G} {ca : Nat → ClassId} {a : Nat → Nat} {u : fw_S} {r : Int32}  (C : CX (WM ca a) D (tyv ca) p s m args c A prog_13_method_46_code 4 RX11) (hr : True → RX (WM ca a) D p l e rm_M_X11_copy__0 s m args below meth c A prog_13_method_46_code Q .ireturn [.int r] u) {t : fw_S} {x1 : Int32} {x2 : Int32} {H : Heap} {locs : List Loc} {ls : Array Slot} (hf : b_M_X11_copy__0_29  t x1 x2 = some (r, u)) (hP : va_P D classes (WM ca a t) H) (hS : va_S A s.heap H locs) (hl : lv_has ls 4 [(0, .ref (a 0)), (1, .int x1), (2, .int x2)]) : W p l e rm_M_X11_copy__0 s m args below meth c H locs 0 0 Q (F0 m 29 ls []) := by
  obtain ⟨hx, hb, hml, hown, hts, hN, hK, hD, hA⟩ := id C
  have hf : (fb_b (f_M_X11_ofCell t x1) fun v_2 t_1 => (fb_b (f_M_X11_ofTold t_1 x2) fun v_4 t_3 => (fb_v (f_M_X11_copies__0 t_3 v_2 v_4) fun t_5 => (fb_b (f_M_X11_ofTold t_5 x2) fun v_7 t_6 => (fb_g (¬ (x1 < 0 ∨ 32 ≤ x1.toNatClampNeg)) (none)))))) = some (r, u) := hf
  refine lv_aload_n hx hb dX11_copy_29 rfl (lv_at hl 0 rfl) ?_
  refine lv_iload_n hx hb dX11_copy_30 rfl (lv_at hl 1 rfl) ?_
  obtain ⟨v_2, t_1, g_31, hf⟩ := fb_bs hf
  refine fw_S1 (As := [.int x1]) (rest := [.ref (a 0)]) (n := 1) C (c_M_X11_ofCell (l := l) (D := D) (ca := ca) (a := a) g_31) kw_1468 kw_1469 kw_102 kw_1470 hP hS hl rfl rfl (by decide) (by decide +kernel) ⟨Nat.le_of_ble_eq_true rfl, Nat.le_of_ble_eq_true rfl⟩ rfl rfl (Nat.le_of_ble_eq_true rfl) dX11_copy_31 (fun H locs hP hS => ?_)
  refine W.eq (g2 := F0 m 34 ls [.int v_2, .ref (a 0)]) rfl ?_
  refine lv_iload_n hx hb dX11_copy_34 rfl (lv_at hl 2 rfl) ?_
  obtain ⟨v_4, t_3, g_35, hf⟩ := fb_bs hf
  refine fw_S1 (As := [.int x2]) (rest := [.int v_2, .ref (a 0)]) (n := 1) C (c_M_X11_ofTold (l := l) (D := D) (ca := ca) (a := a) g_35) kw_1471 kw_1472 kw_102 kw_1473 hP hS hl rfl rfl (by decide) (by decide +kernel) ⟨Nat.le_of_ble_eq_true rfl, Nat.le_of_ble_eq_true rfl⟩ rfl rfl (Nat.le_of_ble_eq_true rfl) dX11_copy_35 (fun H locs hP hS => ?_)
  refine W.eq (g2 := F0 m 38 ls [.int v_4, .int v_2, .ref (a 0)]) rfl ?_
  obtain ⟨t_5, g_38, hf⟩ := fb_vs hf
  refine fw_V1 (As := [.int v_2, .int v_4]) (rest := []) (n := 2) (q0 := 0) C (c_M_X11_copies__0 (l := l) (D := D) (ca := ca) (a := a) g_38) kw_1535 kw_1537 kw_102 kw_1538 kw_64 hP hS hl (heM_0 ca a t_3) rfl rfl rfl (by decide) (by decide +kernel) ⟨Nat.le_of_ble_eq_true rfl, Nat.le_of_ble_eq_true rfl⟩ rfl rfl (Nat.le_of_ble_eq_true rfl) dX11_copy_38 (fun H locs hP hS => ?_)
  refine W.eq (g2 := F0 m 41 ls []) rfl ?_
  refine lv_iload_n hx hb dX11_copy_41 rfl (lv_at hl 2 rfl) ?_
  obtain ⟨v_7, t_6, g_42, hf⟩ := fb_bs hf
  refine fw_S1 (As := [.int x2]) (rest := []) (n := 1) C (c_M_X11_ofTold (l := l) (D := D) (ca := ca) (a := a) g_42) kw_1471 kw_1472 kw_102 kw_1473 hP hS hl rfl rfl (by decide) (by decide +kernel) ⟨Nat.le_of_ble_eq_true rfl, Nat.le_of_ble_eq_true rfl⟩ rfl rfl (Nat.le_of_ble_eq_true rfl) dX11_copy_42 (fun H locs hP hS => ?_)
  refine W.eq (g2 := F0 m 45 ls [.int v_7]) rfl ?_
  refine lv_istore_n (lv' := [(3, .int v_7), (0, .ref (a 0)), (1, .int x1), (2, .int x2)]) hx hb dX11_copy_45 rfl hl (by decide) rfl (fun ls hl => ?_)
  refine lv_aload_n hx hb dX11_copy_46 rfl (lv_at hl 1 rfl) ?_
  refine lv_iload_n hx hb dX11_copy_47 rfl (lv_at hl 0 rfl) ?_
  refine lv_aload_n hx hb dX11_copy_48 rfl (lv_at hl 1 rfl) ?_
  refine va_get (D := D) (ci := 11) (v := .ref (a 6)) (C := RX11) (T := TX11) (N := 76) hx hb hts inX11 hown hK hP 0 (heM_0 ca a t_6) rfl 5 (by decide) (hts _ kw_1197) (fun _ h9 => h9) rfl dX11_copy_49 ?_
  refine lv_iload_n hx hb dX11_copy_52 rfl (lv_at hl 2 rfl) ?_
  obtain ⟨h_53, hf⟩ := fb_if hf
  refine va_iald hx hb hK hP 6 0 (haM_6 ca a t_6) rfl h_53 dX11_copy_53 ?_
  refine lv_iload_n hx hb dX11_copy_54 rfl (lv_at hl 3 rfl) ?_
  refine lv_iload_n hx hb dX11_copy_55 rfl (lv_at hl 2 rfl) ?_
  refine lv_isub hx hb dX11_copy_56 ?_
  cases hf
set_option maxRecDepth 20000 in
theorem w_M_X11_copy__0_26 {p : Program} {l : Launch} {e : Env} {s : State} {m : MethodId} {args : Array Value} {below : List Frame} {meth : Method} {c : Code} {A : Nat → Prop} {Q : State → Prop} {D : va_G} {ca : Nat → ClassId} {a : Nat → Nat} {u : fw_S} {r : Int32}  (C : CX (WM ca a) D (tyv ca) p s m args c A prog_13_method_46_code 4 RX11) (hr : True → RX (WM ca a) D p l e rm_M_X11_copy__0 s m args below meth c A prog_13_method_46_code Q .ireturn [.int r] u) {t : fw_S}  {H : Heap} {locs : List Loc} {ls : Array Slot} (hf : b_M_X11_copy__0_26  t  = some (r, u)) (hP : va_P D classes (WM ca a t) H) (hS : va_S A s.heap H locs) (hl : lv_has ls 4 []) : W p l e rm_M_X11_copy__0 s m args below meth c H locs 0 0 Q (F0 m 26 ls []) := by
  obtain ⟨hx, hb, hml, hown, hts, hN, hK, hD, hA⟩ := id C
  have hf : (some ((-3 : Int32), t)) = some (r, u) := hf
  refine lv_bipush (v := (-3)) hx hb dX11_copy_26 (by decide) ?_
  obtain ⟨e_28, e2_28⟩ := fb_e hf
  subst e_28; subst e2_28
  exact hr trivial _ _ _ _ hP hS dX11_copy_28
set_option maxRecDepth 20000 in
theorem w_M_X11_copy__0_16 {p : Program} {l : Launch} {e : Env} {s : State} {m : MethodId} {args : Array Value} {below : List Frame} {meth : Method} {c : Code} {A : Nat → Prop} {Q : State → Prop} {D : va_G} {ca : Nat → ClassId} {a : Nat → Nat} {u : fw_S} {r : Int32}  (C : CX (WM ca a) D (tyv ca) p s m args c A prog_13_method_46_code 4 RX11) (hr : True → RX (WM ca a) D p l e rm_M_X11_copy__0 s m args below meth c A prog_13_method_46_code Q .ireturn [.int r] u) {t : fw_S} {x1 : Int32} {x2 : Int32} {H : Heap} {locs : List Loc} {ls : Array Slot} (hf : b_M_X11_copy__0_16  t x1 x2 = some (r, u)) (hP : va_P D classes (WM ca a t) H) (hS : va_S A s.heap H locs) (hl : lv_has ls 4 [(0, .ref (a 0)), (1, .int x1), (2, .int x2)]) : W p l e rm_M_X11_copy__0 s m args below meth c H locs 0 0 Q (F0 m 16 ls []) := by
  obtain ⟨hx, hb, hml, hown, hts, hN, hK, hD, hA⟩ := id C
  have hf : (fb_g (¬ (x1 < 0 ∨ 32 ≤ x1.toNatClampNeg)) (if (st_F t 0 x1.toNatClampNeg) = ((2 : Int32)) then b_M_X11_copy__0_29 t x1 x2 else b_M_X11_copy__0_26 t)) = some (r, u) := hf
  refine lv_aload_n hx hb dX11_copy_16 rfl (lv_at hl 0 rfl) ?_
  refine va_get (D := D) (ci := 11) (v := .ref (a 1)) (C := RX11) (T := TX11) (N := 76) hx hb hts inX11 hown hK hP 0 (heM_0 ca a t) rfl 0 (by decide) (hts _ kw_1192) (fun _ h9 => h9) rfl dX11_copy_17 ?_
  refine lv_iload_n hx hb dX11_copy_20 rfl (lv_at hl 1 rfl) ?_
  obtain ⟨h_21, hf⟩ := fb_if hf
  refine va_iald hx hb hK hP 1 0 (haM_1 ca a t) rfl h_21 dX11_copy_21 ?_
  refine lv_iconst (v := 2) hx hb dX11_copy_22 (by decide) ?_
  refine lv_icmp_eq (tgt := 29) hx hb dX11_copy_23 (by decide) (fun h_23 => ?_) (fun h_23 => ?_)
  · have hf := fb_t h_23 hf
    exact w_M_X11_copy__0_29 C hr hf hP hS (lv_sub hl [0, 1, 2] rfl)
  · have hf := fb_f h_23 hf
    exact w_M_X11_copy__0_26 C hr hf hP hS (lv_sub hl [] rfl)
set_option maxRecDepth 20000 in
theorem w_M_X11_copy__0_7 {p : Program} {l : Launch} {e : Env} {s : State} {m : MethodId} {args : Array Value} {below : List Frame} {meth : Method} {c : Code} {A : Nat → Prop} {Q : State → Prop} {D : va_G} {ca : Nat → ClassId} {a : Nat → Nat} {u : fw_S} {r : Int32}  (C : CX (WM ca a) D (tyv ca) p s m args c A prog_13_method_46_code 4 RX11) (hr : True → RX (WM ca a) D p l e rm_M_X11_copy__0 s m args below meth c A prog_13_method_46_code Q .ireturn [.int r] u) {t : fw_S} {x1 : Int32} {x2 : Int32} {H : Heap} {locs : List Loc} {ls : Array Slot} (hf : b_M_X11_copy__0_7  t x1 x2 = some (r, u)) (hP : va_P D classes (WM ca a t) H) (hS : va_S A s.heap H locs) (hl : lv_has ls 4 [(0, .ref (a 0)), (1, .int x1), (2, .int x2)]) : W p l e rm_M_X11_copy__0 s m args below meth c H locs 0 0 Q (F0 m 7 ls []) := by
  obtain ⟨hx, hb, hml, hown, hts, hN, hK, hD, hA⟩ := id C
  have hf : (fb_b (f_M_X11_isCell t x2) fun v_2 t_1 => (if v_2 = 0 then b_M_X11_copy__0_14 t_1 else b_M_X11_copy__0_16 t_1 x1 x2)) = some (r, u) := hf
  refine lv_iload_n hx hb dX11_copy_7 rfl (lv_at hl 2 rfl) ?_
  obtain ⟨v_2, t_1, g_8, hf⟩ := fb_bs hf
  refine fw_S1 (As := [.int x2]) (rest := []) (n := 1) C (c_M_X11_isCell (l := l) (D := D) (ca := ca) (a := a) g_8) kw_1437 kw_1438 kw_102 kw_1439 hP hS hl rfl rfl (by decide) (by decide +kernel) ⟨Nat.le_of_ble_eq_true rfl, Nat.le_of_ble_eq_true rfl⟩ rfl rfl (Nat.le_of_ble_eq_true rfl) dX11_copy_8 (fun H locs hP hS => ?_)
  refine W.eq (g2 := F0 m 11 ls [.int v_2]) rfl ?_
  refine lv_if_ne (tgt := 16) hx hb dX11_copy_11 (by decide) (fun h_11 => ?_) (fun h_11 => ?_)
  · have hf := fb_f h_11 hf
    exact w_M_X11_copy__0_16 C hr hf hP hS (lv_sub hl [0, 1, 2] rfl)
  · have hf := fb_t h_11 hf
    exact w_M_X11_copy__0_14 C hr hf hP hS (lv_sub hl [] rfl)
set_option maxRecDepth 20000 in
theorem w_M_X11_copy__0_0 {p : Program} {l : Launch} {e : Env} {s : State} {m : MethodId} {args : Array Value} {below : List Frame} {meth : Method} {c : Code} {A : Nat → Prop} {Q : State → Prop} {D : va_G} {ca : Nat → ClassId} {a : Nat → Nat} {u : fw_S} {r : Int32}  (C : CX (WM ca a) D (tyv ca) p s m args c A prog_13_method_46_code 4 RX11) (hr : True → RX (WM ca a) D p l e rm_M_X11_copy__0 s m args below meth c A prog_13_method_46_code Q .ireturn [.int r] u) {t : fw_S} {x1 : Int32} {x2 : Int32} {H : Heap} {locs : List Loc} {ls : Array Slot} (hf : b_M_X11_copy__0_0  t x1 x2 = some (r, u)) (hP : va_P D classes (WM ca a t) H) (hS : va_S A s.heap H locs) (hl : lv_has ls 4 [(0, .ref (a 0)), (1, .int x1), (2, .int x2)]) : W p l e rm_M_X11_copy__0 s m args below meth c H locs 0 0 Q (F0 m 0 ls []) := by
  obtain ⟨hx, hb, hml, hown, hts, hN, hK, hD, hA⟩ := id C
  have hf : (fb_b (f_M_X11_isCell t x1) fun v_2 t_1 => (if v_2 = 0 then b_M_X11_copy__0_14 t_1 else b_M_X11_copy__0_7 t_1 x1 x2)) = some (r, u) := hf
  refine lv_iload_n hx hb dX11_copy_0 rfl (lv_at hl 1 rfl) ?_
  obtain ⟨v_2, t_1, g_1, hf⟩ := fb_bs hf
  refine fw_S1 (As := [.int x1]) (rest := []) (n := 1) C (c_M_X11_isCell (l := l) (D := D) (ca := ca) (a := a) g_1) kw_1437 kw_1438 kw_102 kw_1439 hP hS hl rfl rfl (by decide) (by decide +kernel) ⟨Nat.le_of_ble_eq_true rfl, Nat.le_of_ble_eq_true rfl⟩ rfl rfl (Nat.le_of_ble_eq_true rfl) dX11_copy_1 (fun H locs hP hS => ?_)
  refine W.eq (g2 := F0 m 4 ls [.int v_2]) rfl ?_
  refine lv_if_eq (tgt := 14) hx hb dX11_copy_4 (by decide) (fun h_4 => ?_) (fun h_4 => ?_)
  · have hf := fb_t h_4 hf
    exact w_M_X11_copy__0_14 C hr hf hP hS (lv_sub hl [] rfl)
  · have hf := fb_f h_4 hf
    exact w_M_X11_copy__0_7 C hr hf hP hS (lv_sub hl [0, 1, 2] rfl)
set_option maxRecDepth 20000 in
theorem c_M_X11_copy__0 {l : Launch} {D : va_G} {ca : Nat → ClassId} {a : Nat → Nat} {t : fw_S} {x1 : Int32} {x2 : Int32} {u : fw_S} {r : Int32} (hf : f_M_X11_copy__0 t x1 x2 = some (r, u)) : MC (WM ca a) D (tyv ca) l yX11_copy (.code yX11_copy prog_13_method_46_code 4 (some .int) :: lw_gd) rm_M_X11_copy__0 [.ref (a 0), .int x1, .int x2] (some (.int r)) t u := by
  refine fw_met (okM ca a) (by decide +kernel) rfl rfl (Nat.le_of_ble_eq_true rfl) ?_
  intro p e s m args below meth c A Q ls C hr hk hP hS hl hQ
  exact w_M_X11_copy__0_0 C (fun _ => fw_ri C hr hk hQ) hf hP hS (lv_sub hl [0, 1, 2] rfl)
/-! ReactiveSheetModel.freeze(I)I ['m'] -/
abbrev rm_M_X11_freeze__0 : Room := { frames := 5, cells := 0, slots := 0, locals := 110 }
def b_M_X11_freeze__0_46  (t : fw_S) (z0 : Int32) : Option (Int32 × fw_S) := some (z0, t)
def b_M_X11_freeze__0_28  (t : fw_S)  : Option (Int32 × fw_S) := b_M_X11_freeze__0_46 t ((-3 : Int32))
def b_M_X11_freeze__0_33  (t : fw_S) (x1 : Int32) : Option (Int32 × fw_S) := fb_g (¬ (x1 < 0 ∨ 32 ≤ x1.toNatClampNeg)) (fb_b (f_M_X11_told__0 t x1 ((1 : Int32)) (st_G t 0 x1.toNatClampNeg) ((0 : Int32))) fun v_2 t_1 => (b_M_X11_freeze__0_46 t_1 v_2))
def b_M_X11_freeze__0_19  (t : fw_S) (x1 : Int32) : Option (Int32 × fw_S) := fb_g (¬ (x1 < 0 ∨ 32 ≤ x1.toNatClampNeg)) (if (st_F t 1 x1.toNatClampNeg) = 0 then b_M_X11_freeze__0_33 t x1 else b_M_X11_freeze__0_28 t)
def b_M_X11_freeze__0_9  (t : fw_S) (x1 : Int32) : Option (Int32 × fw_S) := fb_g (¬ (x1 < 0 ∨ 32 ≤ x1.toNatClampNeg)) (if (st_F t 0 x1.toNatClampNeg) = ((2 : Int32)) then b_M_X11_freeze__0_19 t x1 else b_M_X11_freeze__0_28 t)
def b_M_X11_freeze__0_7  (t : fw_S)  : Option (Int32 × fw_S) := some ((-1 : Int32), t)
def b_M_X11_freeze__0_0  (t : fw_S) (x1 : Int32) : Option (Int32 × fw_S) := fb_b (f_M_X11_isCell t x1) fun v_2 t_1 => (if v_2 = 0 then b_M_X11_freeze__0_7 t_1 else b_M_X11_freeze__0_9 t_1 x1)
def f_M_X11_freeze__0 (t : fw_S) (x1 : Int32) : Option (Int32 × fw_S) := b_M_X11_freeze__0_0 t x1
set_option maxRecDepth 20000 in
theorem w_M_X11_freeze__0_46 {p : Program} {l : Launch} {e : Env} {s : State} {m : MethodId} {args : Array Value} {below : List Frame} {meth : Method} {c : Code} {A : Nat → Prop} {Q : State → Prop} {D : va_G} {ca : Nat → ClassId} {a : Nat → Nat} {u : fw_S} {r : Int32}  (C : CX (WM ca a) D (tyv ca) p s m args c A prog_13_method_48_code 2 RX11) (hr : True → RX (WM ca a) D p l e rm_M_X11_freeze__0 s m args below meth c A prog_13_method_48_code Q .ireturn [.int r] u) {t : fw_S} {z0 : Int32} {H : Heap} {locs : List Loc} {ls : Array Slot} (hf : b_M_X11_freeze__0_46  t z0 = some (r, u)) (hP : va_P D classes (WM ca a t) H) (hS : va_S A s.heap H locs) (hl : lv_has ls 2 []) : W p l e rm_M_X11_freeze__0 s m args below meth c H locs 0 0 Q (F0 m 46 ls [.int z0]) := by
  obtain ⟨hx, hb, hml, hown, hts, hN, hK, hD, hA⟩ := id C
  have hf : (some (z0, t)) = some (r, u) := hf
  obtain ⟨e_46, e2_46⟩ := fb_e hf
  subst e_46; subst e2_46
  exact hr trivial _ _ _ _ hP hS dX11_freeze_46
set_option maxRecDepth 20000 in
theorem w_M_X11_freeze__0_28 {p : Program} {l : Launch} {e : Env} {s : State} {m : MethodId} {args : Array Value} {below : List Frame} {meth : Method} {c : Code} {A : Nat → Prop} {Q : State → Prop} {D : va_G} {ca : Nat → ClassId} {a : Nat → Nat} {u : fw_S} {r : Int32}  (C : CX (WM ca a) D (tyv ca) p s m args c A prog_13_method_48_code 2 RX11) (hr : True → RX (WM ca a) D p l e rm_M_X11_freeze__0 s m args below meth c A prog_13_method_48_code Q .ireturn [.int r] u) {t : fw_S}  {H : Heap} {locs : List Loc} {ls : Array Slot} (hf : b_M_X11_freeze__0_28  t  = some (r, u)) (hP : va_P D classes (WM ca a t) H) (hS : va_S A s.heap H locs) (hl : lv_has ls 2 []) : W p l e rm_M_X11_freeze__0 s m args below meth c H locs 0 0 Q (F0 m 28 ls []) := by
  obtain ⟨hx, hb, hml, hown, hts, hN, hK, hD, hA⟩ := id C
  have hf : (b_M_X11_freeze__0_46 t ((-3 : Int32))) = some (r, u) := hf
  refine lv_bipush (v := (-3)) hx hb dX11_freeze_28 (by decide) ?_
  refine lv_goto (tgt := 46) hx hb dX11_freeze_30 (by decide) ?_
  exact w_M_X11_freeze__0_46 C hr hf hP hS (lv_sub hl [] rfl)
set_option maxRecDepth 20000 in
theorem w_M_X11_freeze__0_33 {p : Program} {l : Launch} {e : Env} {s : State} {m : MethodId} {args : Array Value} {below : List Frame} {meth : Method} {c : Code} {A : Nat → Prop} {Q : State → Prop} {D : va_G} {ca : Nat → ClassId} {a : Nat → Nat} {u : fw_S} {r : Int32}  (C : CX (WM ca a) D (tyv ca) p s m args c A prog_13_method_48_code 2 RX11) (hr : True → RX (WM ca a) D p l e rm_M_X11_freeze__0 s m args below meth c A prog_13_method_48_code Q .ireturn [.int r] u) {t : fw_S} {x1 : Int32} {H : Heap} {locs : List Loc} {ls : Array Slot} (hf : b_M_X11_freeze__0_33  t x1 = some (r, u)) (hP : va_P D classes (WM ca a t) H) (hS : va_S A s.heap H locs) (hl : lv_has ls 2 [(0, .ref (a 0)), (1, .int x1)]) : W p l e rm_M_X11_freeze__0 s m args below meth c H locs 0 0 Q (F0 m 33 ls []) := by
  obtain ⟨hx, hb, hml, hown, hts, hN, hK, hD, hA⟩ := id C
  have hf : (fb_g (¬ (x1 < 0 ∨ 32 ≤ x1.toNatClampNeg)) (fb_b (f_M_X11_told__0 t x1 ((1 : Int32)) (st_G t 0 x1.toNatClampNeg) ((0 : Int32))) fun v_2 t_1 => (b_M_X11_freeze__0_46 t_1 v_2))) = some (r, u) := hf
  refine lv_aload_n hx hb dX11_freeze_33 rfl (lv_at hl 0 rfl) ?_
  refine lv_iload_n hx hb dX11_freeze_34 rfl (lv_at hl 1 rfl) ?_
  refine lv_iconst (v := 1) hx hb dX11_freeze_35 (by decide) ?_
  refine lv_aload_n hx hb dX11_freeze_36 rfl (lv_at hl 0 rfl) ?_
  refine va_get (D := D) (ci := 11) (v := .ref (a 7)) (C := RX11) (T := TX11) (N := 76) hx hb hts inX11 hown hK hP 0 (heM_0 ca a t) rfl 6 (by decide) (hts _ kw_1198) (fun _ h9 => h9) rfl dX11_freeze_37 ?_
  refine lv_iload_n hx hb dX11_freeze_40 rfl (lv_at hl 1 rfl) ?_
  obtain ⟨h_41, hf⟩ := fb_if hf
  refine va_lald hx hb hK hP 7 1 (haM_7 ca a t) rfl h_41 dX11_freeze_41 ?_
  refine lv_iconst (v := 0) hx hb dX11_freeze_42 (by decide) ?_
  obtain ⟨v_2, t_1, g_43, hf⟩ := fb_bs hf
  refine fw_V1 (As := [.int x1, .int ((1 : Int32)), .long (st_G t 0 x1.toNatClampNeg), .int ((0 : Int32))]) (rest := []) (n := 4) (q0 := 0) C (c_M_X11_told__0 (l := l) (D := D) (ca := ca) (a := a) g_43) kw_1440 kw_1442 kw_102 kw_1443 kw_44 hP hS hl (heM_0 ca a t) rfl rfl rfl (by decide) (by decide +kernel) ⟨Nat.le_of_ble_eq_true rfl, Nat.le_of_ble_eq_true rfl⟩ rfl rfl (Nat.le_of_ble_eq_true rfl) dX11_freeze_43 (fun H locs hP hS => ?_)
  refine W.eq (g2 := F0 m 46 ls [.int v_2]) rfl ?_
  exact w_M_X11_freeze__0_46 C hr hf hP hS (lv_sub hl [] rfl)
set_option maxRecDepth 20000 in
theorem w_M_X11_freeze__0_19 {p : Program} {l : Launch} {e : Env} {s : State} {m : MethodId} {args : Array Value} {below : List Frame} {meth : Method} {c : Code} {A : Nat → Prop} {Q : State → Prop} {D : va_G} {ca : Nat → ClassId} {a : Nat → Nat} {u : fw_S} {r : Int32}  (C : CX (WM ca a) D (tyv ca) p s m args c A prog_13_method_48_code 2 RX11) (hr : True → RX (WM ca a) D p l e rm_M_X11_freeze__0 s m args below meth c A prog_13_method_48_code Q .ireturn [.int r] u) {t : fw_S} {x1 : Int32} {H : Heap} {locs : List Loc} {ls : Array Slot} (hf : b_M_X11_freeze__0_19  t x1 = some (r, u)) (hP : va_P D classes (WM ca a t) H) (hS : va_S A s.heap H locs) (hl : lv_has ls 2 [(0, .ref (a 0)), (1, .int x1)]) : W p l e rm_M_X11_freeze__0 s m args below meth c H locs 0 0 Q (F0 m 19 ls []) := by
  obtain ⟨hx, hb, hml, hown, hts, hN, hK, hD, hA⟩ := id C
  have hf : (fb_g (¬ (x1 < 0 ∨ 32 ≤ x1.toNatClampNeg)) (if (st_F t 1 x1.toNatClampNeg) = 0 then b_M_X11_freeze__0_33 t x1 else b_M_X11_freeze__0_28 t)) = some (r, u) := hf
  refine lv_aload_n hx hb dX11_freeze_19 rfl (lv_at hl 0 rfl) ?_
  refine va_get (D := D) (ci := 11) (v := .ref (a 2)) (C := RX11) (T := TX11) (N := 76) hx hb hts inX11 hown hK hP 0 (heM_0 ca a t) rfl 1 (by decide) (hts _ kw_1193) (fun _ h9 => h9) rfl dX11_freeze_20 ?_
  refine lv_iload_n hx hb dX11_freeze_23 rfl (lv_at hl 1 rfl) ?_
  obtain ⟨h_24, hf⟩ := fb_if hf
  refine va_iald hx hb hK hP 2 0 (haM_2 ca a t) rfl h_24 dX11_freeze_24 ?_
  refine lv_if_eq (tgt := 33) hx hb dX11_freeze_25 (by decide) (fun h_25 => ?_) (fun h_25 => ?_)
  · have hf := fb_t h_25 hf
    exact w_M_X11_freeze__0_33 C hr hf hP hS (lv_sub hl [0, 1] rfl)
  · have hf := fb_f h_25 hf
    exact w_M_X11_freeze__0_28 C hr hf hP hS (lv_sub hl [] rfl)
set_option maxRecDepth 20000 in
theorem w_M_X11_freeze__0_9 {p : Program} {l : Launch} {e : Env} {s : State} {m : MethodId} {args : Array Value} {below : List Frame} {meth : Method} {c : Code} {A : Nat → Prop} {Q : State → Prop} {D : va_G} {ca : Nat → ClassId} {a : Nat → Nat} {u : fw_S} {r : Int32}  (C : CX (WM ca a) D (tyv ca) p s m args c A prog_13_method_48_code 2 RX11) (hr : True → RX (WM ca a) D p l e rm_M_X11_freeze__0 s m args below meth c A prog_13_method_48_code Q .ireturn [.int r] u) {t : fw_S} {x1 : Int32} {H : Heap} {locs : List Loc} {ls : Array Slot} (hf : b_M_X11_freeze__0_9  t x1 = some (r, u)) (hP : va_P D classes (WM ca a t) H) (hS : va_S A s.heap H locs) (hl : lv_has ls 2 [(0, .ref (a 0)), (1, .int x1)]) : W p l e rm_M_X11_freeze__0 s m args below meth c H locs 0 0 Q (F0 m 9 ls []) := by
  obtain ⟨hx, hb, hml, hown, hts, hN, hK, hD, hA⟩ := id C
  have hf : (fb_g (¬ (x1 < 0 ∨ 32 ≤ x1.toNatClampNeg)) (if (st_F t 0 x1.toNatClampNeg) = ((2 : Int32)) then b_M_X11_freeze__0_19 t x1 else b_M_X11_freeze__0_28 t)) = some (r, u) := hf
  refine lv_aload_n hx hb dX11_freeze_9 rfl (lv_at hl 0 rfl) ?_
  refine va_get (D := D) (ci := 11) (v := .ref (a 1)) (C := RX11) (T := TX11) (N := 76) hx hb hts inX11 hown hK hP 0 (heM_0 ca a t) rfl 0 (by decide) (hts _ kw_1192) (fun _ h9 => h9) rfl dX11_freeze_10 ?_
  refine lv_iload_n hx hb dX11_freeze_13 rfl (lv_at hl 1 rfl) ?_
  obtain ⟨h_14, hf⟩ := fb_if hf
  refine va_iald hx hb hK hP 1 0 (haM_1 ca a t) rfl h_14 dX11_freeze_14 ?_
  refine lv_iconst (v := 2) hx hb dX11_freeze_15 (by decide) ?_
  refine lv_icmp_ne (tgt := 28) hx hb dX11_freeze_16 (by decide) (fun h_16 => ?_) (fun h_16 => ?_)
  · have hf := fb_f h_16 hf
    exact w_M_X11_freeze__0_28 C hr hf hP hS (lv_sub hl [] rfl)
  · have hf := fb_t h_16 hf
    exact w_M_X11_freeze__0_19 C hr hf hP hS (lv_sub hl [0, 1] rfl)
set_option maxRecDepth 20000 in
theorem w_M_X11_freeze__0_7 {p : Program} {l : Launch} {e : Env} {s : State} {m : MethodId} {args : Array Value} {below : List Frame} {meth : Method} {c : Code} {A : Nat → Prop} {Q : State → Prop} {D : va_G} {ca : Nat → ClassId} {a : Nat → Nat} {u : fw_S} {r : Int32}  (C : CX (WM ca a) D (tyv ca) p s m args c A prog_13_method_48_code 2 RX11) (hr : True → RX (WM ca a) D p l e rm_M_X11_freeze__0 s m args below meth c A prog_13_method_48_code Q .ireturn [.int r] u) {t : fw_S}  {H : Heap} {locs : List Loc} {ls : Array Slot} (hf : b_M_X11_freeze__0_7  t  = some (r, u)) (hP : va_P D classes (WM ca a t) H) (hS : va_S A s.heap H locs) (hl : lv_has ls 2 []) : W p l e rm_M_X11_freeze__0 s m args below meth c H locs 0 0 Q (F0 m 7 ls []) := by
  obtain ⟨hx, hb, hml, hown, hts, hN, hK, hD, hA⟩ := id C
  have hf : (some ((-1 : Int32), t)) = some (r, u) := hf
  refine lv_iconst (v := (-1)) hx hb dX11_freeze_7 (by decide) ?_
  obtain ⟨e_8, e2_8⟩ := fb_e hf
  subst e_8; subst e2_8
  exact hr trivial _ _ _ _ hP hS dX11_freeze_8
set_option maxRecDepth 20000 in
theorem w_M_X11_freeze__0_0 {p : Program} {l : Launch} {e : Env} {s : State} {m : MethodId} {args : Array Value} {below : List Frame} {meth : Method} {c : Code} {A : Nat → Prop} {Q : State → Prop} {D : va_G} {ca : Nat → ClassId} {a : Nat → Nat} {u : fw_S} {r : Int32}  (C : CX (WM ca a) D (tyv ca) p s m args c A prog_13_method_48_code 2 RX11) (hr : True → RX (WM ca a) D p l e rm_M_X11_freeze__0 s m args below meth c A prog_13_method_48_code Q .ireturn [.int r] u) {t : fw_S} {x1 : Int32} {H : Heap} {locs : List Loc} {ls : Array Slot} (hf : b_M_X11_freeze__0_0  t x1 = some (r, u)) (hP : va_P D classes (WM ca a t) H) (hS : va_S A s.heap H locs) (hl : lv_has ls 2 [(0, .ref (a 0)), (1, .int x1)]) : W p l e rm_M_X11_freeze__0 s m args below meth c H locs 0 0 Q (F0 m 0 ls []) := by
  obtain ⟨hx, hb, hml, hown, hts, hN, hK, hD, hA⟩ := id C
  have hf : (fb_b (f_M_X11_isCell t x1) fun v_2 t_1 => (if v_2 = 0 then b_M_X11_freeze__0_7 t_1 else b_M_X11_freeze__0_9 t_1 x1)) = some (r, u) := hf
  refine lv_iload_n hx hb dX11_freeze_0 rfl (lv_at hl 1 rfl) ?_
  obtain ⟨v_2, t_1, g_1, hf⟩ := fb_bs hf
  refine fw_S1 (As := [.int x1]) (rest := []) (n := 1) C (c_M_X11_isCell (l := l) (D := D) (ca := ca) (a := a) g_1) kw_1437 kw_1438 kw_102 kw_1439 hP hS hl rfl rfl (by decide) (by decide +kernel) ⟨Nat.le_of_ble_eq_true rfl, Nat.le_of_ble_eq_true rfl⟩ rfl rfl (Nat.le_of_ble_eq_true rfl) dX11_freeze_1 (fun H locs hP hS => ?_)
  refine W.eq (g2 := F0 m 4 ls [.int v_2]) rfl ?_
  refine lv_if_ne (tgt := 9) hx hb dX11_freeze_4 (by decide) (fun h_4 => ?_) (fun h_4 => ?_)
  · have hf := fb_f h_4 hf
    exact w_M_X11_freeze__0_9 C hr hf hP hS (lv_sub hl [0, 1] rfl)
  · have hf := fb_t h_4 hf
    exact w_M_X11_freeze__0_7 C hr hf hP hS (lv_sub hl [] rfl)
set_option maxRecDepth 20000 in
theorem c_M_X11_freeze__0 {l : Launch} {D : va_G} {ca : Nat → ClassId} {a : Nat → Nat} {t : fw_S} {x1 : Int32} {u : fw_S} {r : Int32} (hf : f_M_X11_freeze__0 t x1 = some (r, u)) : MC (WM ca a) D (tyv ca) l yX11_freeze (.code yX11_freeze prog_13_method_48_code 2 (some .int) :: lw_gd) rm_M_X11_freeze__0 [.ref (a 0), .int x1] (some (.int r)) t u := by
  refine fw_met (okM ca a) (by decide +kernel) rfl rfl (Nat.le_of_ble_eq_true rfl) ?_
  intro p e s m args below meth c A Q ls C hr hk hP hS hl hQ
  exact w_M_X11_freeze__0_0 C (fun _ => fw_ri C hr hk hQ) hf hP hS (lv_sub hl [0, 1] rfl)
/-! ReactiveSheetModel.begin()I ['m'] -/
abbrev rm_M_X11_begin__0 : Room := { frames := 0, cells := 0, slots := 0, locals := 0 }
def b_M_X11_begin__0_36  (t : fw_S)  : Option (Int32 × fw_S) := some ((1 : Int32), t)
def b_M_X11_begin__0_23 (k17 : fw_S → Int32 → Option (Int32 × fw_S)) (t : fw_S) (x1 : Int32) : Option (Int32 × fw_S) := fb_g (¬ (x1 < 0 ∨ 32 ≤ x1.toNatClampNeg)) (fb_l (up_F t 14 (upd (st_F t 14) x1.toNatClampNeg (vp_nar .boolean ((0 : Int32))))) fun t_1 => (k17 t_1 (x1 + 1)))
def b_M_X11_begin__0_17  : Nat → (fw_S → Int32 → Option (Int32 × fw_S))
  | 0 => fun _ _ => none
  | n + 1 => fun t x1 => if ((32 : Int32)) ≤ x1 then b_M_X11_begin__0_36 t else b_M_X11_begin__0_23 (b_M_X11_begin__0_17 n) t x1
def b_M_X11_begin__0_10  (t : fw_S)  : Option (Int32 × fw_S) := fb_g (((1 : Int32)) = 0 ∨ ((1 : Int32)) = 1) (fb_l (up_I t 0 ((1 : Int32))) fun t_1 => (b_M_X11_begin__0_17 3000 t_1 ((0 : Int32))))
def b_M_X11_begin__0_7  (t : fw_S)  : Option (Int32 × fw_S) := some ((-3 : Int32), t)
def b_M_X11_begin__0_0  (t : fw_S)  : Option (Int32 × fw_S) := if (st_I t 0) = 0 then b_M_X11_begin__0_10 t else b_M_X11_begin__0_7 t
def f_M_X11_begin__0 (t : fw_S)  : Option (Int32 × fw_S) := b_M_X11_begin__0_0 t 
set_option maxRecDepth 20000 in
theorem w_M_X11_begin__0_36 {p : Program} {l : Launch} {e : Env} {s : State} {m : MethodId} {args : Array Value} {below : List Frame} {meth : Method} {c : Code} {A : Nat → Prop} {Q : State → Prop} {D : va_G} {ca : Nat → ClassId} {a : Nat → Nat} {u : fw_S} {r : Int32}  (C : CX (WM ca a) D (tyv ca) p s m args c A prog_13_method_49_code 2 RX11) (hr : True → RX (WM ca a) D p l e rm_M_X11_begin__0 s m args below meth c A prog_13_method_49_code Q .ireturn [.int r] u) {t : fw_S}  {H : Heap} {locs : List Loc} {ls : Array Slot} (hf : b_M_X11_begin__0_36  t  = some (r, u)) (hP : va_P D classes (WM ca a t) H) (hS : va_S A s.heap H locs) (hl : lv_has ls 2 []) : W p l e rm_M_X11_begin__0 s m args below meth c H locs 0 0 Q (F0 m 36 ls []) := by
  obtain ⟨hx, hb, hml, hown, hts, hN, hK, hD, hA⟩ := id C
  have hf : (some ((1 : Int32), t)) = some (r, u) := hf
  refine lv_iconst (v := 1) hx hb dX11_begin_36 (by decide) ?_
  obtain ⟨e_37, e2_37⟩ := fb_e hf
  subst e_37; subst e2_37
  exact hr trivial _ _ _ _ hP hS dX11_begin_37
set_option maxRecDepth 20000 in
theorem w_M_X11_begin__0_23 {p : Program} {l : Launch} {e : Env} {s : State} {m : MethodId} {args : Array Value} {below : List Frame} {meth : Method} {c : Code} {A : Nat → Prop} {Q : State → Prop} {D : va_G} {ca : Nat → ClassId} {a : Nat → Nat} {u : fw_S} {r : Int32} {k17 : fw_S → Int32 → Option (Int32 × fw_S)} (C : CX (WM ca a) D (tyv ca) p s m args c A prog_13_method_49_code 2 RX11) (hr : True → RX (WM ca a) D p l e rm_M_X11_begin__0 s m args below meth c A prog_13_method_49_code Q .ireturn [.int r] u) (hk17 : ∀ (t : fw_S) (x1 : Int32) (H : Heap) (locs : List Loc) (ls : Array Slot), k17 t x1 = some (r, u) → va_P D classes (WM ca a t) H → va_S A s.heap H locs → lv_has ls 2 [(0, .ref (a 0)), (1, .int x1)] → W p l e rm_M_X11_begin__0 s m args below meth c H locs 0 0 Q (F0 m 17 ls [])) {t : fw_S} {x1 : Int32} {H : Heap} {locs : List Loc} {ls : Array Slot} (hf : b_M_X11_begin__0_23 k17 t x1 = some (r, u)) (hP : va_P D classes (WM ca a t) H) (hS : va_S A s.heap H locs) (hl : lv_has ls 2 [(0, .ref (a 0)), (1, .int x1)]) : W p l e rm_M_X11_begin__0 s m args below meth c H locs 0 0 Q (F0 m 23 ls []) := by
  obtain ⟨hx, hb, hml, hown, hts, hN, hK, hD, hA⟩ := id C
  have hf : (fb_g (¬ (x1 < 0 ∨ 32 ≤ x1.toNatClampNeg)) (fb_l (up_F t 14 (upd (st_F t 14) x1.toNatClampNeg (vp_nar .boolean ((0 : Int32))))) fun t_1 => (k17 t_1 (x1 + 1)))) = some (r, u) := hf
  refine lv_aload_n hx hb dX11_begin_23 rfl (lv_at hl 0 rfl) ?_
  refine va_get (D := D) (ci := 11) (v := .ref (a 16)) (C := RX11) (T := TX11) (N := 76) hx hb hts inX11 hown hK hP 0 (heM_0 ca a t) rfl 15 (by decide) (hts _ kw_1207) (fun _ h9 => h9) rfl dX11_begin_24 ?_
  refine lv_iload_n hx hb dX11_begin_27 rfl (lv_at hl 1 rfl) ?_
  refine lv_iconst (v := 0) hx hb dX11_begin_28 (by decide) ?_
  obtain ⟨h_29, hf⟩ := fb_if hf
  refine va_zast hx hb hK hP (hD t) hS 16 2 (haM_16 ca a t) rfl h_29 dX11_begin_29 (fun H locs hP _ hS => ?_)
  rw [saM_16] at hP
  obtain ⟨t_1, e_29, hf⟩ := fb_ls hf
  rw [← e_29] at hP
  refine lv_iinc (v := x1 + 1) (lv' := [(1, .int (x1 + 1)), (0, .ref (a 0))]) hx hb dX11_begin_30 hl (k := 1) rfl rfl (by decide) rfl (fun ls hl => ?_)
  refine lv_goto (tgt := 17) hx hb dX11_begin_33 (by decide) ?_
  exact hk17 t_1 (x1 + 1) _ _ _ hf hP hS (lv_sub hl [1, 0] rfl)
set_option maxRecDepth 20000 in
theorem w_M_X11_begin__0_17 {p : Program} {l : Launch} {e : Env} {s : State} {m : MethodId} {args : Array Value} {below : List Frame} {meth : Method} {c : Code} {A : Nat → Prop} {Q : State → Prop} {D : va_G} {ca : Nat → ClassId} {a : Nat → Nat} {u : fw_S} {r : Int32}  (C : CX (WM ca a) D (tyv ca) p s m args c A prog_13_method_49_code 2 RX11) (hr : True → RX (WM ca a) D p l e rm_M_X11_begin__0 s m args below meth c A prog_13_method_49_code Q .ireturn [.int r] u) : ∀ (n : Nat) (t : fw_S) (x1 : Int32) (H : Heap) (locs : List Loc) (ls : Array Slot), b_M_X11_begin__0_17  n t x1 = some (r, u) → va_P D classes (WM ca a t) H → va_S A s.heap H locs → lv_has ls 2 [(0, .ref (a 0)), (1, .int x1)] → W p l e rm_M_X11_begin__0 s m args below meth c H locs 0 0 Q (F0 m 17 ls []) := by
  obtain ⟨hx, hb, hml, hown, hts, hN, hK, hD, hA⟩ := id C
  intro n
  induction n with
  | zero => intro t x1 H locs ls hf; cases hf
  | succ n hk17 =>
    intro t x1 H locs ls hf hP hS hl
    have hf : (if ((32 : Int32)) ≤ x1 then b_M_X11_begin__0_36 t else b_M_X11_begin__0_23 (b_M_X11_begin__0_17 n) t x1) = some (r, u) := hf
    refine lv_iload_n hx hb dX11_begin_17 rfl (lv_at hl 1 rfl) ?_
    refine lv_bipush (v := 32) hx hb dX11_begin_18 (by decide) ?_
    refine lv_icmp_ge (tgt := 36) hx hb dX11_begin_20 (by decide) (fun h_20 => ?_) (fun h_20 => ?_)
    · have hf := fb_t h_20 hf
      exact w_M_X11_begin__0_36 C hr hf hP hS (lv_sub hl [] rfl)
    · have hf := fb_f h_20 hf
      exact w_M_X11_begin__0_23 C hr hk17 hf hP hS (lv_sub hl [0, 1] rfl)
set_option maxRecDepth 20000 in
theorem w_M_X11_begin__0_10 {p : Program} {l : Launch} {e : Env} {s : State} {m : MethodId} {args : Array Value} {below : List Frame} {meth : Method} {c : Code} {A : Nat → Prop} {Q : State → Prop} {D : va_G} {ca : Nat → ClassId} {a : Nat → Nat} {u : fw_S} {r : Int32}  (C : CX (WM ca a) D (tyv ca) p s m args c A prog_13_method_49_code 2 RX11) (hr : True → RX (WM ca a) D p l e rm_M_X11_begin__0 s m args below meth c A prog_13_method_49_code Q .ireturn [.int r] u) {t : fw_S}  {H : Heap} {locs : List Loc} {ls : Array Slot} (hf : b_M_X11_begin__0_10  t  = some (r, u)) (hP : va_P D classes (WM ca a t) H) (hS : va_S A s.heap H locs) (hl : lv_has ls 2 [(0, .ref (a 0))]) : W p l e rm_M_X11_begin__0 s m args below meth c H locs 0 0 Q (F0 m 10 ls []) := by
  obtain ⟨hx, hb, hml, hown, hts, hN, hK, hD, hA⟩ := id C
  have hf : (fb_g (((1 : Int32)) = 0 ∨ ((1 : Int32)) = 1) (fb_l (up_I t 0 ((1 : Int32))) fun t_1 => (b_M_X11_begin__0_17 3000 t_1 ((0 : Int32))))) = some (r, u) := hf
  refine lv_aload_n hx hb dX11_begin_10 rfl (lv_at hl 0 rfl) ?_
  refine lv_iconst (v := 1) hx hb dX11_begin_11 (by decide) ?_
  obtain ⟨h_12, hf⟩ := fb_if hf
  refine va_put (D := D) (ci := 11) (v := .int ((1 : Int32))) (ty := .boolean) (C := RX11) (T := TX11) (N := 76) hx hb hts inX11 tyX11 tyX11_ok nmX11 hown hK hP (hD t) hS 0 (heM_0 ca a t) rfl 22 (by decide) (hts _ kw_1214) (fun _ h9 => h9) rfl (by decide +kernel) (fb_z h_12).1 (fb_z h_12).2 (Nat.le_of_ble_eq_true rfl) dX11_begin_12 (fun H locs hP _ hS => ?_)
  rw [suM_0_22] at hP
  obtain ⟨t_1, e_12, hf⟩ := fb_ls hf
  rw [← e_12] at hP
  refine lv_iconst (v := 0) hx hb dX11_begin_15 (by decide) ?_
  refine lv_istore_n (lv' := [(1, .int ((0 : Int32))), (0, .ref (a 0))]) hx hb dX11_begin_16 rfl hl (by decide) rfl (fun ls hl => ?_)
  exact w_M_X11_begin__0_17 C hr 3000 t_1 ((0 : Int32)) _ _ _ hf hP hS (lv_sub hl [1, 0] rfl)
set_option maxRecDepth 20000 in
theorem w_M_X11_begin__0_7 {p : Program} {l : Launch} {e : Env} {s : State} {m : MethodId} {args : Array Value} {below : List Frame} {meth : Method} {c : Code} {A : Nat → Prop} {Q : State → Prop} {D : va_G} {ca : Nat → ClassId} {a : Nat → Nat} {u : fw_S} {r : Int32}  (C : CX (WM ca a) D (tyv ca) p s m args c A prog_13_method_49_code 2 RX11) (hr : True → RX (WM ca a) D p l e rm_M_X11_begin__0 s m args below meth c A prog_13_method_49_code Q .ireturn [.int r] u) {t : fw_S}  {H : Heap} {locs : List Loc} {ls : Array Slot} (hf : b_M_X11_begin__0_7  t  = some (r, u)) (hP : va_P D classes (WM ca a t) H) (hS : va_S A s.heap H locs) (hl : lv_has ls 2 []) : W p l e rm_M_X11_begin__0 s m args below meth c H locs 0 0 Q (F0 m 7 ls []) := by
  obtain ⟨hx, hb, hml, hown, hts, hN, hK, hD, hA⟩ := id C
  have hf : (some ((-3 : Int32), t)) = some (r, u) := hf
  refine lv_bipush (v := (-3)) hx hb dX11_begin_7 (by decide) ?_
  obtain ⟨e_9, e2_9⟩ := fb_e hf
  subst e_9; subst e2_9
  exact hr trivial _ _ _ _ hP hS dX11_begin_9
set_option maxRecDepth 20000 in
theorem w_M_X11_begin__0_0 {p : Program} {l : Launch} {e : Env} {s : State} {m : MethodId} {args : Array Value} {below : List Frame} {meth : Method} {c : Code} {A : Nat → Prop} {Q : State → Prop} {D : va_G} {ca : Nat → ClassId} {a : Nat → Nat} {u : fw_S} {r : Int32}  (C : CX (WM ca a) D (tyv ca) p s m args c A prog_13_method_49_code 2 RX11) (hr : True → RX (WM ca a) D p l e rm_M_X11_begin__0 s m args below meth c A prog_13_method_49_code Q .ireturn [.int r] u) {t : fw_S}  {H : Heap} {locs : List Loc} {ls : Array Slot} (hf : b_M_X11_begin__0_0  t  = some (r, u)) (hP : va_P D classes (WM ca a t) H) (hS : va_S A s.heap H locs) (hl : lv_has ls 2 [(0, .ref (a 0))]) : W p l e rm_M_X11_begin__0 s m args below meth c H locs 0 0 Q (F0 m 0 ls []) := by
  obtain ⟨hx, hb, hml, hown, hts, hN, hK, hD, hA⟩ := id C
  have hf : (if (st_I t 0) = 0 then b_M_X11_begin__0_10 t else b_M_X11_begin__0_7 t) = some (r, u) := hf
  refine lv_aload_n hx hb dX11_begin_0 rfl (lv_at hl 0 rfl) ?_
  refine va_get (D := D) (ci := 11) (v := .int (st_I t 0)) (C := RX11) (T := TX11) (N := 76) hx hb hts inX11 hown hK hP 0 (heM_0 ca a t) rfl 22 (by decide) (hts _ kw_1214) (fun _ h9 => h9) rfl dX11_begin_1 ?_
  refine lv_if_eq (tgt := 10) hx hb dX11_begin_4 (by decide) (fun h_4 => ?_) (fun h_4 => ?_)
  · have hf := fb_t h_4 hf
    exact w_M_X11_begin__0_10 C hr hf hP hS (lv_sub hl [0] rfl)
  · have hf := fb_f h_4 hf
    exact w_M_X11_begin__0_7 C hr hf hP hS (lv_sub hl [] rfl)
set_option maxRecDepth 20000 in
theorem c_M_X11_begin__0 {l : Launch} {D : va_G} {ca : Nat → ClassId} {a : Nat → Nat} {t : fw_S}  {u : fw_S} {r : Int32} (hf : f_M_X11_begin__0 t  = some (r, u)) : MC (WM ca a) D (tyv ca) l yX11_begin (.code yX11_begin prog_13_method_49_code 2 (some .int) :: lw_gd) rm_M_X11_begin__0 [.ref (a 0)] (some (.int r)) t u := by
  refine fw_met (okM ca a) (by decide +kernel) rfl rfl (Nat.le_of_ble_eq_true rfl) ?_
  intro p e s m args below meth c A Q ls C hr hk hP hS hl hQ
  exact w_M_X11_begin__0_0 C (fun _ => fw_ri C hr hk hQ) hf hP hS (lv_sub hl [0] rfl)
/-! ReactiveSheetModel.end()I ['m'] -/
abbrev rm_M_X11_end__0 : Room := { frames := 4, cells := 0, slots := 0, locals := 85 }
def b_M_X11_end__0_90  (t : fw_S)  : Option (Int32 × fw_S) := fb_b (f_M_X11_wave__0 t) fun v_2 t_1 => (some (v_2, t_1))
def b_M_X11_end__0_84 (k21 : fw_S → Int32 → Option (Int32 × fw_S)) (t : fw_S) (x1 : Int32) : Option (Int32 × fw_S) := k21 t (x1 + 1)
def b_M_X11_end__0_72 (k21 : fw_S → Int32 → Option (Int32 × fw_S)) (t : fw_S) (x1 : Int32) : Option (Int32 × fw_S) := fb_b (f_M_X11_ofBatch t x1) fun v_2 t_1 => (fb_b (f_M_X11_ofTold t_1 x1) fun v_4 t_3 => (fb_v (f_M_X11_copies__0 t_3 v_2 v_4) fun t_5 => (b_M_X11_end__0_84 k21 t_5 x1)))
def b_M_X11_end__0_39 (k21 : fw_S → Int32 → Option (Int32 × fw_S)) (t : fw_S) (x1 : Int32) : Option (Int32 × fw_S) := fb_g (¬ (x1 < 0 ∨ 32 ≤ x1.toNatClampNeg)) (fb_g (¬ (x1 < 0 ∨ 32 ≤ x1.toNatClampNeg)) (fb_g (¬ (x1 < 0 ∨ 32 ≤ x1.toNatClampNeg)) (fb_v (f_M_X11_tell__0 t x1 (st_F t 17 x1.toNatClampNeg) (st_G t 2 x1.toNatClampNeg) (st_F t 18 x1.toNatClampNeg)) fun t_1 => (fb_g (¬ (x1 < 0 ∨ 32 ≤ x1.toNatClampNeg)) (if (st_F t_1 17 x1.toNatClampNeg) = ((2 : Int32)) then b_M_X11_end__0_72 k21 t_1 x1 else b_M_X11_end__0_84 k21 t_1 x1)))))
def b_M_X11_end__0_36 (k21 : fw_S → Int32 → Option (Int32 × fw_S)) (t : fw_S) (x1 : Int32) : Option (Int32 × fw_S) := b_M_X11_end__0_84 k21 t x1
def b_M_X11_end__0_27 (k21 : fw_S → Int32 → Option (Int32 × fw_S)) (t : fw_S) (x1 : Int32) : Option (Int32 × fw_S) := fb_g (¬ (x1 < 0 ∨ 32 ≤ x1.toNatClampNeg)) (if (st_F t 14 x1.toNatClampNeg) = 0 then b_M_X11_end__0_36 k21 t x1 else b_M_X11_end__0_39 k21 t x1)
def b_M_X11_end__0_21  : Nat → (fw_S → Int32 → Option (Int32 × fw_S))
  | 0 => fun _ _ => none
  | n + 1 => fun t x1 => if ((32 : Int32)) ≤ x1 then b_M_X11_end__0_90 t else b_M_X11_end__0_27 (b_M_X11_end__0_21 n) t x1
def b_M_X11_end__0_10  (t : fw_S)  : Option (Int32 × fw_S) := fb_g (((0 : Int32)) = 0 ∨ ((0 : Int32)) = 1) (fb_l (up_I t 0 ((0 : Int32))) fun t_1 => (fb_v (f_M_X11_tellsNothing__0 t_1) fun t_2 => (b_M_X11_end__0_21 3000 t_2 ((0 : Int32)))))
def b_M_X11_end__0_7  (t : fw_S)  : Option (Int32 × fw_S) := some ((-3 : Int32), t)
def b_M_X11_end__0_0  (t : fw_S)  : Option (Int32 × fw_S) := if (st_I t 0) = 0 then b_M_X11_end__0_7 t else b_M_X11_end__0_10 t
def f_M_X11_end__0 (t : fw_S)  : Option (Int32 × fw_S) := b_M_X11_end__0_0 t 
set_option maxRecDepth 20000 in
theorem w_M_X11_end__0_90 {p : Program} {l : Launch} {e : Env} {s : State} {m : MethodId} {args : Array Value} {below : List Frame} {meth : Method} {c : Code} {A : Nat → Prop} {Q : State → Prop} {D : va_G} {ca : Nat → ClassId} {a : Nat → Nat} {u : fw_S} {r : Int32}  (C : CX (WM ca a) D (tyv ca) p s m args c A prog_13_method_50_code 2 RX11) (hr : True → RX (WM ca a) D p l e rm_M_X11_end__0 s m args below meth c A prog_13_method_50_code Q .ireturn [.int r] u) {t : fw_S}  {H : Heap} {locs : List Loc} {ls : Array Slot} (hf : b_M_X11_end__0_90  t  = some (r, u)) (hP : va_P D classes (WM ca a t) H) (hS : va_S A s.heap H locs) (hl : lv_has ls 2 [(0, .ref (a 0))]) : W p l e rm_M_X11_end__0 s m args below meth c H locs 0 0 Q (F0 m 90 ls []) := by
  obtain ⟨hx, hb, hml, hown, hts, hN, hK, hD, hA⟩ := id C
  have hf : (fb_b (f_M_X11_wave__0 t) fun v_2 t_1 => (some (v_2, t_1))) = some (r, u) := hf
  refine lv_aload_n hx hb dX11_end_90 rfl (lv_at hl 0 rfl) ?_
  obtain ⟨v_2, t_1, g_91, hf⟩ := fb_bs hf
  refine fw_V1 (As := []) (rest := []) (n := 0) (q0 := 0) C (c_M_X11_wave__0 (l := l) (D := D) (ca := ca) (a := a) g_91) kw_1452 kw_1454 kw_102 kw_1455 kw_47 hP hS hl (heM_0 ca a t) rfl rfl rfl (by decide) (by decide +kernel) ⟨Nat.le_of_ble_eq_true rfl, Nat.le_of_ble_eq_true rfl⟩ rfl rfl (Nat.le_of_ble_eq_true rfl) dX11_end_91 (fun H locs hP hS => ?_)
  refine W.eq (g2 := F0 m 94 ls [.int v_2]) rfl ?_
  obtain ⟨e_94, e2_94⟩ := fb_e hf
  subst e_94; subst e2_94
  exact hr trivial _ _ _ _ hP hS dX11_end_94
set_option maxRecDepth 20000 in
theorem w_M_X11_end__0_84 {p : Program} {l : Launch} {e : Env} {s : State} {m : MethodId} {args : Array Value} {below : List Frame} {meth : Method} {c : Code} {A : Nat → Prop} {Q : State → Prop} {D : va_G} {ca : Nat → ClassId} {a : Nat → Nat} {u : fw_S} {r : Int32} {k21 : fw_S → Int32 → Option (Int32 × fw_S)} (C : CX (WM ca a) D (tyv ca) p s m args c A prog_13_method_50_code 2 RX11) (hr : True → RX (WM ca a) D p l e rm_M_X11_end__0 s m args below meth c A prog_13_method_50_code Q .ireturn [.int r] u) (hk21 : ∀ (t : fw_S) (x1 : Int32) (H : Heap) (locs : List Loc) (ls : Array Slot), k21 t x1 = some (r, u) → va_P D classes (WM ca a t) H → va_S A s.heap H locs → lv_has ls 2 [(0, .ref (a 0)), (1, .int x1)] → W p l e rm_M_X11_end__0 s m args below meth c H locs 0 0 Q (F0 m 21 ls [])) {t : fw_S} {x1 : Int32} {H : Heap} {locs : List Loc} {ls : Array Slot} (hf : b_M_X11_end__0_84 k21 t x1 = some (r, u)) (hP : va_P D classes (WM ca a t) H) (hS : va_S A s.heap H locs) (hl : lv_has ls 2 [(0, .ref (a 0)), (1, .int x1)]) : W p l e rm_M_X11_end__0 s m args below meth c H locs 0 0 Q (F0 m 84 ls []) := by
  obtain ⟨hx, hb, hml, hown, hts, hN, hK, hD, hA⟩ := id C
  have hf : (k21 t (x1 + 1)) = some (r, u) := hf
  refine lv_iinc (v := x1 + 1) (lv' := [(1, .int (x1 + 1)), (0, .ref (a 0))]) hx hb dX11_end_84 hl (k := 1) rfl rfl (by decide) rfl (fun ls hl => ?_)
  refine lv_goto (tgt := 21) hx hb dX11_end_87 (by decide) ?_
  exact hk21 t (x1 + 1) _ _ _ hf hP hS (lv_sub hl [1, 0] rfl)
set_option maxRecDepth 20000 in
theorem w_M_X11_end__0_72 {p : Program} {l : Launch} {e : Env} {s : State} {m : MethodId} {args : Array Value} {below : List Frame} {meth : Method} {c : Code} {A : Nat → Prop} {Q : State → Prop} {D : va_G} {ca : Nat → ClassId} {a : Nat → Nat} {u : fw_S} {r : Int32} {k21 : fw_S → Int32 → Option (Int32 × fw_S)} (C : CX (WM ca a) D (tyv ca) p s m args c A prog_13_method_50_code 2 RX11) (hr : True → RX (WM ca a) D p l e rm_M_X11_end__0 s m args below meth c A prog_13_method_50_code Q .ireturn [.int r] u) (hk21 : ∀ (t : fw_S) (x1 : Int32) (H : Heap) (locs : List Loc) (ls : Array Slot), k21 t x1 = some (r, u) → va_P D classes (WM ca a t) H → va_S A s.heap H locs → lv_has ls 2 [(0, .ref (a 0)), (1, .int x1)] → W p l e rm_M_X11_end__0 s m args below meth c H locs 0 0 Q (F0 m 21 ls [])) {t : fw_S} {x1 : Int32} {H : Heap} {locs : List Loc} {ls : Array Slot} (hf : b_M_X11_end__0_72 k21 t x1 = some (r, u)) (hP : va_P D classes (WM ca a t) H) (hS : va_S A s.heap H locs) (hl : lv_has ls 2 [(0, .ref (a 0)), (1, .int x1)]) : W p l e rm_M_X11_end__0 s m args below meth c H locs 0 0 Q (F0 m 72 ls []) := by
  obtain ⟨hx, hb, hml, hown, hts, hN, hK, hD, hA⟩ := id C
  have hf : (fb_b (f_M_X11_ofBatch t x1) fun v_2 t_1 => (fb_b (f_M_X11_ofTold t_1 x1) fun v_4 t_3 => (fb_v (f_M_X11_copies__0 t_3 v_2 v_4) fun t_5 => (b_M_X11_end__0_84 k21 t_5 x1)))) = some (r, u) := hf
  refine lv_aload_n hx hb dX11_end_72 rfl (lv_at hl 0 rfl) ?_
  refine lv_iload_n hx hb dX11_end_73 rfl (lv_at hl 1 rfl) ?_
  obtain ⟨v_2, t_1, g_74, hf⟩ := fb_bs hf
  refine fw_S1 (As := [.int x1]) (rest := [.ref (a 0)]) (n := 1) C (c_M_X11_ofBatch (l := l) (D := D) (ca := ca) (a := a) g_74) kw_1532 kw_1533 kw_102 kw_1534 hP hS hl rfl rfl (by decide) (by decide +kernel) ⟨Nat.le_of_ble_eq_true rfl, Nat.le_of_ble_eq_true rfl⟩ rfl rfl (Nat.le_of_ble_eq_true rfl) dX11_end_74 (fun H locs hP hS => ?_)
  refine W.eq (g2 := F0 m 77 ls [.int v_2, .ref (a 0)]) rfl ?_
  refine lv_iload_n hx hb dX11_end_77 rfl (lv_at hl 1 rfl) ?_
  obtain ⟨v_4, t_3, g_78, hf⟩ := fb_bs hf
  refine fw_S1 (As := [.int x1]) (rest := [.int v_2, .ref (a 0)]) (n := 1) C (c_M_X11_ofTold (l := l) (D := D) (ca := ca) (a := a) g_78) kw_1471 kw_1472 kw_102 kw_1473 hP hS hl rfl rfl (by decide) (by decide +kernel) ⟨Nat.le_of_ble_eq_true rfl, Nat.le_of_ble_eq_true rfl⟩ rfl rfl (Nat.le_of_ble_eq_true rfl) dX11_end_78 (fun H locs hP hS => ?_)
  refine W.eq (g2 := F0 m 81 ls [.int v_4, .int v_2, .ref (a 0)]) rfl ?_
  obtain ⟨t_5, g_81, hf⟩ := fb_vs hf
  refine fw_V1 (As := [.int v_2, .int v_4]) (rest := []) (n := 2) (q0 := 0) C (c_M_X11_copies__0 (l := l) (D := D) (ca := ca) (a := a) g_81) kw_1535 kw_1537 kw_102 kw_1538 kw_64 hP hS hl (heM_0 ca a t_3) rfl rfl rfl (by decide) (by decide +kernel) ⟨Nat.le_of_ble_eq_true rfl, Nat.le_of_ble_eq_true rfl⟩ rfl rfl (Nat.le_of_ble_eq_true rfl) dX11_end_81 (fun H locs hP hS => ?_)
  refine W.eq (g2 := F0 m 84 ls []) rfl ?_
  exact w_M_X11_end__0_84 C hr hk21 hf hP hS (lv_sub hl [0, 1] rfl)
set_option maxRecDepth 20000 in
theorem w_M_X11_end__0_39 {p : Program} {l : Launch} {e : Env} {s : State} {m : MethodId} {args : Array Value} {below : List Frame} {meth : Method} {c : Code} {A : Nat → Prop} {Q : State → Prop} {D : va_G} {ca : Nat → ClassId} {a : Nat → Nat} {u : fw_S} {r : Int32} {k21 : fw_S → Int32 → Option (Int32 × fw_S)} (C : CX (WM ca a) D (tyv ca) p s m args c A prog_13_method_50_code 2 RX11) (hr : True → RX (WM ca a) D p l e rm_M_X11_end__0 s m args below meth c A prog_13_method_50_code Q .ireturn [.int r] u) (hk21 : ∀ (t : fw_S) (x1 : Int32) (H : Heap) (locs : List Loc) (ls : Array Slot), k21 t x1 = some (r, u) → va_P D classes (WM ca a t) H → va_S A s.heap H locs → lv_has ls 2 [(0, .ref (a 0)), (1, .int x1)] → W p l e rm_M_X11_end__0 s m args below meth c H locs 0 0 Q (F0 m 21 ls [])) {t : fw_S} {x1 : Int32} {H : Heap} {locs : List Loc} {ls : Array Slot} (hf : b_M_X11_end__0_39 k21 t x1 = some (r, u)) (hP : va_P D classes (WM ca a t) H) (hS : va_S A s.heap H locs) (hl : lv_has ls 2 [(0, .ref (a 0)), (1, .int x1)]) : W p l e rm_M_X11_end__0 s m args below meth c H locs 0 0 Q (F0 m 39 ls []) := by
  obtain ⟨hx, hb, hml, hown, hts, hN, hK, hD, hA⟩ := id C
  have hf : (fb_g (¬ (x1 < 0 ∨ 32 ≤ x1.toNatClampNeg)) (fb_g (¬ (x1 < 0 ∨ 32 ≤ x1.toNatClampNeg)) (fb_g (¬ (x1 < 0 ∨ 32 ≤ x1.toNatClampNeg)) (fb_v (f_M_X11_tell__0 t x1 (st_F t 17 x1.toNatClampNeg) (st_G t 2 x1.toNatClampNeg) (st_F t 18 x1.toNatClampNeg)) fun t_1 => (fb_g (¬ (x1 < 0 ∨ 32 ≤ x1.toNatClampNeg)) (if (st_F t_1 17 x1.toNatClampNeg) = ((2 : Int32)) then b_M_X11_end__0_72 k21 t_1 x1 else b_M_X11_end__0_84 k21 t_1 x1)))))) = some (r, u) := hf
  refine lv_aload_n hx hb dX11_end_39 rfl (lv_at hl 0 rfl) ?_
  refine lv_iload_n hx hb dX11_end_40 rfl (lv_at hl 1 rfl) ?_
  refine lv_aload_n hx hb dX11_end_41 rfl (lv_at hl 0 rfl) ?_
  refine va_get (D := D) (ci := 11) (v := .ref (a 19)) (C := RX11) (T := TX11) (N := 76) hx hb hts inX11 hown hK hP 0 (heM_0 ca a t) rfl 18 (by decide) (hts _ kw_1210) (fun _ h9 => h9) rfl dX11_end_42 ?_
  refine lv_iload_n hx hb dX11_end_45 rfl (lv_at hl 1 rfl) ?_
  obtain ⟨h_46, hf⟩ := fb_if hf
  refine va_iald hx hb hK hP 19 0 (haM_19 ca a t) rfl h_46 dX11_end_46 ?_
  refine lv_aload_n hx hb dX11_end_47 rfl (lv_at hl 0 rfl) ?_
  refine va_get (D := D) (ci := 11) (v := .ref (a 22)) (C := RX11) (T := TX11) (N := 76) hx hb hts inX11 hown hK hP 0 (heM_0 ca a t) rfl 21 (by decide) (hts _ kw_1213) (fun _ h9 => h9) rfl dX11_end_48 ?_
  refine lv_iload_n hx hb dX11_end_51 rfl (lv_at hl 1 rfl) ?_
  obtain ⟨h_52, hf⟩ := fb_if hf
  refine va_lald hx hb hK hP 22 1 (haM_22 ca a t) rfl h_52 dX11_end_52 ?_
  refine lv_aload_n hx hb dX11_end_53 rfl (lv_at hl 0 rfl) ?_
  refine va_get (D := D) (ci := 11) (v := .ref (a 20)) (C := RX11) (T := TX11) (N := 76) hx hb hts inX11 hown hK hP 0 (heM_0 ca a t) rfl 19 (by decide) (hts _ kw_1211) (fun _ h9 => h9) rfl dX11_end_54 ?_
  refine lv_iload_n hx hb dX11_end_57 rfl (lv_at hl 1 rfl) ?_
  obtain ⟨h_58, hf⟩ := fb_if hf
  refine va_iald hx hb hK hP 20 0 (haM_20 ca a t) rfl h_58 dX11_end_58 ?_
  obtain ⟨t_1, g_59, hf⟩ := fb_vs hf
  refine fw_V1 (As := [.int x1, .int (st_F t 17 x1.toNatClampNeg), .long (st_G t 2 x1.toNatClampNeg), .int (st_F t 18 x1.toNatClampNeg)]) (rest := []) (n := 4) (q0 := 0) C (c_M_X11_tell__0 (l := l) (D := D) (ca := ca) (a := a) g_59) kw_1448 kw_1450 kw_102 kw_1451 kw_46 hP hS hl (heM_0 ca a t) rfl rfl rfl (by decide) (by decide +kernel) ⟨Nat.le_of_ble_eq_true rfl, Nat.le_of_ble_eq_true rfl⟩ rfl rfl (Nat.le_of_ble_eq_true rfl) dX11_end_59 (fun H locs hP hS => ?_)
  refine W.eq (g2 := F0 m 62 ls []) rfl ?_
  refine lv_aload_n hx hb dX11_end_62 rfl (lv_at hl 0 rfl) ?_
  refine va_get (D := D) (ci := 11) (v := .ref (a 19)) (C := RX11) (T := TX11) (N := 76) hx hb hts inX11 hown hK hP 0 (heM_0 ca a t_1) rfl 18 (by decide) (hts _ kw_1210) (fun _ h9 => h9) rfl dX11_end_63 ?_
  refine lv_iload_n hx hb dX11_end_66 rfl (lv_at hl 1 rfl) ?_
  obtain ⟨h_67, hf⟩ := fb_if hf
  refine va_iald hx hb hK hP 19 0 (haM_19 ca a t_1) rfl h_67 dX11_end_67 ?_
  refine lv_iconst (v := 2) hx hb dX11_end_68 (by decide) ?_
  refine lv_icmp_ne (tgt := 84) hx hb dX11_end_69 (by decide) (fun h_69 => ?_) (fun h_69 => ?_)
  · have hf := fb_f h_69 hf
    exact w_M_X11_end__0_84 C hr hk21 hf hP hS (lv_sub hl [0, 1] rfl)
  · have hf := fb_t h_69 hf
    exact w_M_X11_end__0_72 C hr hk21 hf hP hS (lv_sub hl [0, 1] rfl)
set_option maxRecDepth 20000 in
theorem w_M_X11_end__0_36 {p : Program} {l : Launch} {e : Env} {s : State} {m : MethodId} {args : Array Value} {below : List Frame} {meth : Method} {c : Code} {A : Nat → Prop} {Q : State → Prop} {D : va_G} {ca : Nat → ClassId} {a : Nat → Nat} {u : fw_S} {r : Int32} {k21 : fw_S → Int32 → Option (Int32 × fw_S)} (C : CX (WM ca a) D (tyv ca) p s m args c A prog_13_method_50_code 2 RX11) (hr : True → RX (WM ca a) D p l e rm_M_X11_end__0 s m args below meth c A prog_13_method_50_code Q .ireturn [.int r] u) (hk21 : ∀ (t : fw_S) (x1 : Int32) (H : Heap) (locs : List Loc) (ls : Array Slot), k21 t x1 = some (r, u) → va_P D classes (WM ca a t) H → va_S A s.heap H locs → lv_has ls 2 [(0, .ref (a 0)), (1, .int x1)] → W p l e rm_M_X11_end__0 s m args below meth c H locs 0 0 Q (F0 m 21 ls [])) {t : fw_S} {x1 : Int32} {H : Heap} {locs : List Loc} {ls : Array Slot} (hf : b_M_X11_end__0_36 k21 t x1 = some (r, u)) (hP : va_P D classes (WM ca a t) H) (hS : va_S A s.heap H locs) (hl : lv_has ls 2 [(0, .ref (a 0)), (1, .int x1)]) : W p l e rm_M_X11_end__0 s m args below meth c H locs 0 0 Q (F0 m 36 ls []) := by
  obtain ⟨hx, hb, hml, hown, hts, hN, hK, hD, hA⟩ := id C
  have hf : (b_M_X11_end__0_84 k21 t x1) = some (r, u) := hf
  refine lv_goto (tgt := 84) hx hb dX11_end_36 (by decide) ?_
  exact w_M_X11_end__0_84 C hr hk21 hf hP hS (lv_sub hl [0, 1] rfl)
set_option maxRecDepth 20000 in
theorem w_M_X11_end__0_27 {p : Program} {l : Launch} {e : Env} {s : State} {m : MethodId} {args : Array Value} {below : List Frame} {meth : Method} {c : Code} {A : Nat → Prop} {Q : State → Prop} {D : va_G} {ca : Nat → ClassId} {a : Nat → Nat} {u : fw_S} {r : Int32} {k21 : fw_S → Int32 → Option (Int32 × fw_S)} (C : CX (WM ca a) D (tyv ca) p s m args c A prog_13_method_50_code 2 RX11) (hr : True → RX (WM ca a) D p l e rm_M_X11_end__0 s m args below meth c A prog_13_method_50_code Q .ireturn [.int r] u) (hk21 : ∀ (t : fw_S) (x1 : Int32) (H : Heap) (locs : List Loc) (ls : Array Slot), k21 t x1 = some (r, u) → va_P D classes (WM ca a t) H → va_S A s.heap H locs → lv_has ls 2 [(0, .ref (a 0)), (1, .int x1)] → W p l e rm_M_X11_end__0 s m args below meth c H locs 0 0 Q (F0 m 21 ls [])) {t : fw_S} {x1 : Int32} {H : Heap} {locs : List Loc} {ls : Array Slot} (hf : b_M_X11_end__0_27 k21 t x1 = some (r, u)) (hP : va_P D classes (WM ca a t) H) (hS : va_S A s.heap H locs) (hl : lv_has ls 2 [(0, .ref (a 0)), (1, .int x1)]) : W p l e rm_M_X11_end__0 s m args below meth c H locs 0 0 Q (F0 m 27 ls []) := by
  obtain ⟨hx, hb, hml, hown, hts, hN, hK, hD, hA⟩ := id C
  have hf : (fb_g (¬ (x1 < 0 ∨ 32 ≤ x1.toNatClampNeg)) (if (st_F t 14 x1.toNatClampNeg) = 0 then b_M_X11_end__0_36 k21 t x1 else b_M_X11_end__0_39 k21 t x1)) = some (r, u) := hf
  refine lv_aload_n hx hb dX11_end_27 rfl (lv_at hl 0 rfl) ?_
  refine va_get (D := D) (ci := 11) (v := .ref (a 16)) (C := RX11) (T := TX11) (N := 76) hx hb hts inX11 hown hK hP 0 (heM_0 ca a t) rfl 15 (by decide) (hts _ kw_1207) (fun _ h9 => h9) rfl dX11_end_28 ?_
  refine lv_iload_n hx hb dX11_end_31 rfl (lv_at hl 1 rfl) ?_
  obtain ⟨h_32, hf⟩ := fb_if hf
  refine va_zald hx hb hK hP 16 2 (haM_16 ca a t) rfl h_32 dX11_end_32 ?_
  refine lv_if_ne (tgt := 39) hx hb dX11_end_33 (by decide) (fun h_33 => ?_) (fun h_33 => ?_)
  · have hf := fb_f h_33 hf
    exact w_M_X11_end__0_39 C hr hk21 hf hP hS (lv_sub hl [0, 1] rfl)
  · have hf := fb_t h_33 hf
    exact w_M_X11_end__0_36 C hr hk21 hf hP hS (lv_sub hl [0, 1] rfl)
set_option maxRecDepth 20000 in
theorem w_M_X11_end__0_21 {p : Program} {l : Launch} {e : Env} {s : State} {m : MethodId} {args : Array Value} {below : List Frame} {meth : Method} {c : Code} {A : Nat → Prop} {Q : State → Prop} {D : va_G} {ca : Nat → ClassId} {a : Nat → Nat} {u : fw_S} {r : Int32}  (C : CX (WM ca a) D (tyv ca) p s m args c A prog_13_method_50_code 2 RX11) (hr : True → RX (WM ca a) D p l e rm_M_X11_end__0 s m args below meth c A prog_13_method_50_code Q .ireturn [.int r] u) : ∀ (n : Nat) (t : fw_S) (x1 : Int32) (H : Heap) (locs : List Loc) (ls : Array Slot), b_M_X11_end__0_21  n t x1 = some (r, u) → va_P D classes (WM ca a t) H → va_S A s.heap H locs → lv_has ls 2 [(0, .ref (a 0)), (1, .int x1)] → W p l e rm_M_X11_end__0 s m args below meth c H locs 0 0 Q (F0 m 21 ls []) := by
  obtain ⟨hx, hb, hml, hown, hts, hN, hK, hD, hA⟩ := id C
  intro n
  induction n with
  | zero => intro t x1 H locs ls hf; cases hf
  | succ n hk21 =>
    intro t x1 H locs ls hf hP hS hl
    have hf : (if ((32 : Int32)) ≤ x1 then b_M_X11_end__0_90 t else b_M_X11_end__0_27 (b_M_X11_end__0_21 n) t x1) = some (r, u) := hf
    refine lv_iload_n hx hb dX11_end_21 rfl (lv_at hl 1 rfl) ?_
    refine lv_bipush (v := 32) hx hb dX11_end_22 (by decide) ?_
    refine lv_icmp_ge (tgt := 90) hx hb dX11_end_24 (by decide) (fun h_24 => ?_) (fun h_24 => ?_)
    · have hf := fb_t h_24 hf
      exact w_M_X11_end__0_90 C hr hf hP hS (lv_sub hl [0] rfl)
    · have hf := fb_f h_24 hf
      exact w_M_X11_end__0_27 C hr hk21 hf hP hS (lv_sub hl [0, 1] rfl)
set_option maxRecDepth 20000 in
theorem w_M_X11_end__0_10 {p : Program} {l : Launch} {e : Env} {s : State} {m : MethodId} {args : Array Value} {below : List Frame} {meth : Method} {c : Code} {A : Nat → Prop} {Q : State → Prop} {D : va_G} {ca : Nat → ClassId} {a : Nat → Nat} {u : fw_S} {r : Int32}  (C : CX (WM ca a) D (tyv ca) p s m args c A prog_13_method_50_code 2 RX11) (hr : True → RX (WM ca a) D p l e rm_M_X11_end__0 s m args below meth c A prog_13_method_50_code Q .ireturn [.int r] u) {t : fw_S}  {H : Heap} {locs : List Loc} {ls : Array Slot} (hf : b_M_X11_end__0_10  t  = some (r, u)) (hP : va_P D classes (WM ca a t) H) (hS : va_S A s.heap H locs) (hl : lv_has ls 2 [(0, .ref (a 0))]) : W p l e rm_M_X11_end__0 s m args below meth c H locs 0 0 Q (F0 m 10 ls []) := by
  obtain ⟨hx, hb, hml, hown, hts, hN, hK, hD, hA⟩ := id C
  have hf : (fb_g (((0 : Int32)) = 0 ∨ ((0 : Int32)) = 1) (fb_l (up_I t 0 ((0 : Int32))) fun t_1 => (fb_v (f_M_X11_tellsNothing__0 t_1) fun t_2 => (b_M_X11_end__0_21 3000 t_2 ((0 : Int32)))))) = some (r, u) := hf
  refine lv_aload_n hx hb dX11_end_10 rfl (lv_at hl 0 rfl) ?_
  refine lv_iconst (v := 0) hx hb dX11_end_11 (by decide) ?_
  obtain ⟨h_12, hf⟩ := fb_if hf
  refine va_put (D := D) (ci := 11) (v := .int ((0 : Int32))) (ty := .boolean) (C := RX11) (T := TX11) (N := 76) hx hb hts inX11 tyX11 tyX11_ok nmX11 hown hK hP (hD t) hS 0 (heM_0 ca a t) rfl 22 (by decide) (hts _ kw_1214) (fun _ h9 => h9) rfl (by decide +kernel) (fb_z h_12).1 (fb_z h_12).2 (Nat.le_of_ble_eq_true rfl) dX11_end_12 (fun H locs hP _ hS => ?_)
  rw [suM_0_22] at hP
  obtain ⟨t_1, e_12, hf⟩ := fb_ls hf
  rw [← e_12] at hP
  refine lv_aload_n hx hb dX11_end_15 rfl (lv_at hl 0 rfl) ?_
  obtain ⟨t_2, g_16, hf⟩ := fb_vs hf
  refine fw_V1 (As := []) (rest := []) (n := 0) (q0 := 0) C (c_M_X11_tellsNothing__0 (l := l) (D := D) (ca := ca) (a := a) g_16) kw_1444 kw_1446 kw_102 kw_1447 kw_45 hP hS hl (heM_0 ca a t_1) rfl rfl rfl (by decide) (by decide +kernel) ⟨Nat.le_of_ble_eq_true rfl, Nat.le_of_ble_eq_true rfl⟩ rfl rfl (Nat.le_of_ble_eq_true rfl) dX11_end_16 (fun H locs hP hS => ?_)
  refine W.eq (g2 := F0 m 19 ls []) rfl ?_
  refine lv_iconst (v := 0) hx hb dX11_end_19 (by decide) ?_
  refine lv_istore_n (lv' := [(1, .int ((0 : Int32))), (0, .ref (a 0))]) hx hb dX11_end_20 rfl hl (by decide) rfl (fun ls hl => ?_)
  exact w_M_X11_end__0_21 C hr 3000 t_2 ((0 : Int32)) _ _ _ hf hP hS (lv_sub hl [1, 0] rfl)
set_option maxRecDepth 20000 in
theorem w_M_X11_end__0_7 {p : Program} {l : Launch} {e : Env} {s : State} {m : MethodId} {args : Array Value} {below : List Frame} {meth : Method} {c : Code} {A : Nat → Prop} {Q : State → Prop} {D : va_G} {ca : Nat → ClassId} {a : Nat → Nat} {u : fw_S} {r : Int32}  (C : CX (WM ca a) D (tyv ca) p s m args c A prog_13_method_50_code 2 RX11) (hr : True → RX (WM ca a) D p l e rm_M_X11_end__0 s m args below meth c A prog_13_method_50_code Q .ireturn [.int r] u) {t : fw_S}  {H : Heap} {locs : List Loc} {ls : Array Slot} (hf : b_M_X11_end__0_7  t  = some (r, u)) (hP : va_P D classes (WM ca a t) H) (hS : va_S A s.heap H locs) (hl : lv_has ls 2 []) : W p l e rm_M_X11_end__0 s m args below meth c H locs 0 0 Q (F0 m 7 ls []) := by
  obtain ⟨hx, hb, hml, hown, hts, hN, hK, hD, hA⟩ := id C
  have hf : (some ((-3 : Int32), t)) = some (r, u) := hf
  refine lv_bipush (v := (-3)) hx hb dX11_end_7 (by decide) ?_
  obtain ⟨e_9, e2_9⟩ := fb_e hf
  subst e_9; subst e2_9
  exact hr trivial _ _ _ _ hP hS dX11_end_9
set_option maxRecDepth 20000 in
theorem w_M_X11_end__0_0 {p : Program} {l : Launch} {e : Env} {s : State} {m : MethodId} {args : Array Value} {below : List Frame} {meth : Method} {c : Code} {A : Nat → Prop} {Q : State → Prop} {D : va_G} {ca : Nat → ClassId} {a : Nat → Nat} {u : fw_S} {r : Int32}  (C : CX (WM ca a) D (tyv ca) p s m args c A prog_13_method_50_code 2 RX11) (hr : True → RX (WM ca a) D p l e rm_M_X11_end__0 s m args below meth c A prog_13_method_50_code Q .ireturn [.int r] u) {t : fw_S}  {H : Heap} {locs : List Loc} {ls : Array Slot} (hf : b_M_X11_end__0_0  t  = some (r, u)) (hP : va_P D classes (WM ca a t) H) (hS : va_S A s.heap H locs) (hl : lv_has ls 2 [(0, .ref (a 0))]) : W p l e rm_M_X11_end__0 s m args below meth c H locs 0 0 Q (F0 m 0 ls []) := by
  obtain ⟨hx, hb, hml, hown, hts, hN, hK, hD, hA⟩ := id C
  have hf : (if (st_I t 0) = 0 then b_M_X11_end__0_7 t else b_M_X11_end__0_10 t) = some (r, u) := hf
  refine lv_aload_n hx hb dX11_end_0 rfl (lv_at hl 0 rfl) ?_
  refine va_get (D := D) (ci := 11) (v := .int (st_I t 0)) (C := RX11) (T := TX11) (N := 76) hx hb hts inX11 hown hK hP 0 (heM_0 ca a t) rfl 22 (by decide) (hts _ kw_1214) (fun _ h9 => h9) rfl dX11_end_1 ?_
  refine lv_if_ne (tgt := 10) hx hb dX11_end_4 (by decide) (fun h_4 => ?_) (fun h_4 => ?_)
  · have hf := fb_f h_4 hf
    exact w_M_X11_end__0_10 C hr hf hP hS (lv_sub hl [0] rfl)
  · have hf := fb_t h_4 hf
    exact w_M_X11_end__0_7 C hr hf hP hS (lv_sub hl [] rfl)
set_option maxRecDepth 20000 in
theorem c_M_X11_end__0 {l : Launch} {D : va_G} {ca : Nat → ClassId} {a : Nat → Nat} {t : fw_S}  {u : fw_S} {r : Int32} (hf : f_M_X11_end__0 t  = some (r, u)) : MC (WM ca a) D (tyv ca) l yX11_end (.code yX11_end prog_13_method_50_code 2 (some .int) :: lw_gd) rm_M_X11_end__0 [.ref (a 0)] (some (.int r)) t u := by
  refine fw_met (okM ca a) (by decide +kernel) rfl rfl (Nat.le_of_ble_eq_true rfl) ?_
  intro p e s m args below meth c A Q ls C hr hk hP hS hl hQ
  exact w_M_X11_end__0_0 C (fun _ => fw_ri C hr hk hQ) hf hP hS (lv_sub hl [0] rfl)
/-! ReactiveSheetModel.batched()I ['m'] -/
abbrev rm_M_X11_batched__0 : Room := { frames := 0, cells := 0, slots := 0, locals := 0 }
def b_M_X11_batched__0_40  (t : fw_S) (x1 : Int32) : Option (Int32 × fw_S) := some (x1, t)
def b_M_X11_batched__0_32 (k4 : fw_S → Int32 → Int32 → Option (Int32 × fw_S)) (t : fw_S) (x2 : Int32) (z0 : Int32) (z1 : Int32) : Option (Int32 × fw_S) := k4 t (z0 + z1) (x2 + 1)
def b_M_X11_batched__0_31 (k4 : fw_S → Int32 → Int32 → Option (Int32 × fw_S)) (t : fw_S) (x2 : Int32) (z0 : Int32) : Option (Int32 × fw_S) := b_M_X11_batched__0_32 k4 t x2 z0 ((0 : Int32))
def b_M_X11_batched__0_27 (k4 : fw_S → Int32 → Int32 → Option (Int32 × fw_S)) (t : fw_S) (x2 : Int32) (z0 : Int32) : Option (Int32 × fw_S) := b_M_X11_batched__0_32 k4 t x2 z0 ((1 : Int32))
def b_M_X11_batched__0_17 (k4 : fw_S → Int32 → Int32 → Option (Int32 × fw_S)) (t : fw_S) (x1 : Int32) (x2 : Int32) : Option (Int32 × fw_S) := fb_g (¬ (x2 < 0 ∨ 32 ≤ x2.toNatClampNeg)) (if (st_F t 14 x2.toNatClampNeg) = 0 then b_M_X11_batched__0_31 k4 t x2 x1 else b_M_X11_batched__0_27 k4 t x2 x1)
def b_M_X11_batched__0_10 (k4 : fw_S → Int32 → Int32 → Option (Int32 × fw_S)) (t : fw_S) (x1 : Int32) (x2 : Int32) : Option (Int32 × fw_S) := if (st_I t 0) = 0 then b_M_X11_batched__0_40 t x1 else b_M_X11_batched__0_17 k4 t x1 x2
def b_M_X11_batched__0_4  : Nat → (fw_S → Int32 → Int32 → Option (Int32 × fw_S))
  | 0 => fun _ _ _ => none
  | n + 1 => fun t x1 x2 => if ((32 : Int32)) ≤ x2 then b_M_X11_batched__0_40 t x1 else b_M_X11_batched__0_10 (b_M_X11_batched__0_4 n) t x1 x2
def b_M_X11_batched__0_0  (t : fw_S)  : Option (Int32 × fw_S) := b_M_X11_batched__0_4 3000 t ((0 : Int32)) ((0 : Int32))
def f_M_X11_batched__0 (t : fw_S)  : Option (Int32 × fw_S) := b_M_X11_batched__0_0 t 
set_option maxRecDepth 20000 in
theorem w_M_X11_batched__0_40 {p : Program} {l : Launch} {e : Env} {s : State} {m : MethodId} {args : Array Value} {below : List Frame} {meth : Method} {c : Code} {A : Nat → Prop} {Q : State → Prop} {D : va_G} {ca : Nat → ClassId} {a : Nat → Nat} {u : fw_S} {r : Int32}  (C : CX (WM ca a) D (tyv ca) p s m args c A prog_13_method_51_code 3 RX11) (hr : True → RX (WM ca a) D p l e rm_M_X11_batched__0 s m args below meth c A prog_13_method_51_code Q .ireturn [.int r] u) {t : fw_S} {x1 : Int32} {H : Heap} {locs : List Loc} {ls : Array Slot} (hf : b_M_X11_batched__0_40  t x1 = some (r, u)) (hP : va_P D classes (WM ca a t) H) (hS : va_S A s.heap H locs) (hl : lv_has ls 3 [(1, .int x1)]) : W p l e rm_M_X11_batched__0 s m args below meth c H locs 0 0 Q (F0 m 40 ls []) := by
  obtain ⟨hx, hb, hml, hown, hts, hN, hK, hD, hA⟩ := id C
  have hf : (some (x1, t)) = some (r, u) := hf
  refine lv_iload_n hx hb dX11_batched_40 rfl (lv_at hl 0 rfl) ?_
  obtain ⟨e_41, e2_41⟩ := fb_e hf
  subst e_41; subst e2_41
  exact hr trivial _ _ _ _ hP hS dX11_batched_41
set_option maxRecDepth 20000 in
theorem w_M_X11_batched__0_32 {p : Program} {l : Launch} {e : Env} {s : State} {m : MethodId} {args : Array Value} {below : List Frame} {meth : Method} {c : Code} {A : Nat → Prop} {Q : State → Prop} {D : va_G} {ca : Nat → ClassId} {a : Nat → Nat} {u : fw_S} {r : Int32} {k4 : fw_S → Int32 → Int32 → Option (Int32 × fw_S)} (C : CX (WM ca a) D (tyv ca) p s m args c A prog_13_method_51_code 3 RX11) (hr : True → RX (WM ca a) D p l e rm_M_X11_batched__0 s m args below meth c A prog_13_method_51_code Q .ireturn [.int r] u) (hk4 : ∀ (t : fw_S) (x1 : Int32) (x2 : Int32) (H : Heap) (locs : List Loc) (ls : Array Slot), k4 t x1 x2 = some (r, u) → va_P D classes (WM ca a t) H → va_S A s.heap H locs → lv_has ls 3 [(0, .ref (a 0)), (1, .int x1), (2, .int x2)] → W p l e rm_M_X11_batched__0 s m args below meth c H locs 0 0 Q (F0 m 4 ls [])) {t : fw_S} {x2 : Int32} {z0 : Int32} {z1 : Int32} {H : Heap} {locs : List Loc} {ls : Array Slot} (hf : b_M_X11_batched__0_32 k4 t x2 z0 z1 = some (r, u)) (hP : va_P D classes (WM ca a t) H) (hS : va_S A s.heap H locs) (hl : lv_has ls 3 [(0, .ref (a 0)), (2, .int x2)]) : W p l e rm_M_X11_batched__0 s m args below meth c H locs 0 0 Q (F0 m 32 ls [.int z1, .int z0]) := by
  obtain ⟨hx, hb, hml, hown, hts, hN, hK, hD, hA⟩ := id C
  have hf : (k4 t (z0 + z1) (x2 + 1)) = some (r, u) := hf
  refine lv_iadd hx hb dX11_batched_32 ?_
  refine lv_istore_n (lv' := [(1, .int (z0 + z1)), (0, .ref (a 0)), (2, .int x2)]) hx hb dX11_batched_33 rfl hl (by decide) rfl (fun ls hl => ?_)
  refine lv_iinc (v := x2 + 1) (lv' := [(2, .int (x2 + 1)), (1, .int (z0 + z1)), (0, .ref (a 0))]) hx hb dX11_batched_34 hl (k := 2) rfl rfl (by decide) rfl (fun ls hl => ?_)
  refine lv_goto (tgt := 4) hx hb dX11_batched_37 (by decide) ?_
  exact hk4 t (z0 + z1) (x2 + 1) _ _ _ hf hP hS (lv_sub hl [2, 1, 0] rfl)
set_option maxRecDepth 20000 in
theorem w_M_X11_batched__0_31 {p : Program} {l : Launch} {e : Env} {s : State} {m : MethodId} {args : Array Value} {below : List Frame} {meth : Method} {c : Code} {A : Nat → Prop} {Q : State → Prop} {D : va_G} {ca : Nat → ClassId} {a : Nat → Nat} {u : fw_S} {r : Int32} {k4 : fw_S → Int32 → Int32 → Option (Int32 × fw_S)} (C : CX (WM ca a) D (tyv ca) p s m args c A prog_13_method_51_code 3 RX11) (hr : True → RX (WM ca a) D p l e rm_M_X11_batched__0 s m args below meth c A prog_13_method_51_code Q .ireturn [.int r] u) (hk4 : ∀ (t : fw_S) (x1 : Int32) (x2 : Int32) (H : Heap) (locs : List Loc) (ls : Array Slot), k4 t x1 x2 = some (r, u) → va_P D classes (WM ca a t) H → va_S A s.heap H locs → lv_has ls 3 [(0, .ref (a 0)), (1, .int x1), (2, .int x2)] → W p l e rm_M_X11_batched__0 s m args below meth c H locs 0 0 Q (F0 m 4 ls [])) {t : fw_S} {x2 : Int32} {z0 : Int32} {H : Heap} {locs : List Loc} {ls : Array Slot} (hf : b_M_X11_batched__0_31 k4 t x2 z0 = some (r, u)) (hP : va_P D classes (WM ca a t) H) (hS : va_S A s.heap H locs) (hl : lv_has ls 3 [(0, .ref (a 0)), (2, .int x2)]) : W p l e rm_M_X11_batched__0 s m args below meth c H locs 0 0 Q (F0 m 31 ls [.int z0]) := by
  obtain ⟨hx, hb, hml, hown, hts, hN, hK, hD, hA⟩ := id C
  have hf : (b_M_X11_batched__0_32 k4 t x2 z0 ((0 : Int32))) = some (r, u) := hf
  refine lv_iconst (v := 0) hx hb dX11_batched_31 (by decide) ?_
  exact w_M_X11_batched__0_32 C hr hk4 hf hP hS (lv_sub hl [0, 1] rfl)
set_option maxRecDepth 20000 in
theorem w_M_X11_batched__0_27 {p : Program} {l : Launch} {e : Env} {s : State} {m : MethodId} {args : Array Value} {below : List Frame} {meth : Method} {c : Code} {A : Nat → Prop} {Q : State → Prop} {D : va_G} {ca : Nat → ClassId} {a : Nat → Nat} {u : fw_S} {r : Int32} {k4 : fw_S → Int32 → Int32 → Option (Int32 × fw_S)} (C : CX (WM ca a) D (tyv ca) p s m args c A prog_13_method_51_code 3 RX11) (hr : True → RX (WM ca a) D p l e rm_M_X11_batched__0 s m args below meth c A prog_13_method_51_code Q .ireturn [.int r] u) (hk4 : ∀ (t : fw_S) (x1 : Int32) (x2 : Int32) (H : Heap) (locs : List Loc) (ls : Array Slot), k4 t x1 x2 = some (r, u) → va_P D classes (WM ca a t) H → va_S A s.heap H locs → lv_has ls 3 [(0, .ref (a 0)), (1, .int x1), (2, .int x2)] → W p l e rm_M_X11_batched__0 s m args below meth c H locs 0 0 Q (F0 m 4 ls [])) {t : fw_S} {x2 : Int32} {z0 : Int32} {H : Heap} {locs : List Loc} {ls : Array Slot} (hf : b_M_X11_batched__0_27 k4 t x2 z0 = some (r, u)) (hP : va_P D classes (WM ca a t) H) (hS : va_S A s.heap H locs) (hl : lv_has ls 3 [(0, .ref (a 0)), (2, .int x2)]) : W p l e rm_M_X11_batched__0 s m args below meth c H locs 0 0 Q (F0 m 27 ls [.int z0]) := by
  obtain ⟨hx, hb, hml, hown, hts, hN, hK, hD, hA⟩ := id C
  have hf : (b_M_X11_batched__0_32 k4 t x2 z0 ((1 : Int32))) = some (r, u) := hf
  refine lv_iconst (v := 1) hx hb dX11_batched_27 (by decide) ?_
  refine lv_goto (tgt := 32) hx hb dX11_batched_28 (by decide) ?_
  exact w_M_X11_batched__0_32 C hr hk4 hf hP hS (lv_sub hl [0, 1] rfl)
set_option maxRecDepth 20000 in
theorem w_M_X11_batched__0_17 {p : Program} {l : Launch} {e : Env} {s : State} {m : MethodId} {args : Array Value} {below : List Frame} {meth : Method} {c : Code} {A : Nat → Prop} {Q : State → Prop} {D : va_G} {ca : Nat → ClassId} {a : Nat → Nat} {u : fw_S} {r : Int32} {k4 : fw_S → Int32 → Int32 → Option (Int32 × fw_S)} (C : CX (WM ca a) D (tyv ca) p s m args c A prog_13_method_51_code 3 RX11) (hr : True → RX (WM ca a) D p l e rm_M_X11_batched__0 s m args below meth c A prog_13_method_51_code Q .ireturn [.int r] u) (hk4 : ∀ (t : fw_S) (x1 : Int32) (x2 : Int32) (H : Heap) (locs : List Loc) (ls : Array Slot), k4 t x1 x2 = some (r, u) → va_P D classes (WM ca a t) H → va_S A s.heap H locs → lv_has ls 3 [(0, .ref (a 0)), (1, .int x1), (2, .int x2)] → W p l e rm_M_X11_batched__0 s m args below meth c H locs 0 0 Q (F0 m 4 ls [])) {t : fw_S} {x1 : Int32} {x2 : Int32} {H : Heap} {locs : List Loc} {ls : Array Slot} (hf : b_M_X11_batched__0_17 k4 t x1 x2 = some (r, u)) (hP : va_P D classes (WM ca a t) H) (hS : va_S A s.heap H locs) (hl : lv_has ls 3 [(0, .ref (a 0)), (1, .int x1), (2, .int x2)]) : W p l e rm_M_X11_batched__0 s m args below meth c H locs 0 0 Q (F0 m 17 ls []) := by
  obtain ⟨hx, hb, hml, hown, hts, hN, hK, hD, hA⟩ := id C
  have hf : (fb_g (¬ (x2 < 0 ∨ 32 ≤ x2.toNatClampNeg)) (if (st_F t 14 x2.toNatClampNeg) = 0 then b_M_X11_batched__0_31 k4 t x2 x1 else b_M_X11_batched__0_27 k4 t x2 x1)) = some (r, u) := hf
  refine lv_iload_n hx hb dX11_batched_17 rfl (lv_at hl 1 rfl) ?_
  refine lv_aload_n hx hb dX11_batched_18 rfl (lv_at hl 0 rfl) ?_
  refine va_get (D := D) (ci := 11) (v := .ref (a 16)) (C := RX11) (T := TX11) (N := 76) hx hb hts inX11 hown hK hP 0 (heM_0 ca a t) rfl 15 (by decide) (hts _ kw_1207) (fun _ h9 => h9) rfl dX11_batched_19 ?_
  refine lv_iload_n hx hb dX11_batched_22 rfl (lv_at hl 2 rfl) ?_
  obtain ⟨h_23, hf⟩ := fb_if hf
  refine va_zald hx hb hK hP 16 2 (haM_16 ca a t) rfl h_23 dX11_batched_23 ?_
  refine lv_if_eq (tgt := 31) hx hb dX11_batched_24 (by decide) (fun h_24 => ?_) (fun h_24 => ?_)
  · have hf := fb_t h_24 hf
    exact w_M_X11_batched__0_31 C hr hk4 hf hP hS (lv_sub hl [0, 2] rfl)
  · have hf := fb_f h_24 hf
    exact w_M_X11_batched__0_27 C hr hk4 hf hP hS (lv_sub hl [0, 2] rfl)
set_option maxRecDepth 20000 in
theorem w_M_X11_batched__0_10 {p : Program} {l : Launch} {e : Env} {s : State} {m : MethodId} {args : Array Value} {below : List Frame} {meth : Method} {c : Code} {A : Nat → Prop} {Q : State → Prop} {D : va_G} {ca : Nat → ClassId} {a : Nat → Nat} {u : fw_S} {r : Int32} {k4 : fw_S → Int32 → Int32 → Option (Int32 × fw_S)} (C : CX (WM ca a) D (tyv ca) p s m args c A prog_13_method_51_code 3 RX11) (hr : True → RX (WM ca a) D p l e rm_M_X11_batched__0 s m args below meth c A prog_13_method_51_code Q .ireturn [.int r] u) (hk4 : ∀ (t : fw_S) (x1 : Int32) (x2 : Int32) (H : Heap) (locs : List Loc) (ls : Array Slot), k4 t x1 x2 = some (r, u) → va_P D classes (WM ca a t) H → va_S A s.heap H locs → lv_has ls 3 [(0, .ref (a 0)), (1, .int x1), (2, .int x2)] → W p l e rm_M_X11_batched__0 s m args below meth c H locs 0 0 Q (F0 m 4 ls [])) {t : fw_S} {x1 : Int32} {x2 : Int32} {H : Heap} {locs : List Loc} {ls : Array Slot} (hf : b_M_X11_batched__0_10 k4 t x1 x2 = some (r, u)) (hP : va_P D classes (WM ca a t) H) (hS : va_S A s.heap H locs) (hl : lv_has ls 3 [(0, .ref (a 0)), (1, .int x1), (2, .int x2)]) : W p l e rm_M_X11_batched__0 s m args below meth c H locs 0 0 Q (F0 m 10 ls []) := by
  obtain ⟨hx, hb, hml, hown, hts, hN, hK, hD, hA⟩ := id C
  have hf : (if (st_I t 0) = 0 then b_M_X11_batched__0_40 t x1 else b_M_X11_batched__0_17 k4 t x1 x2) = some (r, u) := hf
  refine lv_aload_n hx hb dX11_batched_10 rfl (lv_at hl 0 rfl) ?_
  refine va_get (D := D) (ci := 11) (v := .int (st_I t 0)) (C := RX11) (T := TX11) (N := 76) hx hb hts inX11 hown hK hP 0 (heM_0 ca a t) rfl 22 (by decide) (hts _ kw_1214) (fun _ h9 => h9) rfl dX11_batched_11 ?_
  refine lv_if_eq (tgt := 40) hx hb dX11_batched_14 (by decide) (fun h_14 => ?_) (fun h_14 => ?_)
  · have hf := fb_t h_14 hf
    exact w_M_X11_batched__0_40 C hr hf hP hS (lv_sub hl [1] rfl)
  · have hf := fb_f h_14 hf
    exact w_M_X11_batched__0_17 C hr hk4 hf hP hS (lv_sub hl [0, 1, 2] rfl)
set_option maxRecDepth 20000 in
theorem w_M_X11_batched__0_4 {p : Program} {l : Launch} {e : Env} {s : State} {m : MethodId} {args : Array Value} {below : List Frame} {meth : Method} {c : Code} {A : Nat → Prop} {Q : State → Prop} {D : va_G} {ca : Nat → ClassId} {a : Nat → Nat} {u : fw_S} {r : Int32}  (C : CX (WM ca a) D (tyv ca) p s m args c A prog_13_method_51_code 3 RX11) (hr : True → RX (WM ca a) D p l e rm_M_X11_batched__0 s m args below meth c A prog_13_method_51_code Q .ireturn [.int r] u) : ∀ (n : Nat) (t : fw_S) (x1 : Int32) (x2 : Int32) (H : Heap) (locs : List Loc) (ls : Array Slot), b_M_X11_batched__0_4  n t x1 x2 = some (r, u) → va_P D classes (WM ca a t) H → va_S A s.heap H locs → lv_has ls 3 [(0, .ref (a 0)), (1, .int x1), (2, .int x2)] → W p l e rm_M_X11_batched__0 s m args below meth c H locs 0 0 Q (F0 m 4 ls []) := by
  obtain ⟨hx, hb, hml, hown, hts, hN, hK, hD, hA⟩ := id C
  intro n
  induction n with
  | zero => intro t x1 x2 H locs ls hf; cases hf
  | succ n hk4 =>
    intro t x1 x2 H locs ls hf hP hS hl
    have hf : (if ((32 : Int32)) ≤ x2 then b_M_X11_batched__0_40 t x1 else b_M_X11_batched__0_10 (b_M_X11_batched__0_4 n) t x1 x2) = some (r, u) := hf
    refine lv_iload_n hx hb dX11_batched_4 rfl (lv_at hl 2 rfl) ?_
    refine lv_bipush (v := 32) hx hb dX11_batched_5 (by decide) ?_
    refine lv_icmp_ge (tgt := 40) hx hb dX11_batched_7 (by decide) (fun h_7 => ?_) (fun h_7 => ?_)
    · have hf := fb_t h_7 hf
      exact w_M_X11_batched__0_40 C hr hf hP hS (lv_sub hl [1] rfl)
    · have hf := fb_f h_7 hf
      exact w_M_X11_batched__0_10 C hr hk4 hf hP hS (lv_sub hl [0, 1, 2] rfl)
set_option maxRecDepth 20000 in
theorem w_M_X11_batched__0_0 {p : Program} {l : Launch} {e : Env} {s : State} {m : MethodId} {args : Array Value} {below : List Frame} {meth : Method} {c : Code} {A : Nat → Prop} {Q : State → Prop} {D : va_G} {ca : Nat → ClassId} {a : Nat → Nat} {u : fw_S} {r : Int32}  (C : CX (WM ca a) D (tyv ca) p s m args c A prog_13_method_51_code 3 RX11) (hr : True → RX (WM ca a) D p l e rm_M_X11_batched__0 s m args below meth c A prog_13_method_51_code Q .ireturn [.int r] u) {t : fw_S}  {H : Heap} {locs : List Loc} {ls : Array Slot} (hf : b_M_X11_batched__0_0  t  = some (r, u)) (hP : va_P D classes (WM ca a t) H) (hS : va_S A s.heap H locs) (hl : lv_has ls 3 [(0, .ref (a 0))]) : W p l e rm_M_X11_batched__0 s m args below meth c H locs 0 0 Q (F0 m 0 ls []) := by
  obtain ⟨hx, hb, hml, hown, hts, hN, hK, hD, hA⟩ := id C
  have hf : (b_M_X11_batched__0_4 3000 t ((0 : Int32)) ((0 : Int32))) = some (r, u) := hf
  refine lv_iconst (v := 0) hx hb dX11_batched_0 (by decide) ?_
  refine lv_istore_n (lv' := [(1, .int ((0 : Int32))), (0, .ref (a 0))]) hx hb dX11_batched_1 rfl hl (by decide) rfl (fun ls hl => ?_)
  refine lv_iconst (v := 0) hx hb dX11_batched_2 (by decide) ?_
  refine lv_istore_n (lv' := [(2, .int ((0 : Int32))), (1, .int ((0 : Int32))), (0, .ref (a 0))]) hx hb dX11_batched_3 rfl hl (by decide) rfl (fun ls hl => ?_)
  exact w_M_X11_batched__0_4 C hr 3000 t ((0 : Int32)) ((0 : Int32)) _ _ _ hf hP hS (lv_sub hl [2, 1, 0] rfl)
set_option maxRecDepth 20000 in
theorem c_M_X11_batched__0 {l : Launch} {D : va_G} {ca : Nat → ClassId} {a : Nat → Nat} {t : fw_S}  {u : fw_S} {r : Int32} (hf : f_M_X11_batched__0 t  = some (r, u)) : MC (WM ca a) D (tyv ca) l yX11_batched (.code yX11_batched prog_13_method_51_code 3 (some .int) :: lw_gd) rm_M_X11_batched__0 [.ref (a 0)] (some (.int r)) t u := by
  refine fw_met (okM ca a) (by decide +kernel) rfl rfl (Nat.le_of_ble_eq_true rfl) ?_
  intro p e s m args below meth c A Q ls C hr hk hP hS hl hQ
  exact w_M_X11_batched__0_0 C (fun _ => fw_ri C hr hk hQ) hf hP hS (lv_sub hl [0] rfl)
/-! ReactiveSheetModel.cancel()I ['m'] -/
abbrev rm_M_X11_cancel__0 : Room := { frames := 1, cells := 0, slots := 0, locals := 22 }
def b_M_X11_cancel__0_10  (t : fw_S)  : Option (Int32 × fw_S) := fb_b (f_M_X11_batched__0 t) fun v_2 t_1 => (fb_g (((0 : Int32)) = 0 ∨ ((0 : Int32)) = 1) (fb_l (up_I t_1 0 ((0 : Int32))) fun t_3 => (some (v_2, t_3))))
def b_M_X11_cancel__0_7  (t : fw_S)  : Option (Int32 × fw_S) := some ((-3 : Int32), t)
def b_M_X11_cancel__0_0  (t : fw_S)  : Option (Int32 × fw_S) := if (st_I t 0) = 0 then b_M_X11_cancel__0_7 t else b_M_X11_cancel__0_10 t
def f_M_X11_cancel__0 (t : fw_S)  : Option (Int32 × fw_S) := b_M_X11_cancel__0_0 t 
set_option maxRecDepth 20000 in
theorem w_M_X11_cancel__0_10 {p : Program} {l : Launch} {e : Env} {s : State} {m : MethodId} {args : Array Value} {below : List Frame} {meth : Method} {c : Code} {A : Nat → Prop} {Q : State → Prop} {D : va_G} {ca : Nat → ClassId} {a : Nat → Nat} {u : fw_S} {r : Int32}  (C : CX (WM ca a) D (tyv ca) p s m args c A prog_13_method_52_code 2 RX11) (hr : True → RX (WM ca a) D p l e rm_M_X11_cancel__0 s m args below meth c A prog_13_method_52_code Q .ireturn [.int r] u) {t : fw_S}  {H : Heap} {locs : List Loc} {ls : Array Slot} (hf : b_M_X11_cancel__0_10  t  = some (r, u)) (hP : va_P D classes (WM ca a t) H) (hS : va_S A s.heap H locs) (hl : lv_has ls 2 [(0, .ref (a 0))]) : W p l e rm_M_X11_cancel__0 s m args below meth c H locs 0 0 Q (F0 m 10 ls []) := by
  obtain ⟨hx, hb, hml, hown, hts, hN, hK, hD, hA⟩ := id C
  have hf : (fb_b (f_M_X11_batched__0 t) fun v_2 t_1 => (fb_g (((0 : Int32)) = 0 ∨ ((0 : Int32)) = 1) (fb_l (up_I t_1 0 ((0 : Int32))) fun t_3 => (some (v_2, t_3))))) = some (r, u) := hf
  refine lv_aload_n hx hb dX11_cancel_10 rfl (lv_at hl 0 rfl) ?_
  obtain ⟨v_2, t_1, g_11, hf⟩ := fb_bs hf
  refine fw_V1 (As := []) (rest := []) (n := 0) (q0 := 0) C (c_M_X11_batched__0 (l := l) (D := D) (ca := ca) (a := a) g_11) kw_1620 kw_1622 kw_102 kw_1623 kw_78 hP hS hl (heM_0 ca a t) rfl rfl rfl (by decide) (by decide +kernel) ⟨Nat.le_of_ble_eq_true rfl, Nat.le_of_ble_eq_true rfl⟩ rfl rfl (Nat.le_of_ble_eq_true rfl) dX11_cancel_11 (fun H locs hP hS => ?_)
  refine W.eq (g2 := F0 m 14 ls [.int v_2]) rfl ?_
  refine lv_istore_n (lv' := [(1, .int v_2), (0, .ref (a 0))]) hx hb dX11_cancel_14 rfl hl (by decide) rfl (fun ls hl => ?_)
  refine lv_aload_n hx hb dX11_cancel_15 rfl (lv_at hl 1 rfl) ?_
  refine lv_iconst (v := 0) hx hb dX11_cancel_16 (by decide) ?_
  obtain ⟨h_17, hf⟩ := fb_if hf
  refine va_put (D := D) (ci := 11) (v := .int ((0 : Int32))) (ty := .boolean) (C := RX11) (T := TX11) (N := 76) hx hb hts inX11 tyX11 tyX11_ok nmX11 hown hK hP (hD t_1) hS 0 (heM_0 ca a t_1) rfl 22 (by decide) (hts _ kw_1214) (fun _ h9 => h9) rfl (by decide +kernel) (fb_z h_17).1 (fb_z h_17).2 (Nat.le_of_ble_eq_true rfl) dX11_cancel_17 (fun H locs hP _ hS => ?_)
  rw [suM_0_22] at hP
  obtain ⟨t_3, e_17, hf⟩ := fb_ls hf
  rw [← e_17] at hP
  refine lv_iload_n hx hb dX11_cancel_20 rfl (lv_at hl 0 rfl) ?_
  obtain ⟨e_21, e2_21⟩ := fb_e hf
  subst e_21; subst e2_21
  exact hr trivial _ _ _ _ hP hS dX11_cancel_21
set_option maxRecDepth 20000 in
theorem w_M_X11_cancel__0_7 {p : Program} {l : Launch} {e : Env} {s : State} {m : MethodId} {args : Array Value} {below : List Frame} {meth : Method} {c : Code} {A : Nat → Prop} {Q : State → Prop} {D : va_G} {ca : Nat → ClassId} {a : Nat → Nat} {u : fw_S} {r : Int32}  (C : CX (WM ca a) D (tyv ca) p s m args c A prog_13_method_52_code 2 RX11) (hr : True → RX (WM ca a) D p l e rm_M_X11_cancel__0 s m args below meth c A prog_13_method_52_code Q .ireturn [.int r] u) {t : fw_S}  {H : Heap} {locs : List Loc} {ls : Array Slot} (hf : b_M_X11_cancel__0_7  t  = some (r, u)) (hP : va_P D classes (WM ca a t) H) (hS : va_S A s.heap H locs) (hl : lv_has ls 2 []) : W p l e rm_M_X11_cancel__0 s m args below meth c H locs 0 0 Q (F0 m 7 ls []) := by
  obtain ⟨hx, hb, hml, hown, hts, hN, hK, hD, hA⟩ := id C
  have hf : (some ((-3 : Int32), t)) = some (r, u) := hf
  refine lv_bipush (v := (-3)) hx hb dX11_cancel_7 (by decide) ?_
  obtain ⟨e_9, e2_9⟩ := fb_e hf
  subst e_9; subst e2_9
  exact hr trivial _ _ _ _ hP hS dX11_cancel_9
set_option maxRecDepth 20000 in
theorem w_M_X11_cancel__0_0 {p : Program} {l : Launch} {e : Env} {s : State} {m : MethodId} {args : Array Value} {below : List Frame} {meth : Method} {c : Code} {A : Nat → Prop} {Q : State → Prop} {D : va_G} {ca : Nat → ClassId} {a : Nat → Nat} {u : fw_S} {r : Int32}  (C : CX (WM ca a) D (tyv ca) p s m args c A prog_13_method_52_code 2 RX11) (hr : True → RX (WM ca a) D p l e rm_M_X11_cancel__0 s m args below meth c A prog_13_method_52_code Q .ireturn [.int r] u) {t : fw_S}  {H : Heap} {locs : List Loc} {ls : Array Slot} (hf : b_M_X11_cancel__0_0  t  = some (r, u)) (hP : va_P D classes (WM ca a t) H) (hS : va_S A s.heap H locs) (hl : lv_has ls 2 [(0, .ref (a 0))]) : W p l e rm_M_X11_cancel__0 s m args below meth c H locs 0 0 Q (F0 m 0 ls []) := by
  obtain ⟨hx, hb, hml, hown, hts, hN, hK, hD, hA⟩ := id C
  have hf : (if (st_I t 0) = 0 then b_M_X11_cancel__0_7 t else b_M_X11_cancel__0_10 t) = some (r, u) := hf
  refine lv_aload_n hx hb dX11_cancel_0 rfl (lv_at hl 0 rfl) ?_
  refine va_get (D := D) (ci := 11) (v := .int (st_I t 0)) (C := RX11) (T := TX11) (N := 76) hx hb hts inX11 hown hK hP 0 (heM_0 ca a t) rfl 22 (by decide) (hts _ kw_1214) (fun _ h9 => h9) rfl dX11_cancel_1 ?_
  refine lv_if_ne (tgt := 10) hx hb dX11_cancel_4 (by decide) (fun h_4 => ?_) (fun h_4 => ?_)
  · have hf := fb_f h_4 hf
    exact w_M_X11_cancel__0_10 C hr hf hP hS (lv_sub hl [0] rfl)
  · have hf := fb_t h_4 hf
    exact w_M_X11_cancel__0_7 C hr hf hP hS (lv_sub hl [] rfl)
set_option maxRecDepth 20000 in
theorem c_M_X11_cancel__0 {l : Launch} {D : va_G} {ca : Nat → ClassId} {a : Nat → Nat} {t : fw_S}  {u : fw_S} {r : Int32} (hf : f_M_X11_cancel__0 t  = some (r, u)) : MC (WM ca a) D (tyv ca) l yX11_cancel (.code yX11_cancel prog_13_method_52_code 2 (some .int) :: lw_gd) rm_M_X11_cancel__0 [.ref (a 0)] (some (.int r)) t u := by
  refine fw_met (okM ca a) (by decide +kernel) rfl rfl (Nat.le_of_ble_eq_true rfl) ?_
  intro p e s m args below meth c A Q ls C hr hk hP hS hl hQ
  exact w_M_X11_cancel__0_0 C (fun _ => fw_ri C hr hk hQ) hf hP hS (lv_sub hl [0] rfl)
/-! ReactiveSheetModel.feed(I)I ['m'] -/
abbrev rm_M_X11_feed__0 : Room := { frames := 1, cells := 0, slots := 0, locals := 22 }
def b_M_X11_feed__0_25  (t : fw_S) (x1 : Int32) : Option (Int32 × fw_S) := fb_g (¬ ((st_I t 5) < 0 ∨ 120 ≤ (st_I t 5).toNatClampNeg)) (fb_l (up_F t 29 (upd (st_F t 29) (st_I t 5).toNatClampNeg x1)) fun t_1 => (fb_l (up_I t_1 5 ((st_I t_1 5) + ((1 : Int32)))) fun t_2 => (some (st_I t_2 5, t_2))))
def b_M_X11_feed__0_22  (t : fw_S)  : Option (Int32 × fw_S) := some ((-4 : Int32), t)
def b_M_X11_feed__0_13  (t : fw_S) (x1 : Int32) : Option (Int32 × fw_S) := if (st_I t 5) = ((120 : Int32)) then b_M_X11_feed__0_22 t else b_M_X11_feed__0_25 t x1
def b_M_X11_feed__0_10  (t : fw_S)  : Option (Int32 × fw_S) := some ((-2 : Int32), t)
def b_M_X11_feed__0_0  (t : fw_S) (x1 : Int32) : Option (Int32 × fw_S) := fb_b (f_M_X11_isIn t x1 ((1 : Int32)) ((127 : Int32))) fun v_2 t_1 => (if v_2 = 0 then b_M_X11_feed__0_10 t_1 else b_M_X11_feed__0_13 t_1 x1)
def f_M_X11_feed__0 (t : fw_S) (x1 : Int32) : Option (Int32 × fw_S) := b_M_X11_feed__0_0 t x1
set_option maxRecDepth 20000 in
theorem w_M_X11_feed__0_25 {p : Program} {l : Launch} {e : Env} {s : State} {m : MethodId} {args : Array Value} {below : List Frame} {meth : Method} {c : Code} {A : Nat → Prop} {Q : State → Prop} {D : va_G} {ca : Nat → ClassId} {a : Nat → Nat} {u : fw_S} {r : Int32}  (C : CX (WM ca a) D (tyv ca) p s m args c A prog_13_method_4_code 2 RX11) (hr : True → RX (WM ca a) D p l e rm_M_X11_feed__0 s m args below meth c A prog_13_method_4_code Q .ireturn [.int r] u) {t : fw_S} {x1 : Int32} {H : Heap} {locs : List Loc} {ls : Array Slot} (hf : b_M_X11_feed__0_25  t x1 = some (r, u)) (hP : va_P D classes (WM ca a t) H) (hS : va_S A s.heap H locs) (hl : lv_has ls 2 [(0, .ref (a 0)), (1, .int x1)]) : W p l e rm_M_X11_feed__0 s m args below meth c H locs 0 0 Q (F0 m 25 ls []) := by
  obtain ⟨hx, hb, hml, hown, hts, hN, hK, hD, hA⟩ := id C
  have hf : (fb_g (¬ ((st_I t 5) < 0 ∨ 120 ≤ (st_I t 5).toNatClampNeg)) (fb_l (up_F t 29 (upd (st_F t 29) (st_I t 5).toNatClampNeg x1)) fun t_1 => (fb_l (up_I t_1 5 ((st_I t_1 5) + ((1 : Int32)))) fun t_2 => (some (st_I t_2 5, t_2))))) = some (r, u) := hf
  refine lv_aload_n hx hb dX11_feed_25 rfl (lv_at hl 0 rfl) ?_
  refine va_get (D := D) (ci := 11) (v := .ref (a 34)) (C := RX11) (T := TX11) (N := 76) hx hb hts inX11 hown hK hP 0 (heM_0 ca a t) rfl 38 (by decide) (hts _ kw_1230) (fun _ h9 => h9) rfl dX11_feed_26 ?_
  refine lv_aload_n hx hb dX11_feed_29 rfl (lv_at hl 0 rfl) ?_
  refine va_get (D := D) (ci := 11) (v := .int (st_I t 5)) (C := RX11) (T := TX11) (N := 76) hx hb hts inX11 hown hK hP 0 (heM_0 ca a t) rfl 40 (by decide) (hts _ kw_1232) (fun _ h9 => h9) rfl dX11_feed_30 ?_
  refine lv_iload_n hx hb dX11_feed_33 rfl (lv_at hl 1 rfl) ?_
  obtain ⟨h_34, hf⟩ := fb_if hf
  refine va_iast hx hb hK hP (hD t) hS 34 0 (haM_34 ca a t) rfl h_34 dX11_feed_34 (fun H locs hP _ hS => ?_)
  rw [saM_34] at hP
  obtain ⟨t_1, e_34, hf⟩ := fb_ls hf
  rw [← e_34] at hP
  refine lv_aload_n hx hb dX11_feed_35 rfl (lv_at hl 0 rfl) ?_
  refine lv_dup hx hb dX11_feed_36 rfl ?_
  refine va_get (D := D) (ci := 11) (v := .int (st_I t_1 5)) (C := RX11) (T := TX11) (N := 76) hx hb hts inX11 hown hK hP 0 (heM_0 ca a t_1) rfl 40 (by decide) (hts _ kw_1232) (fun _ h9 => h9) rfl dX11_feed_37 ?_
  refine lv_iconst (v := 1) hx hb dX11_feed_40 (by decide) ?_
  refine lv_iadd hx hb dX11_feed_41 ?_
  refine va_put (D := D) (ci := 11) (v := .int ((st_I t_1 5) + ((1 : Int32)))) (ty := .int) (C := RX11) (T := TX11) (N := 76) hx hb hts inX11 tyX11 tyX11_ok nmX11 hown hK hP (hD t_1) hS 0 (heM_0 ca a t_1) rfl 40 (by decide) (hts _ kw_1232) (fun _ h9 => h9) rfl (by decide +kernel) rfl rfl (Nat.le_of_ble_eq_true rfl) dX11_feed_42 (fun H locs hP _ hS => ?_)
  rw [suM_0_40] at hP
  obtain ⟨t_2, e_42, hf⟩ := fb_ls hf
  rw [← e_42] at hP
  refine lv_aload_n hx hb dX11_feed_45 rfl (lv_at hl 0 rfl) ?_
  refine va_get (D := D) (ci := 11) (v := .int (st_I t_2 5)) (C := RX11) (T := TX11) (N := 76) hx hb hts inX11 hown hK hP 0 (heM_0 ca a t_2) rfl 40 (by decide) (hts _ kw_1232) (fun _ h9 => h9) rfl dX11_feed_46 ?_
  obtain ⟨e_49, e2_49⟩ := fb_e hf
  subst e_49; subst e2_49
  exact hr trivial _ _ _ _ hP hS dX11_feed_49
set_option maxRecDepth 20000 in
theorem w_M_X11_feed__0_22 {p : Program} {l : Launch} {e : Env} {s : State} {m : MethodId} {args : Array Value} {below : List Frame} {meth : Method} {c : Code} {A : Nat → Prop} {Q : State → Prop} {D : va_G} {ca : Nat → ClassId} {a : Nat → Nat} {u : fw_S} {r : Int32}  (C : CX (WM ca a) D (tyv ca) p s m args c A prog_13_method_4_code 2 RX11) (hr : True → RX (WM ca a) D p l e rm_M_X11_feed__0 s m args below meth c A prog_13_method_4_code Q .ireturn [.int r] u) {t : fw_S}  {H : Heap} {locs : List Loc} {ls : Array Slot} (hf : b_M_X11_feed__0_22  t  = some (r, u)) (hP : va_P D classes (WM ca a t) H) (hS : va_S A s.heap H locs) (hl : lv_has ls 2 []) : W p l e rm_M_X11_feed__0 s m args below meth c H locs 0 0 Q (F0 m 22 ls []) := by
  obtain ⟨hx, hb, hml, hown, hts, hN, hK, hD, hA⟩ := id C
  have hf : (some ((-4 : Int32), t)) = some (r, u) := hf
  refine lv_bipush (v := (-4)) hx hb dX11_feed_22 (by decide) ?_
  obtain ⟨e_24, e2_24⟩ := fb_e hf
  subst e_24; subst e2_24
  exact hr trivial _ _ _ _ hP hS dX11_feed_24
set_option maxRecDepth 20000 in
theorem w_M_X11_feed__0_13 {p : Program} {l : Launch} {e : Env} {s : State} {m : MethodId} {args : Array Value} {below : List Frame} {meth : Method} {c : Code} {A : Nat → Prop} {Q : State → Prop} {D : va_G} {ca : Nat → ClassId} {a : Nat → Nat} {u : fw_S} {r : Int32}  (C : CX (WM ca a) D (tyv ca) p s m args c A prog_13_method_4_code 2 RX11) (hr : True → RX (WM ca a) D p l e rm_M_X11_feed__0 s m args below meth c A prog_13_method_4_code Q .ireturn [.int r] u) {t : fw_S} {x1 : Int32} {H : Heap} {locs : List Loc} {ls : Array Slot} (hf : b_M_X11_feed__0_13  t x1 = some (r, u)) (hP : va_P D classes (WM ca a t) H) (hS : va_S A s.heap H locs) (hl : lv_has ls 2 [(0, .ref (a 0)), (1, .int x1)]) : W p l e rm_M_X11_feed__0 s m args below meth c H locs 0 0 Q (F0 m 13 ls []) := by
  obtain ⟨hx, hb, hml, hown, hts, hN, hK, hD, hA⟩ := id C
  have hf : (if (st_I t 5) = ((120 : Int32)) then b_M_X11_feed__0_22 t else b_M_X11_feed__0_25 t x1) = some (r, u) := hf
  refine lv_aload_n hx hb dX11_feed_13 rfl (lv_at hl 0 rfl) ?_
  refine va_get (D := D) (ci := 11) (v := .int (st_I t 5)) (C := RX11) (T := TX11) (N := 76) hx hb hts inX11 hown hK hP 0 (heM_0 ca a t) rfl 40 (by decide) (hts _ kw_1232) (fun _ h9 => h9) rfl dX11_feed_14 ?_
  refine lv_bipush (v := 120) hx hb dX11_feed_17 (by decide) ?_
  refine lv_icmp_ne (tgt := 25) hx hb dX11_feed_19 (by decide) (fun h_19 => ?_) (fun h_19 => ?_)
  · have hf := fb_f h_19 hf
    exact w_M_X11_feed__0_25 C hr hf hP hS (lv_sub hl [0, 1] rfl)
  · have hf := fb_t h_19 hf
    exact w_M_X11_feed__0_22 C hr hf hP hS (lv_sub hl [] rfl)
set_option maxRecDepth 20000 in
theorem w_M_X11_feed__0_10 {p : Program} {l : Launch} {e : Env} {s : State} {m : MethodId} {args : Array Value} {below : List Frame} {meth : Method} {c : Code} {A : Nat → Prop} {Q : State → Prop} {D : va_G} {ca : Nat → ClassId} {a : Nat → Nat} {u : fw_S} {r : Int32}  (C : CX (WM ca a) D (tyv ca) p s m args c A prog_13_method_4_code 2 RX11) (hr : True → RX (WM ca a) D p l e rm_M_X11_feed__0 s m args below meth c A prog_13_method_4_code Q .ireturn [.int r] u) {t : fw_S}  {H : Heap} {locs : List Loc} {ls : Array Slot} (hf : b_M_X11_feed__0_10  t  = some (r, u)) (hP : va_P D classes (WM ca a t) H) (hS : va_S A s.heap H locs) (hl : lv_has ls 2 []) : W p l e rm_M_X11_feed__0 s m args below meth c H locs 0 0 Q (F0 m 10 ls []) := by
  obtain ⟨hx, hb, hml, hown, hts, hN, hK, hD, hA⟩ := id C
  have hf : (some ((-2 : Int32), t)) = some (r, u) := hf
  refine lv_bipush (v := (-2)) hx hb dX11_feed_10 (by decide) ?_
  obtain ⟨e_12, e2_12⟩ := fb_e hf
  subst e_12; subst e2_12
  exact hr trivial _ _ _ _ hP hS dX11_feed_12
set_option maxRecDepth 20000 in
theorem w_M_X11_feed__0_0 {p : Program} {l : Launch} {e : Env} {s : State} {m : MethodId} {args : Array Value} {below : List Frame} {meth : Method} {c : Code} {A : Nat → Prop} {Q : State → Prop} {D : va_G} {ca : Nat → ClassId} {a : Nat → Nat} {u : fw_S} {r : Int32}  (C : CX (WM ca a) D (tyv ca) p s m args c A prog_13_method_4_code 2 RX11) (hr : True → RX (WM ca a) D p l e rm_M_X11_feed__0 s m args below meth c A prog_13_method_4_code Q .ireturn [.int r] u) {t : fw_S} {x1 : Int32} {H : Heap} {locs : List Loc} {ls : Array Slot} (hf : b_M_X11_feed__0_0  t x1 = some (r, u)) (hP : va_P D classes (WM ca a t) H) (hS : va_S A s.heap H locs) (hl : lv_has ls 2 [(0, .ref (a 0)), (1, .int x1)]) : W p l e rm_M_X11_feed__0 s m args below meth c H locs 0 0 Q (F0 m 0 ls []) := by
  obtain ⟨hx, hb, hml, hown, hts, hN, hK, hD, hA⟩ := id C
  have hf : (fb_b (f_M_X11_isIn t x1 ((1 : Int32)) ((127 : Int32))) fun v_2 t_1 => (if v_2 = 0 then b_M_X11_feed__0_10 t_1 else b_M_X11_feed__0_13 t_1 x1)) = some (r, u) := hf
  refine lv_iload_n hx hb dX11_feed_0 rfl (lv_at hl 1 rfl) ?_
  refine lv_iconst (v := 1) hx hb dX11_feed_1 (by decide) ?_
  refine lv_bipush (v := 127) hx hb dX11_feed_2 (by decide) ?_
  obtain ⟨v_2, t_1, g_4, hf⟩ := fb_bs hf
  refine fw_S1 (As := [.int x1, .int ((1 : Int32)), .int ((127 : Int32))]) (rest := []) (n := 3) C (c_M_X11_isIn (l := l) (D := D) (ca := ca) (a := a) g_4) kw_1426 kw_1427 kw_102 kw_1428 hP hS hl rfl rfl (by decide) (by decide +kernel) ⟨Nat.le_of_ble_eq_true rfl, Nat.le_of_ble_eq_true rfl⟩ rfl rfl (Nat.le_of_ble_eq_true rfl) dX11_feed_4 (fun H locs hP hS => ?_)
  refine W.eq (g2 := F0 m 7 ls [.int v_2]) rfl ?_
  refine lv_if_ne (tgt := 13) hx hb dX11_feed_7 (by decide) (fun h_7 => ?_) (fun h_7 => ?_)
  · have hf := fb_f h_7 hf
    exact w_M_X11_feed__0_13 C hr hf hP hS (lv_sub hl [0, 1] rfl)
  · have hf := fb_t h_7 hf
    exact w_M_X11_feed__0_10 C hr hf hP hS (lv_sub hl [] rfl)
set_option maxRecDepth 20000 in
theorem c_M_X11_feed__0 {l : Launch} {D : va_G} {ca : Nat → ClassId} {a : Nat → Nat} {t : fw_S} {x1 : Int32} {u : fw_S} {r : Int32} (hf : f_M_X11_feed__0 t x1 = some (r, u)) : MC (WM ca a) D (tyv ca) l yX11_feed (.code yX11_feed prog_13_method_4_code 2 (some .int) :: lw_gd) rm_M_X11_feed__0 [.ref (a 0), .int x1] (some (.int r)) t u := by
  refine fw_met (okM ca a) (by decide +kernel) rfl rfl (Nat.le_of_ble_eq_true rfl) ?_
  intro p e s m args below meth c A Q ls C hr hk hP hS hl hQ
  exact w_M_X11_feed__0_0 C (fun _ => fw_ri C hr hk hQ) hf hP hS (lv_sub hl [0, 1] rfl)
/-! ReactiveSheetModel.clear()I ['m'] -/
abbrev rm_M_X11_clear__0 : Room := { frames := 0, cells := 0, slots := 0, locals := 0 }
def b_M_X11_clear__0_0  (t : fw_S)  : Option (Int32 × fw_S) := fb_l (up_I t 5 ((0 : Int32))) fun t_1 => (some (st_I t 5, t_1))
def f_M_X11_clear__0 (t : fw_S)  : Option (Int32 × fw_S) := b_M_X11_clear__0_0 t 
set_option maxRecDepth 20000 in
theorem w_M_X11_clear__0_0 {p : Program} {l : Launch} {e : Env} {s : State} {m : MethodId} {args : Array Value} {below : List Frame} {meth : Method} {c : Code} {A : Nat → Prop} {Q : State → Prop} {D : va_G} {ca : Nat → ClassId} {a : Nat → Nat} {u : fw_S} {r : Int32}  (C : CX (WM ca a) D (tyv ca) p s m args c A prog_13_method_5_code 2 RX11) (hr : True → RX (WM ca a) D p l e rm_M_X11_clear__0 s m args below meth c A prog_13_method_5_code Q .ireturn [.int r] u) {t : fw_S}  {H : Heap} {locs : List Loc} {ls : Array Slot} (hf : b_M_X11_clear__0_0  t  = some (r, u)) (hP : va_P D classes (WM ca a t) H) (hS : va_S A s.heap H locs) (hl : lv_has ls 2 [(0, .ref (a 0))]) : W p l e rm_M_X11_clear__0 s m args below meth c H locs 0 0 Q (F0 m 0 ls []) := by
  obtain ⟨hx, hb, hml, hown, hts, hN, hK, hD, hA⟩ := id C
  have hf : (fb_l (up_I t 5 ((0 : Int32))) fun t_1 => (some (st_I t 5, t_1))) = some (r, u) := hf
  refine lv_aload_n hx hb dX11_clear_0 rfl (lv_at hl 0 rfl) ?_
  refine va_get (D := D) (ci := 11) (v := .int (st_I t 5)) (C := RX11) (T := TX11) (N := 76) hx hb hts inX11 hown hK hP 0 (heM_0 ca a t) rfl 40 (by decide) (hts _ kw_1232) (fun _ h9 => h9) rfl dX11_clear_1 ?_
  refine lv_istore_n (lv' := [(1, .int (st_I t 5)), (0, .ref (a 0))]) hx hb dX11_clear_4 rfl hl (by decide) rfl (fun ls hl => ?_)
  refine lv_aload_n hx hb dX11_clear_5 rfl (lv_at hl 1 rfl) ?_
  refine lv_iconst (v := 0) hx hb dX11_clear_6 (by decide) ?_
  refine va_put (D := D) (ci := 11) (v := .int ((0 : Int32))) (ty := .int) (C := RX11) (T := TX11) (N := 76) hx hb hts inX11 tyX11 tyX11_ok nmX11 hown hK hP (hD t) hS 0 (heM_0 ca a t) rfl 40 (by decide) (hts _ kw_1232) (fun _ h9 => h9) rfl (by decide +kernel) rfl rfl (Nat.le_of_ble_eq_true rfl) dX11_clear_7 (fun H locs hP _ hS => ?_)
  rw [suM_0_40] at hP
  obtain ⟨t_1, e_7, hf⟩ := fb_ls hf
  rw [← e_7] at hP
  refine lv_iload_n hx hb dX11_clear_10 rfl (lv_at hl 0 rfl) ?_
  obtain ⟨e_11, e2_11⟩ := fb_e hf
  subst e_11; subst e2_11
  exact hr trivial _ _ _ _ hP hS dX11_clear_11
set_option maxRecDepth 20000 in
theorem c_M_X11_clear__0 {l : Launch} {D : va_G} {ca : Nat → ClassId} {a : Nat → Nat} {t : fw_S}  {u : fw_S} {r : Int32} (hf : f_M_X11_clear__0 t  = some (r, u)) : MC (WM ca a) D (tyv ca) l yX11_clear (.code yX11_clear prog_13_method_5_code 2 (some .int) :: lw_gd) rm_M_X11_clear__0 [.ref (a 0)] (some (.int r)) t u := by
  refine fw_met (okM ca a) (by decide +kernel) rfl rfl (Nat.le_of_ble_eq_true rfl) ?_
  intro p e s m args below meth c A Q ls C hr hk hP hS hl hQ
  exact w_M_X11_clear__0_0 C (fun _ => fw_ri C hr hk hQ) hf hP hS (lv_sub hl [0] rfl)
/-! ReactiveSheetModel.value(I)J ['m'] -/
abbrev rm_M_X11_value__0 : Room := { frames := 2, cells := 0, slots := 0, locals := 42 }
def b_M_X11_value__0_28  (t : fw_S) (w0 : Int64) : Option (Int64 × fw_S) := some (w0, t)
def b_M_X11_value__0_16  (t : fw_S)  : Option (Int64 × fw_S) := b_M_X11_value__0_28 t ((-9223372036854775808 : Int64))
def b_M_X11_value__0_22  (t : fw_S) (x1 : Int32) : Option (Int64 × fw_S) := fb_g (¬ (x1 < 0 ∨ 32 ≤ x1.toNatClampNeg)) (b_M_X11_value__0_28 t (st_G t 0 x1.toNatClampNeg))
def b_M_X11_value__0_7  (t : fw_S) (x1 : Int32) : Option (Int64 × fw_S) := fb_g (¬ (x1 < 0 ∨ 32 ≤ x1.toNatClampNeg)) (if (st_F t 1 x1.toNatClampNeg) = 0 then b_M_X11_value__0_22 t x1 else b_M_X11_value__0_16 t)
def b_M_X11_value__0_0  (t : fw_S) (x1 : Int32) : Option (Int64 × fw_S) := fb_b (f_M_X11_isCell t x1) fun v_2 t_1 => (if v_2 = 0 then b_M_X11_value__0_16 t_1 else b_M_X11_value__0_7 t_1 x1)
def f_M_X11_value__0 (t : fw_S) (x1 : Int32) : Option (Int64 × fw_S) := b_M_X11_value__0_0 t x1
set_option maxRecDepth 20000 in
theorem w_M_X11_value__0_28 {p : Program} {l : Launch} {e : Env} {s : State} {m : MethodId} {args : Array Value} {below : List Frame} {meth : Method} {c : Code} {A : Nat → Prop} {Q : State → Prop} {D : va_G} {ca : Nat → ClassId} {a : Nat → Nat} {u : fw_S} {r : Int64}  (C : CX (WM ca a) D (tyv ca) p s m args c A prog_13_method_53_code 2 RX11) (hr : True → RX (WM ca a) D p l e rm_M_X11_value__0 s m args below meth c A prog_13_method_53_code Q .lreturn [.long r] u) {t : fw_S} {w0 : Int64} {H : Heap} {locs : List Loc} {ls : Array Slot} (hf : b_M_X11_value__0_28  t w0 = some (r, u)) (hP : va_P D classes (WM ca a t) H) (hS : va_S A s.heap H locs) (hl : lv_has ls 2 []) : W p l e rm_M_X11_value__0 s m args below meth c H locs 0 0 Q (F0 m 28 ls [.long w0]) := by
  obtain ⟨hx, hb, hml, hown, hts, hN, hK, hD, hA⟩ := id C
  have hf : (some (w0, t)) = some (r, u) := hf
  obtain ⟨e_28, e2_28⟩ := fb_e hf
  subst e_28; subst e2_28
  exact hr trivial _ _ _ _ hP hS dX11_value_28
set_option maxRecDepth 20000 in
theorem w_M_X11_value__0_16 {p : Program} {l : Launch} {e : Env} {s : State} {m : MethodId} {args : Array Value} {below : List Frame} {meth : Method} {c : Code} {A : Nat → Prop} {Q : State → Prop} {D : va_G} {ca : Nat → ClassId} {a : Nat → Nat} {u : fw_S} {r : Int64}  (C : CX (WM ca a) D (tyv ca) p s m args c A prog_13_method_53_code 2 RX11) (hr : True → RX (WM ca a) D p l e rm_M_X11_value__0 s m args below meth c A prog_13_method_53_code Q .lreturn [.long r] u) {t : fw_S}  {H : Heap} {locs : List Loc} {ls : Array Slot} (hf : b_M_X11_value__0_16  t  = some (r, u)) (hP : va_P D classes (WM ca a t) H) (hS : va_S A s.heap H locs) (hl : lv_has ls 2 []) : W p l e rm_M_X11_value__0 s m args below meth c H locs 0 0 Q (F0 m 16 ls []) := by
  obtain ⟨hx, hb, hml, hown, hts, hN, hK, hD, hA⟩ := id C
  have hf : (b_M_X11_value__0_28 t ((-9223372036854775808 : Int64))) = some (r, u) := hf
  refine lv_ldc2 (v := (-9223372036854775808)) hx hb hown (hts _ kw_1506) dX11_value_16 ?_
  refine lv_goto (tgt := 28) hx hb dX11_value_19 (by decide) ?_
  exact w_M_X11_value__0_28 C hr hf hP hS (lv_sub hl [] rfl)
set_option maxRecDepth 20000 in
theorem w_M_X11_value__0_22 {p : Program} {l : Launch} {e : Env} {s : State} {m : MethodId} {args : Array Value} {below : List Frame} {meth : Method} {c : Code} {A : Nat → Prop} {Q : State → Prop} {D : va_G} {ca : Nat → ClassId} {a : Nat → Nat} {u : fw_S} {r : Int64}  (C : CX (WM ca a) D (tyv ca) p s m args c A prog_13_method_53_code 2 RX11) (hr : True → RX (WM ca a) D p l e rm_M_X11_value__0 s m args below meth c A prog_13_method_53_code Q .lreturn [.long r] u) {t : fw_S} {x1 : Int32} {H : Heap} {locs : List Loc} {ls : Array Slot} (hf : b_M_X11_value__0_22  t x1 = some (r, u)) (hP : va_P D classes (WM ca a t) H) (hS : va_S A s.heap H locs) (hl : lv_has ls 2 [(0, .ref (a 0)), (1, .int x1)]) : W p l e rm_M_X11_value__0 s m args below meth c H locs 0 0 Q (F0 m 22 ls []) := by
  obtain ⟨hx, hb, hml, hown, hts, hN, hK, hD, hA⟩ := id C
  have hf : (fb_g (¬ (x1 < 0 ∨ 32 ≤ x1.toNatClampNeg)) (b_M_X11_value__0_28 t (st_G t 0 x1.toNatClampNeg))) = some (r, u) := hf
  refine lv_aload_n hx hb dX11_value_22 rfl (lv_at hl 0 rfl) ?_
  refine va_get (D := D) (ci := 11) (v := .ref (a 7)) (C := RX11) (T := TX11) (N := 76) hx hb hts inX11 hown hK hP 0 (heM_0 ca a t) rfl 6 (by decide) (hts _ kw_1198) (fun _ h9 => h9) rfl dX11_value_23 ?_
  refine lv_iload_n hx hb dX11_value_26 rfl (lv_at hl 1 rfl) ?_
  obtain ⟨h_27, hf⟩ := fb_if hf
  refine va_lald hx hb hK hP 7 1 (haM_7 ca a t) rfl h_27 dX11_value_27 ?_
  exact w_M_X11_value__0_28 C hr hf hP hS (lv_sub hl [] rfl)
set_option maxRecDepth 20000 in
theorem w_M_X11_value__0_7 {p : Program} {l : Launch} {e : Env} {s : State} {m : MethodId} {args : Array Value} {below : List Frame} {meth : Method} {c : Code} {A : Nat → Prop} {Q : State → Prop} {D : va_G} {ca : Nat → ClassId} {a : Nat → Nat} {u : fw_S} {r : Int64}  (C : CX (WM ca a) D (tyv ca) p s m args c A prog_13_method_53_code 2 RX11) (hr : True → RX (WM ca a) D p l e rm_M_X11_value__0 s m args below meth c A prog_13_method_53_code Q .lreturn [.long r] u) {t : fw_S} {x1 : Int32} {H : Heap} {locs : List Loc} {ls : Array Slot} (hf : b_M_X11_value__0_7  t x1 = some (r, u)) (hP : va_P D classes (WM ca a t) H) (hS : va_S A s.heap H locs) (hl : lv_has ls 2 [(0, .ref (a 0)), (1, .int x1)]) : W p l e rm_M_X11_value__0 s m args below meth c H locs 0 0 Q (F0 m 7 ls []) := by
  obtain ⟨hx, hb, hml, hown, hts, hN, hK, hD, hA⟩ := id C
  have hf : (fb_g (¬ (x1 < 0 ∨ 32 ≤ x1.toNatClampNeg)) (if (st_F t 1 x1.toNatClampNeg) = 0 then b_M_X11_value__0_22 t x1 else b_M_X11_value__0_16 t)) = some (r, u) := hf
  refine lv_aload_n hx hb dX11_value_7 rfl (lv_at hl 0 rfl) ?_
  refine va_get (D := D) (ci := 11) (v := .ref (a 2)) (C := RX11) (T := TX11) (N := 76) hx hb hts inX11 hown hK hP 0 (heM_0 ca a t) rfl 1 (by decide) (hts _ kw_1193) (fun _ h9 => h9) rfl dX11_value_8 ?_
  refine lv_iload_n hx hb dX11_value_11 rfl (lv_at hl 1 rfl) ?_
  obtain ⟨h_12, hf⟩ := fb_if hf
  refine va_iald hx hb hK hP 2 0 (haM_2 ca a t) rfl h_12 dX11_value_12 ?_
  refine lv_if_eq (tgt := 22) hx hb dX11_value_13 (by decide) (fun h_13 => ?_) (fun h_13 => ?_)
  · have hf := fb_t h_13 hf
    exact w_M_X11_value__0_22 C hr hf hP hS (lv_sub hl [0, 1] rfl)
  · have hf := fb_f h_13 hf
    exact w_M_X11_value__0_16 C hr hf hP hS (lv_sub hl [] rfl)
set_option maxRecDepth 20000 in
theorem w_M_X11_value__0_0 {p : Program} {l : Launch} {e : Env} {s : State} {m : MethodId} {args : Array Value} {below : List Frame} {meth : Method} {c : Code} {A : Nat → Prop} {Q : State → Prop} {D : va_G} {ca : Nat → ClassId} {a : Nat → Nat} {u : fw_S} {r : Int64}  (C : CX (WM ca a) D (tyv ca) p s m args c A prog_13_method_53_code 2 RX11) (hr : True → RX (WM ca a) D p l e rm_M_X11_value__0 s m args below meth c A prog_13_method_53_code Q .lreturn [.long r] u) {t : fw_S} {x1 : Int32} {H : Heap} {locs : List Loc} {ls : Array Slot} (hf : b_M_X11_value__0_0  t x1 = some (r, u)) (hP : va_P D classes (WM ca a t) H) (hS : va_S A s.heap H locs) (hl : lv_has ls 2 [(0, .ref (a 0)), (1, .int x1)]) : W p l e rm_M_X11_value__0 s m args below meth c H locs 0 0 Q (F0 m 0 ls []) := by
  obtain ⟨hx, hb, hml, hown, hts, hN, hK, hD, hA⟩ := id C
  have hf : (fb_b (f_M_X11_isCell t x1) fun v_2 t_1 => (if v_2 = 0 then b_M_X11_value__0_16 t_1 else b_M_X11_value__0_7 t_1 x1)) = some (r, u) := hf
  refine lv_iload_n hx hb dX11_value_0 rfl (lv_at hl 1 rfl) ?_
  obtain ⟨v_2, t_1, g_1, hf⟩ := fb_bs hf
  refine fw_S1 (As := [.int x1]) (rest := []) (n := 1) C (c_M_X11_isCell (l := l) (D := D) (ca := ca) (a := a) g_1) kw_1437 kw_1438 kw_102 kw_1439 hP hS hl rfl rfl (by decide) (by decide +kernel) ⟨Nat.le_of_ble_eq_true rfl, Nat.le_of_ble_eq_true rfl⟩ rfl rfl (Nat.le_of_ble_eq_true rfl) dX11_value_1 (fun H locs hP hS => ?_)
  refine W.eq (g2 := F0 m 4 ls [.int v_2]) rfl ?_
  refine lv_if_eq (tgt := 16) hx hb dX11_value_4 (by decide) (fun h_4 => ?_) (fun h_4 => ?_)
  · have hf := fb_t h_4 hf
    exact w_M_X11_value__0_16 C hr hf hP hS (lv_sub hl [] rfl)
  · have hf := fb_f h_4 hf
    exact w_M_X11_value__0_7 C hr hf hP hS (lv_sub hl [0, 1] rfl)
set_option maxRecDepth 20000 in
theorem c_M_X11_value__0 {l : Launch} {D : va_G} {ca : Nat → ClassId} {a : Nat → Nat} {t : fw_S} {x1 : Int32} {u : fw_S} {r : Int64} (hf : f_M_X11_value__0 t x1 = some (r, u)) : MC (WM ca a) D (tyv ca) l yX11_value (.code yX11_value prog_13_method_53_code 2 (some .long) :: lw_gd) rm_M_X11_value__0 [.ref (a 0), .int x1] (some (.long r)) t u := by
  refine fw_met (okM ca a) (by decide +kernel) rfl rfl (Nat.le_of_ble_eq_true rfl) ?_
  intro p e s m args below meth c A Q ls C hr hk hP hS hl hQ
  exact w_M_X11_value__0_0 C (fun _ => fw_rl C hr hk hQ) hf hP hS (lv_sub hl [0, 1] rfl)
/-! ReactiveSheetModel.readers(I)J ['m'] -/
abbrev rm_M_X11_readers__0 : Room := { frames := 2, cells := 0, slots := 0, locals := 42 }
def b_M_X11_readers__0_74  (t : fw_S) (y2 : Int64) : Option (Int64 × fw_S) := some (y2, t)
def b_M_X11_readers__0_68 (k16 : fw_S → Int32 → Int64 → Int32 → Option (Int64 × fw_S)) (t : fw_S) (x1 : Int32) (y2 : Int64) (x4 : Int32) : Option (Int64 × fw_S) := k16 t x1 y2 (x4 + 1)
def b_M_X11_readers__0_62 (k16 : fw_S → Int32 → Int64 → Int32 → Option (Int64 × fw_S)) (k26 : fw_S → Int32 → Int64 → Int32 → Int32 → Option (Int64 × fw_S)) (t : fw_S) (x1 : Int32) (y2 : Int64) (x4 : Int32) (x5 : Int32) : Option (Int64 × fw_S) := k26 t x1 y2 x4 (x5 + 1)
def b_M_X11_readers__0_55 (k16 : fw_S → Int32 → Int64 → Int32 → Option (Int64 × fw_S)) (k26 : fw_S → Int32 → Int64 → Int32 → Int32 → Option (Int64 × fw_S)) (t : fw_S) (x1 : Int32) (y2 : Int64) (x4 : Int32) (x5 : Int32) : Option (Int64 × fw_S) := b_M_X11_readers__0_62 k16 k26 t x1 (y2 ||| (((1 : Int64)) <<< (x4.toInt64 &&& 63))) x4 x5
def b_M_X11_readers__0_38 (k16 : fw_S → Int32 → Int64 → Int32 → Option (Int64 × fw_S)) (k26 : fw_S → Int32 → Int64 → Int32 → Int32 → Option (Int64 × fw_S)) (t : fw_S) (x1 : Int32) (y2 : Int64) (x4 : Int32) (x5 : Int32) : Option (Int64 × fw_S) := fb_g (¬ (((((32 : Int32)) * x4) + x5) < 0 ∨ 1024 ≤ ((((32 : Int32)) * x4) + x5).toNatClampNeg)) (if (st_F t 6 ((((32 : Int32)) * x4) + x5).toNatClampNeg) = x1 then b_M_X11_readers__0_55 k16 k26 t x1 y2 x4 x5 else b_M_X11_readers__0_62 k16 k26 t x1 y2 x4 x5)
def b_M_X11_readers__0_26 (k16 : fw_S → Int32 → Int64 → Int32 → Option (Int64 × fw_S)) : Nat → (fw_S → Int32 → Int64 → Int32 → Int32 → Option (Int64 × fw_S))
  | 0 => fun _ _ _ _ _ => none
  | n + 1 => fun t x1 y2 x4 x5 => fb_g (¬ (x4 < 0 ∨ 32 ≤ x4.toNatClampNeg)) (if (st_F t 3 x4.toNatClampNeg) ≤ x5 then b_M_X11_readers__0_68 k16 t x1 y2 x4 else b_M_X11_readers__0_38 k16 (b_M_X11_readers__0_26 k16 n) t x1 y2 x4 x5)
def b_M_X11_readers__0_23 (k16 : fw_S → Int32 → Int64 → Int32 → Option (Int64 × fw_S)) (t : fw_S) (x1 : Int32) (y2 : Int64) (x4 : Int32) : Option (Int64 × fw_S) := b_M_X11_readers__0_26 k16 3000 t x1 y2 x4 ((0 : Int32))
def b_M_X11_readers__0_16  : Nat → (fw_S → Int32 → Int64 → Int32 → Option (Int64 × fw_S))
  | 0 => fun _ _ _ _ => none
  | n + 1 => fun t x1 y2 x4 => if ((32 : Int32)) ≤ x4 then b_M_X11_readers__0_74 t y2 else b_M_X11_readers__0_23 (b_M_X11_readers__0_16 n) t x1 y2 x4
def b_M_X11_readers__0_11  (t : fw_S) (x1 : Int32) : Option (Int64 × fw_S) := b_M_X11_readers__0_16 3000 t x1 ((0 : Int64)) ((0 : Int32))
def b_M_X11_readers__0_7  (t : fw_S)  : Option (Int64 × fw_S) := some ((-9223372036854775808 : Int64), t)
def b_M_X11_readers__0_0  (t : fw_S) (x1 : Int32) : Option (Int64 × fw_S) := fb_b (f_M_X11_isCell t x1) fun v_2 t_1 => (if v_2 = 0 then b_M_X11_readers__0_7 t_1 else b_M_X11_readers__0_11 t_1 x1)
def f_M_X11_readers__0 (t : fw_S) (x1 : Int32) : Option (Int64 × fw_S) := b_M_X11_readers__0_0 t x1
set_option maxRecDepth 20000 in
theorem w_M_X11_readers__0_74 {p : Program} {l : Launch} {e : Env} {s : State} {m : MethodId} {args : Array Value} {below : List Frame} {meth : Method} {c : Code} {A : Nat → Prop} {Q : State → Prop} {D : va_G} {ca : Nat → ClassId} {a : Nat → Nat} {u : fw_S} {r : Int64}  (C : CX (WM ca a) D (tyv ca) p s m args c A prog_13_method_56_code 6 RX11) (hr : True → RX (WM ca a) D p l e rm_M_X11_readers__0 s m args below meth c A prog_13_method_56_code Q .lreturn [.long r] u) {t : fw_S} {y2 : Int64} {H : Heap} {locs : List Loc} {ls : Array Slot} (hf : b_M_X11_readers__0_74  t y2 = some (r, u)) (hP : va_P D classes (WM ca a t) H) (hS : va_S A s.heap H locs) (hl : lv_has ls 6 [(2, .long y2)]) : W p l e rm_M_X11_readers__0 s m args below meth c H locs 0 0 Q (F0 m 74 ls []) := by
  obtain ⟨hx, hb, hml, hown, hts, hN, hK, hD, hA⟩ := id C
  have hf : (some (y2, t)) = some (r, u) := hf
  refine lv_lload_n hx hb dX11_readers_74 rfl (lv_at hl 0 rfl) ?_
  obtain ⟨e_75, e2_75⟩ := fb_e hf
  subst e_75; subst e2_75
  exact hr trivial _ _ _ _ hP hS dX11_readers_75
set_option maxRecDepth 20000 in
theorem w_M_X11_readers__0_68 {p : Program} {l : Launch} {e : Env} {s : State} {m : MethodId} {args : Array Value} {below : List Frame} {meth : Method} {c : Code} {A : Nat → Prop} {Q : State → Prop} {D : va_G} {ca : Nat → ClassId} {a : Nat → Nat} {u : fw_S} {r : Int64} {k16 : fw_S → Int32 → Int64 → Int32 → Option (Int64 × fw_S)} (C : CX (WM ca a) D (tyv ca) p s m args c A prog_13_method_56_code 6 RX11) (hr : True → RX (WM ca a) D p l e rm_M_X11_readers__0 s m args below meth c A prog_13_method_56_code Q .lreturn [.long r] u) (hk16 : ∀ (t : fw_S) (x1 : Int32) (y2 : Int64) (x4 : Int32) (H : Heap) (locs : List Loc) (ls : Array Slot), k16 t x1 y2 x4 = some (r, u) → va_P D classes (WM ca a t) H → va_S A s.heap H locs → lv_has ls 6 [(0, .ref (a 0)), (1, .int x1), (2, .long y2), (4, .int x4)] → W p l e rm_M_X11_readers__0 s m args below meth c H locs 0 0 Q (F0 m 16 ls [])) {t : fw_S} {x1 : Int32} {y2 : Int64} {x4 : Int32} {H : Heap} {locs : List Loc} {ls : Array Slot} (hf : b_M_X11_readers__0_68 k16 t x1 y2 x4 = some (r, u)) (hP : va_P D classes (WM ca a t) H) (hS : va_S A s.heap H locs) (hl : lv_has ls 6 [(0, .ref (a 0)), (1, .int x1), (2, .long y2), (4, .int x4)]) : W p l e rm_M_X11_readers__0 s m args below meth c H locs 0 0 Q (F0 m 68 ls []) := by
  obtain ⟨hx, hb, hml, hown, hts, hN, hK, hD, hA⟩ := id C
  have hf : (k16 t x1 y2 (x4 + 1)) = some (r, u) := hf
  refine lv_iinc (v := x4 + 1) (lv' := [(4, .int (x4 + 1)), (0, .ref (a 0)), (1, .int x1), (2, .long y2)]) hx hb dX11_readers_68 hl (k := 3) rfl rfl (by decide) rfl (fun ls hl => ?_)
  refine lv_goto (tgt := 16) hx hb dX11_readers_71 (by decide) ?_
  exact hk16 t x1 y2 (x4 + 1) _ _ _ hf hP hS (lv_sub hl [1, 2, 3, 0] rfl)
set_option maxRecDepth 20000 in
theorem w_M_X11_readers__0_62 {p : Program} {l : Launch} {e : Env} {s : State} {m : MethodId} {args : Array Value} {below : List Frame} {meth : Method} {c : Code} {A : Nat → Prop} {Q : State → Prop} {D : va_G} {ca : Nat → ClassId} {a : Nat → Nat} {u : fw_S} {r : Int64} {k16 : fw_S → Int32 → Int64 → Int32 → Option (Int64 × fw_S)} {k26 : fw_S → Int32 → Int64 → Int32 → Int32 → Option (Int64 × fw_S)} (C : CX (WM ca a) D (tyv ca) p s m args c A prog_13_method_56_code 6 RX11) (hr : True → RX (WM ca a) D p l e rm_M_X11_readers__0 s m args below meth c A prog_13_method_56_code Q .lreturn [.long r] u) (hk16 : ∀ (t : fw_S) (x1 : Int32) (y2 : Int64) (x4 : Int32) (H : Heap) (locs : List Loc) (ls : Array Slot), k16 t x1 y2 x4 = some (r, u) → va_P D classes (WM ca a t) H → va_S A s.heap H locs → lv_has ls 6 [(0, .ref (a 0)), (1, .int x1), (2, .long y2), (4, .int x4)] → W p l e rm_M_X11_readers__0 s m args below meth c H locs 0 0 Q (F0 m 16 ls [])) (hk26 : ∀ (t : fw_S) (x1 : Int32) (y2 : Int64) (x4 : Int32) (x5 : Int32) (H : Heap) (locs : List Loc) (ls : Array Slot), k26 t x1 y2 x4 x5 = some (r, u) → va_P D classes (WM ca a t) H → va_S A s.heap H locs → lv_has ls 6 [(0, .ref (a 0)), (1, .int x1), (2, .long y2), (4, .int x4), (5, .int x5)] → W p l e rm_M_X11_readers__0 s m args below meth c H locs 0 0 Q (F0 m 26 ls [])) {t : fw_S} {x1 : Int32} {y2 : Int64} {x4 : Int32} {x5 : Int32} {H : Heap} {locs : List Loc} {ls : Array Slot} (hf : b_M_X11_readers__0_62 k16 k26 t x1 y2 x4 x5 = some (r, u)) (hP : va_P D classes (WM ca a t) H) (hS : va_S A s.heap H locs) (hl : lv_has ls 6 [(0, .ref (a 0)), (1, .int x1), (2, .long y2), (4, .int x4), (5, .int x5)]) : W p l e rm_M_X11_readers__0 s m args below meth c H locs 0 0 Q (F0 m 62 ls []) := by
  obtain ⟨hx, hb, hml, hown, hts, hN, hK, hD, hA⟩ := id C
  have hf : (k26 t x1 y2 x4 (x5 + 1)) = some (r, u) := hf
  refine lv_iinc (v := x5 + 1) (lv' := [(5, .int (x5 + 1)), (0, .ref (a 0)), (1, .int x1), (2, .long y2), (4, .int x4)]) hx hb dX11_readers_62 hl (k := 4) rfl rfl (by decide) rfl (fun ls hl => ?_)
  refine lv_goto (tgt := 26) hx hb dX11_readers_65 (by decide) ?_
  exact hk26 t x1 y2 x4 (x5 + 1) _ _ _ hf hP hS (lv_sub hl [1, 2, 3, 4, 0] rfl)
set_option maxRecDepth 20000 in
theorem w_M_X11_readers__0_55 {p : Program} {l : Launch} {e : Env} {s : State} {m : MethodId} {args : Array Value} {below : List Frame} {meth : Method} {c : Code} {A : Nat → Prop} {Q : State → Prop} {D : va_G} {ca : Nat → ClassId} {a : Nat → Nat} {u : fw_S} {r : Int64} {k16 : fw_S → Int32 → Int64 → Int32 → Option (Int64 × fw_S)} {k26 : fw_S → Int32 → Int64 → Int32 → Int32 → Option (Int64 × fw_S)} (C : CX (WM ca a) D (tyv ca) p s m args c A prog_13_method_56_code 6 RX11) (hr : True → RX (WM ca a) D p l e rm_M_X11_readers__0 s m args below meth c A prog_13_method_56_code Q .lreturn [.long r] u) (hk16 : ∀ (t : fw_S) (x1 : Int32) (y2 : Int64) (x4 : Int32) (H : Heap) (locs : List Loc) (ls : Array Slot), k16 t x1 y2 x4 = some (r, u) → va_P D classes (WM ca a t) H → va_S A s.heap H locs → lv_has ls 6 [(0, .ref (a 0)), (1, .int x1), (2, .long y2), (4, .int x4)] → W p l e rm_M_X11_readers__0 s m args below meth c H locs 0 0 Q (F0 m 16 ls [])) (hk26 : ∀ (t : fw_S) (x1 : Int32) (y2 : Int64) (x4 : Int32) (x5 : Int32) (H : Heap) (locs : List Loc) (ls : Array Slot), k26 t x1 y2 x4 x5 = some (r, u) → va_P D classes (WM ca a t) H → va_S A s.heap H locs → lv_has ls 6 [(0, .ref (a 0)), (1, .int x1), (2, .long y2), (4, .int x4), (5, .int x5)] → W p l e rm_M_X11_readers__0 s m args below meth c H locs 0 0 Q (F0 m 26 ls [])) {t : fw_S} {x1 : Int32} {y2 : Int64} {x4 : Int32} {x5 : Int32} {H : Heap} {locs : List Loc} {ls : Array Slot} (hf : b_M_X11_readers__0_55 k16 k26 t x1 y2 x4 x5 = some (r, u)) (hP : va_P D classes (WM ca a t) H) (hS : va_S A s.heap H locs) (hl : lv_has ls 6 [(0, .ref (a 0)), (1, .int x1), (2, .long y2), (4, .int x4), (5, .int x5)]) : W p l e rm_M_X11_readers__0 s m args below meth c H locs 0 0 Q (F0 m 55 ls []) := by
  obtain ⟨hx, hb, hml, hown, hts, hN, hK, hD, hA⟩ := id C
  have hf : (b_M_X11_readers__0_62 k16 k26 t x1 (y2 ||| (((1 : Int64)) <<< (x4.toInt64 &&& 63))) x4 x5) = some (r, u) := hf
  refine lv_lload_n hx hb dX11_readers_55 rfl (lv_at hl 2 rfl) ?_
  refine lv_lconst (v := 1) hx hb dX11_readers_56 (by decide) ?_
  refine lv_iload hx hb dX11_readers_57 (lv_at hl 3 rfl) ?_
  refine lv_lshl hx hb dX11_readers_59 rfl ?_
  refine lv_lor hx hb dX11_readers_60 ?_
  refine lv_lstore_n (lv' := [(2, .long (y2 ||| (((1 : Int64)) <<< (x4.toInt64 &&& 63)))), (0, .ref (a 0)), (1, .int x1), (4, .int x4), (5, .int x5)]) hx hb dX11_readers_61 rfl hl (by decide) rfl (fun ls hl => ?_)
  exact w_M_X11_readers__0_62 C hr hk16 hk26 hf hP hS (lv_sub hl [1, 2, 0, 3, 4] rfl)
set_option maxRecDepth 20000 in
theorem w_M_X11_readers__0_38 {p : Program} {l : Launch} {e : Env} {s : State} {m : MethodId} {args : Array Value} {below : List Frame} {meth : Method} {c : Code} {A : Nat → Prop} {Q : State → Prop} {D : va_G} {ca : Nat → ClassId} {a : Nat → Nat} {u : fw_S} {r : Int64} {k16 : fw_S → Int32 → Int64 → Int32 → Option (Int64 × fw_S)} {k26 : fw_S → Int32 → Int64 → Int32 → Int32 → Option (Int64 × fw_S)} (C : CX (WM ca a) D (tyv ca) p s m args c A prog_13_method_56_code 6 RX11) (hr : True → RX (WM ca a) D p l e rm_M_X11_readers__0 s m args below meth c A prog_13_method_56_code Q .lreturn [.long r] u) (hk16 : ∀ (t : fw_S) (x1 : Int32) (y2 : Int64) (x4 : Int32) (H : Heap) (locs : List Loc) (ls : Array Slot), k16 t x1 y2 x4 = some (r, u) → va_P D classes (WM ca a t) H → va_S A s.heap H locs → lv_has ls 6 [(0, .ref (a 0)), (1, .int x1), (2, .long y2), (4, .int x4)] → W p l e rm_M_X11_readers__0 s m args below meth c H locs 0 0 Q (F0 m 16 ls [])) (hk26 : ∀ (t : fw_S) (x1 : Int32) (y2 : Int64) (x4 : Int32) (x5 : Int32) (H : Heap) (locs : List Loc) (ls : Array Slot), k26 t x1 y2 x4 x5 = some (r, u) → va_P D classes (WM ca a t) H → va_S A s.heap H locs → lv_has ls 6 [(0, .ref (a 0)), (1, .int x1), (2, .long y2), (4, .int x4), (5, .int x5)] → W p l e rm_M_X11_readers__0 s m args below meth c H locs 0 0 Q (F0 m 26 ls [])) {t : fw_S} {x1 : Int32} {y2 : Int64} {x4 : Int32} {x5 : Int32} {H : Heap} {locs : List Loc} {ls : Array Slot} (hf : b_M_X11_readers__0_38 k16 k26 t x1 y2 x4 x5 = some (r, u)) (hP : va_P D classes (WM ca a t) H) (hS : va_S A s.heap H locs) (hl : lv_has ls 6 [(0, .ref (a 0)), (1, .int x1), (2, .long y2), (4, .int x4), (5, .int x5)]) : W p l e rm_M_X11_readers__0 s m args below meth c H locs 0 0 Q (F0 m 38 ls []) := by
  obtain ⟨hx, hb, hml, hown, hts, hN, hK, hD, hA⟩ := id C
  have hf : (fb_g (¬ (((((32 : Int32)) * x4) + x5) < 0 ∨ 1024 ≤ ((((32 : Int32)) * x4) + x5).toNatClampNeg)) (if (st_F t 6 ((((32 : Int32)) * x4) + x5).toNatClampNeg) = x1 then b_M_X11_readers__0_55 k16 k26 t x1 y2 x4 x5 else b_M_X11_readers__0_62 k16 k26 t x1 y2 x4 x5)) = some (r, u) := hf
  refine lv_aload_n hx hb dX11_readers_38 rfl (lv_at hl 0 rfl) ?_
  refine va_get (D := D) (ci := 11) (v := .ref (a 8)) (C := RX11) (T := TX11) (N := 76) hx hb hts inX11 hown hK hP 0 (heM_0 ca a t) rfl 7 (by decide) (hts _ kw_1199) (fun _ h9 => h9) rfl dX11_readers_39 ?_
  refine lv_bipush (v := 32) hx hb dX11_readers_42 (by decide) ?_
  refine lv_iload hx hb dX11_readers_44 (lv_at hl 3 rfl) ?_
  refine lv_imul hx hb dX11_readers_46 ?_
  refine lv_iload hx hb dX11_readers_47 (lv_at hl 4 rfl) ?_
  refine lv_iadd hx hb dX11_readers_49 ?_
  obtain ⟨h_50, hf⟩ := fb_if hf
  refine va_iald hx hb hK hP 8 0 (haM_8 ca a t) rfl h_50 dX11_readers_50 ?_
  refine lv_iload_n hx hb dX11_readers_51 rfl (lv_at hl 1 rfl) ?_
  refine lv_icmp_ne (tgt := 62) hx hb dX11_readers_52 (by decide) (fun h_52 => ?_) (fun h_52 => ?_)
  · have hf := fb_f h_52 hf
    exact w_M_X11_readers__0_62 C hr hk16 hk26 hf hP hS (lv_sub hl [0, 1, 2, 3, 4] rfl)
  · have hf := fb_t h_52 hf
    exact w_M_X11_readers__0_55 C hr hk16 hk26 hf hP hS (lv_sub hl [0, 1, 2, 3, 4] rfl)
set_option maxRecDepth 20000 in
theorem w_M_X11_readers__0_26 {p : Program} {l : Launch} {e : Env} {s : State} {m : MethodId} {args : Array Value} {below : List Frame} {meth : Method} {c : Code} {A : Nat → Prop} {Q : State → Prop} {D : va_G} {ca : Nat → ClassId} {a : Nat → Nat} {u : fw_S} {r : Int64} {k16 : fw_S → Int32 → Int64 → Int32 → Option (Int64 × fw_S)} (C : CX (WM ca a) D (tyv ca) p s m args c A prog_13_method_56_code 6 RX11) (hr : True → RX (WM ca a) D p l e rm_M_X11_readers__0 s m args below meth c A prog_13_method_56_code Q .lreturn [.long r] u) (hk16 : ∀ (t : fw_S) (x1 : Int32) (y2 : Int64) (x4 : Int32) (H : Heap) (locs : List Loc) (ls : Array Slot), k16 t x1 y2 x4 = some (r, u) → va_P D classes (WM ca a t) H → va_S A s.heap H locs → lv_has ls 6 [(0, .ref (a 0)), (1, .int x1), (2, .long y2), (4, .int x4)] → W p l e rm_M_X11_readers__0 s m args below meth c H locs 0 0 Q (F0 m 16 ls [])) : ∀ (n : Nat) (t : fw_S) (x1 : Int32) (y2 : Int64) (x4 : Int32) (x5 : Int32) (H : Heap) (locs : List Loc) (ls : Array Slot), b_M_X11_readers__0_26 k16 n t x1 y2 x4 x5 = some (r, u) → va_P D classes (WM ca a t) H → va_S A s.heap H locs → lv_has ls 6 [(0, .ref (a 0)), (1, .int x1), (2, .long y2), (4, .int x4), (5, .int x5)] → W p l e rm_M_X11_readers__0 s m args below meth c H locs 0 0 Q (F0 m 26 ls []) := by
  obtain ⟨hx, hb, hml, hown, hts, hN, hK, hD, hA⟩ := id C
  intro n
  induction n with
  | zero => intro t x1 y2 x4 x5 H locs ls hf; cases hf
  | succ n hk26 =>
    intro t x1 y2 x4 x5 H locs ls hf hP hS hl
    have hf : (fb_g (¬ (x4 < 0 ∨ 32 ≤ x4.toNatClampNeg)) (if (st_F t 3 x4.toNatClampNeg) ≤ x5 then b_M_X11_readers__0_68 k16 t x1 y2 x4 else b_M_X11_readers__0_38 k16 (b_M_X11_readers__0_26 k16 n) t x1 y2 x4 x5)) = some (r, u) := hf
    refine lv_iload hx hb dX11_readers_26 (lv_at hl 4 rfl) ?_
    refine lv_aload_n hx hb dX11_readers_28 rfl (lv_at hl 0 rfl) ?_
    refine va_get (D := D) (ci := 11) (v := .ref (a 4)) (C := RX11) (T := TX11) (N := 76) hx hb hts inX11 hown hK hP 0 (heM_0 ca a t) rfl 3 (by decide) (hts _ kw_1195) (fun _ h9 => h9) rfl dX11_readers_29 ?_
    refine lv_iload hx hb dX11_readers_32 (lv_at hl 3 rfl) ?_
    obtain ⟨h_34, hf⟩ := fb_if hf
    refine va_iald hx hb hK hP 4 0 (haM_4 ca a t) rfl h_34 dX11_readers_34 ?_
    refine lv_icmp_ge (tgt := 68) hx hb dX11_readers_35 (by decide) (fun h_35 => ?_) (fun h_35 => ?_)
    · have hf := fb_t h_35 hf
      exact w_M_X11_readers__0_68 C hr hk16 hf hP hS (lv_sub hl [0, 1, 2, 3] rfl)
    · have hf := fb_f h_35 hf
      exact w_M_X11_readers__0_38 C hr hk16 hk26 hf hP hS (lv_sub hl [0, 1, 2, 3, 4] rfl)
set_option maxRecDepth 20000 in
theorem w_M_X11_readers__0_23 {p : Program} {l : Launch} {e : Env} {s : State} {m : MethodId} {args : Array Value} {below : List Frame} {meth : Method} {c : Code} {A : Nat → Prop} {Q : State → Prop} {D : va_G} {ca : Nat → ClassId} {a : Nat → Nat} {u : fw_S} {r : Int64} {k16 : fw_S → Int32 → Int64 → Int32 → Option (Int64 × fw_S)} (C : CX (WM ca a) D (tyv ca) p s m args c A prog_13_method_56_code 6 RX11) (hr : True → RX (WM ca a) D p l e rm_M_X11_readers__0 s m args below meth c A prog_13_method_56_code Q .lreturn [.long r] u) (hk16 : ∀ (t : fw_S) (x1 : Int32) (y2 : Int64) (x4 : Int32) (H : Heap) (locs : List Loc) (ls : Array Slot), k16 t x1 y2 x4 = some (r, u) → va_P D classes (WM ca a t) H → va_S A s.heap H locs → lv_has ls 6 [(0, .ref (a 0)), (1, .int x1), (2, .long y2), (4, .int x4)] → W p l e rm_M_X11_readers__0 s m args below meth c H locs 0 0 Q (F0 m 16 ls [])) {t : fw_S} {x1 : Int32} {y2 : Int64} {x4 : Int32} {H : Heap} {locs : List Loc} {ls : Array Slot} (hf : b_M_X11_readers__0_23 k16 t x1 y2 x4 = some (r, u)) (hP : va_P D classes (WM ca a t) H) (hS : va_S A s.heap H locs) (hl : lv_has ls 6 [(0, .ref (a 0)), (1, .int x1), (2, .long y2), (4, .int x4)]) : W p l e rm_M_X11_readers__0 s m args below meth c H locs 0 0 Q (F0 m 23 ls []) := by
  obtain ⟨hx, hb, hml, hown, hts, hN, hK, hD, hA⟩ := id C
  have hf : (b_M_X11_readers__0_26 k16 3000 t x1 y2 x4 ((0 : Int32))) = some (r, u) := hf
  refine lv_iconst (v := 0) hx hb dX11_readers_23 (by decide) ?_
  refine lv_istore (lv' := [(5, .int ((0 : Int32))), (0, .ref (a 0)), (1, .int x1), (2, .long y2), (4, .int x4)]) hx hb dX11_readers_24 hl (by decide) rfl (fun ls hl => ?_)
  exact w_M_X11_readers__0_26 C hr hk16 3000 t x1 y2 x4 ((0 : Int32)) _ _ _ hf hP hS (lv_sub hl [1, 2, 3, 4, 0] rfl)
set_option maxRecDepth 20000 in
theorem w_M_X11_readers__0_16 {p : Program} {l : Launch} {e : Env} {s : State} {m : MethodId} {args : Array Value} {below : List Frame} {meth : Method} {c : Code} {A : Nat → Prop} {Q : State → Prop} {D : va_G} {ca : Nat → ClassId} {a : Nat → Nat} {u : fw_S} {r : Int64}  (C : CX (WM ca a) D (tyv ca) p s m args c A prog_13_method_56_code 6 RX11) (hr : True → RX (WM ca a) D p l e rm_M_X11_readers__0 s m args below meth c A prog_13_method_56_code Q .lreturn [.long r] u) : ∀ (n : Nat) (t : fw_S) (x1 : Int32) (y2 : Int64) (x4 : Int32) (H : Heap) (locs : List Loc) (ls : Array Slot), b_M_X11_readers__0_16  n t x1 y2 x4 = some (r, u) → va_P D classes (WM ca a t) H → va_S A s.heap H locs → lv_has ls 6 [(0, .ref (a 0)), (1, .int x1), (2, .long y2), (4, .int x4)] → W p l e rm_M_X11_readers__0 s m args below meth c H locs 0 0 Q (F0 m 16 ls []) := by
  obtain ⟨hx, hb, hml, hown, hts, hN, hK, hD, hA⟩ := id C
  intro n
  induction n with
  | zero => intro t x1 y2 x4 H locs ls hf; cases hf
  | succ n hk16 =>
    intro t x1 y2 x4 H locs ls hf hP hS hl
    have hf : (if ((32 : Int32)) ≤ x4 then b_M_X11_readers__0_74 t y2 else b_M_X11_readers__0_23 (b_M_X11_readers__0_16 n) t x1 y2 x4) = some (r, u) := hf
    refine lv_iload hx hb dX11_readers_16 (lv_at hl 3 rfl) ?_
    refine lv_bipush (v := 32) hx hb dX11_readers_18 (by decide) ?_
    refine lv_icmp_ge (tgt := 74) hx hb dX11_readers_20 (by decide) (fun h_20 => ?_) (fun h_20 => ?_)
    · have hf := fb_t h_20 hf
      exact w_M_X11_readers__0_74 C hr hf hP hS (lv_sub hl [2] rfl)
    · have hf := fb_f h_20 hf
      exact w_M_X11_readers__0_23 C hr hk16 hf hP hS (lv_sub hl [0, 1, 2, 3] rfl)
set_option maxRecDepth 20000 in
theorem w_M_X11_readers__0_11 {p : Program} {l : Launch} {e : Env} {s : State} {m : MethodId} {args : Array Value} {below : List Frame} {meth : Method} {c : Code} {A : Nat → Prop} {Q : State → Prop} {D : va_G} {ca : Nat → ClassId} {a : Nat → Nat} {u : fw_S} {r : Int64}  (C : CX (WM ca a) D (tyv ca) p s m args c A prog_13_method_56_code 6 RX11) (hr : True → RX (WM ca a) D p l e rm_M_X11_readers__0 s m args below meth c A prog_13_method_56_code Q .lreturn [.long r] u) {t : fw_S} {x1 : Int32} {H : Heap} {locs : List Loc} {ls : Array Slot} (hf : b_M_X11_readers__0_11  t x1 = some (r, u)) (hP : va_P D classes (WM ca a t) H) (hS : va_S A s.heap H locs) (hl : lv_has ls 6 [(0, .ref (a 0)), (1, .int x1)]) : W p l e rm_M_X11_readers__0 s m args below meth c H locs 0 0 Q (F0 m 11 ls []) := by
  obtain ⟨hx, hb, hml, hown, hts, hN, hK, hD, hA⟩ := id C
  have hf : (b_M_X11_readers__0_16 3000 t x1 ((0 : Int64)) ((0 : Int32))) = some (r, u) := hf
  refine lv_lconst (v := 0) hx hb dX11_readers_11 (by decide) ?_
  refine lv_lstore_n (lv' := [(2, .long ((0 : Int64))), (0, .ref (a 0)), (1, .int x1)]) hx hb dX11_readers_12 rfl hl (by decide) rfl (fun ls hl => ?_)
  refine lv_iconst (v := 0) hx hb dX11_readers_13 (by decide) ?_
  refine lv_istore (lv' := [(4, .int ((0 : Int32))), (2, .long ((0 : Int64))), (0, .ref (a 0)), (1, .int x1)]) hx hb dX11_readers_14 hl (by decide) rfl (fun ls hl => ?_)
  exact w_M_X11_readers__0_16 C hr 3000 t x1 ((0 : Int64)) ((0 : Int32)) _ _ _ hf hP hS (lv_sub hl [2, 3, 1, 0] rfl)
set_option maxRecDepth 20000 in
theorem w_M_X11_readers__0_7 {p : Program} {l : Launch} {e : Env} {s : State} {m : MethodId} {args : Array Value} {below : List Frame} {meth : Method} {c : Code} {A : Nat → Prop} {Q : State → Prop} {D : va_G} {ca : Nat → ClassId} {a : Nat → Nat} {u : fw_S} {r : Int64}  (C : CX (WM ca a) D (tyv ca) p s m args c A prog_13_method_56_code 6 RX11) (hr : True → RX (WM ca a) D p l e rm_M_X11_readers__0 s m args below meth c A prog_13_method_56_code Q .lreturn [.long r] u) {t : fw_S}  {H : Heap} {locs : List Loc} {ls : Array Slot} (hf : b_M_X11_readers__0_7  t  = some (r, u)) (hP : va_P D classes (WM ca a t) H) (hS : va_S A s.heap H locs) (hl : lv_has ls 6 []) : W p l e rm_M_X11_readers__0 s m args below meth c H locs 0 0 Q (F0 m 7 ls []) := by
  obtain ⟨hx, hb, hml, hown, hts, hN, hK, hD, hA⟩ := id C
  have hf : (some ((-9223372036854775808 : Int64), t)) = some (r, u) := hf
  refine lv_ldc2 (v := (-9223372036854775808)) hx hb hown (hts _ kw_1506) dX11_readers_7 ?_
  obtain ⟨e_10, e2_10⟩ := fb_e hf
  subst e_10; subst e2_10
  exact hr trivial _ _ _ _ hP hS dX11_readers_10
set_option maxRecDepth 20000 in
theorem w_M_X11_readers__0_0 {p : Program} {l : Launch} {e : Env} {s : State} {m : MethodId} {args : Array Value} {below : List Frame} {meth : Method} {c : Code} {A : Nat → Prop} {Q : State → Prop} {D : va_G} {ca : Nat → ClassId} {a : Nat → Nat} {u : fw_S} {r : Int64}  (C : CX (WM ca a) D (tyv ca) p s m args c A prog_13_method_56_code 6 RX11) (hr : True → RX (WM ca a) D p l e rm_M_X11_readers__0 s m args below meth c A prog_13_method_56_code Q .lreturn [.long r] u) {t : fw_S} {x1 : Int32} {H : Heap} {locs : List Loc} {ls : Array Slot} (hf : b_M_X11_readers__0_0  t x1 = some (r, u)) (hP : va_P D classes (WM ca a t) H) (hS : va_S A s.heap H locs) (hl : lv_has ls 6 [(0, .ref (a 0)), (1, .int x1)]) : W p l e rm_M_X11_readers__0 s m args below meth c H locs 0 0 Q (F0 m 0 ls []) := by
  obtain ⟨hx, hb, hml, hown, hts, hN, hK, hD, hA⟩ := id C
  have hf : (fb_b (f_M_X11_isCell t x1) fun v_2 t_1 => (if v_2 = 0 then b_M_X11_readers__0_7 t_1 else b_M_X11_readers__0_11 t_1 x1)) = some (r, u) := hf
  refine lv_iload_n hx hb dX11_readers_0 rfl (lv_at hl 1 rfl) ?_
  obtain ⟨v_2, t_1, g_1, hf⟩ := fb_bs hf
  refine fw_S1 (As := [.int x1]) (rest := []) (n := 1) C (c_M_X11_isCell (l := l) (D := D) (ca := ca) (a := a) g_1) kw_1437 kw_1438 kw_102 kw_1439 hP hS hl rfl rfl (by decide) (by decide +kernel) ⟨Nat.le_of_ble_eq_true rfl, Nat.le_of_ble_eq_true rfl⟩ rfl rfl (Nat.le_of_ble_eq_true rfl) dX11_readers_1 (fun H locs hP hS => ?_)
  refine W.eq (g2 := F0 m 4 ls [.int v_2]) rfl ?_
  refine lv_if_ne (tgt := 11) hx hb dX11_readers_4 (by decide) (fun h_4 => ?_) (fun h_4 => ?_)
  · have hf := fb_f h_4 hf
    exact w_M_X11_readers__0_11 C hr hf hP hS (lv_sub hl [0, 1] rfl)
  · have hf := fb_t h_4 hf
    exact w_M_X11_readers__0_7 C hr hf hP hS (lv_sub hl [] rfl)
set_option maxRecDepth 20000 in
theorem c_M_X11_readers__0 {l : Launch} {D : va_G} {ca : Nat → ClassId} {a : Nat → Nat} {t : fw_S} {x1 : Int32} {u : fw_S} {r : Int64} (hf : f_M_X11_readers__0 t x1 = some (r, u)) : MC (WM ca a) D (tyv ca) l yX11_readers (.code yX11_readers prog_13_method_56_code 6 (some .long) :: lw_gd) rm_M_X11_readers__0 [.ref (a 0), .int x1] (some (.long r)) t u := by
  refine fw_met (okM ca a) (by decide +kernel) rfl rfl (Nat.le_of_ble_eq_true rfl) ?_
  intro p e s m args below meth c A Q ls C hr hk hP hS hl hQ
  exact w_M_X11_readers__0_0 C (fun _ => fw_rl C hr hk hQ) hf hP hS (lv_sub hl [0, 1] rfl)
/-! ReactiveSheetModel.ones(J)I [] -/
abbrev rm_M_X11_ones : Room := { frames := 0, cells := 0, slots := 0, locals := 0 }
def b_M_X11_ones_25  (t : fw_S) (x2 : Int32) : Option (Int32 × fw_S) := some (x2, t)
def b_M_X11_ones_10 (k4 : fw_S → Int64 → Int32 → Int32 → Option (Int32 × fw_S)) (t : fw_S) (y0 : Int64) (x2 : Int32) (x3 : Int32) : Option (Int32 × fw_S) := k4 t y0 (x2 + (((y0 >>> (x3.toInt64 &&& 63)) &&& ((1 : Int64))).toInt32)) (x3 + 1)
def b_M_X11_ones_4  : Nat → (fw_S → Int64 → Int32 → Int32 → Option (Int32 × fw_S))
  | 0 => fun _ _ _ _ => none
  | n + 1 => fun t y0 x2 x3 => if ((32 : Int32)) ≤ x3 then b_M_X11_ones_25 t x2 else b_M_X11_ones_10 (b_M_X11_ones_4 n) t y0 x2 x3
def b_M_X11_ones_0  (t : fw_S) (y0 : Int64) : Option (Int32 × fw_S) := b_M_X11_ones_4 3000 t y0 ((0 : Int32)) ((0 : Int32))
def f_M_X11_ones (t : fw_S) (y0 : Int64) : Option (Int32 × fw_S) := b_M_X11_ones_0 t y0
set_option maxRecDepth 20000 in
theorem w_M_X11_ones_25 {p : Program} {l : Launch} {e : Env} {s : State} {m : MethodId} {args : Array Value} {below : List Frame} {meth : Method} {c : Code} {A : Nat → Prop} {Q : State → Prop} {D : va_G} {ca : Nat → ClassId} {a : Nat → Nat} {u : fw_S} {r : Int32}  (C : CX (WM ca a) D (tyv ca) p s m args c A prog_13_method_57_code 4 RX11) (hr : True → RX (WM ca a) D p l e rm_M_X11_ones s m args below meth c A prog_13_method_57_code Q .ireturn [.int r] u) {t : fw_S} {x2 : Int32} {H : Heap} {locs : List Loc} {ls : Array Slot} (hf : b_M_X11_ones_25  t x2 = some (r, u)) (hP : va_P D classes (WM ca a t) H) (hS : va_S A s.heap H locs) (hl : lv_has ls 4 [(2, .int x2)]) : W p l e rm_M_X11_ones s m args below meth c H locs 0 0 Q (F0 m 25 ls []) := by
  obtain ⟨hx, hb, hml, hown, hts, hN, hK, hD, hA⟩ := id C
  have hf : (some (x2, t)) = some (r, u) := hf
  refine lv_iload_n hx hb dX11_ones_25 rfl (lv_at hl 0 rfl) ?_
  obtain ⟨e_26, e2_26⟩ := fb_e hf
  subst e_26; subst e2_26
  exact hr trivial _ _ _ _ hP hS dX11_ones_26
set_option maxRecDepth 20000 in
theorem w_M_X11_ones_10 {p : Program} {l : Launch} {e : Env} {s : State} {m : MethodId} {args : Array Value} {below : List Frame} {meth : Method} {c : Code} {A : Nat → Prop} {Q : State → Prop} {D : va_G} {ca : Nat → ClassId} {a : Nat → Nat} {u : fw_S} {r : Int32} {k4 : fw_S → Int64 → Int32 → Int32 → Option (Int32 × fw_S)} (C : CX (WM ca a) D (tyv ca) p s m args c A prog_13_method_57_code 4 RX11) (hr : True → RX (WM ca a) D p l e rm_M_X11_ones s m args below meth c A prog_13_method_57_code Q .ireturn [.int r] u) (hk4 : ∀ (t : fw_S) (y0 : Int64) (x2 : Int32) (x3 : Int32) (H : Heap) (locs : List Loc) (ls : Array Slot), k4 t y0 x2 x3 = some (r, u) → va_P D classes (WM ca a t) H → va_S A s.heap H locs → lv_has ls 4 [(0, .long y0), (2, .int x2), (3, .int x3)] → W p l e rm_M_X11_ones s m args below meth c H locs 0 0 Q (F0 m 4 ls [])) {t : fw_S} {y0 : Int64} {x2 : Int32} {x3 : Int32} {H : Heap} {locs : List Loc} {ls : Array Slot} (hf : b_M_X11_ones_10 k4 t y0 x2 x3 = some (r, u)) (hP : va_P D classes (WM ca a t) H) (hS : va_S A s.heap H locs) (hl : lv_has ls 4 [(0, .long y0), (2, .int x2), (3, .int x3)]) : W p l e rm_M_X11_ones s m args below meth c H locs 0 0 Q (F0 m 10 ls []) := by
  obtain ⟨hx, hb, hml, hown, hts, hN, hK, hD, hA⟩ := id C
  have hf : (k4 t y0 (x2 + (((y0 >>> (x3.toInt64 &&& 63)) &&& ((1 : Int64))).toInt32)) (x3 + 1)) = some (r, u) := hf
  refine lv_iload_n hx hb dX11_ones_10 rfl (lv_at hl 1 rfl) ?_
  refine lv_lload_n hx hb dX11_ones_11 rfl (lv_at hl 0 rfl) ?_
  refine lv_iload_n hx hb dX11_ones_12 rfl (lv_at hl 2 rfl) ?_
  refine lv_lshr hx hb dX11_ones_13 rfl ?_
  refine lv_lconst (v := 1) hx hb dX11_ones_14 (by decide) ?_
  refine lv_land hx hb dX11_ones_15 ?_
  refine lv_l2i hx hb dX11_ones_16 rfl ?_
  refine lv_iadd hx hb dX11_ones_17 ?_
  refine lv_istore_n (lv' := [(2, .int (x2 + (((y0 >>> (x3.toInt64 &&& 63)) &&& ((1 : Int64))).toInt32))), (0, .long y0), (3, .int x3)]) hx hb dX11_ones_18 rfl hl (by decide) rfl (fun ls hl => ?_)
  refine lv_iinc (v := x3 + 1) (lv' := [(3, .int (x3 + 1)), (2, .int (x2 + (((y0 >>> (x3.toInt64 &&& 63)) &&& ((1 : Int64))).toInt32))), (0, .long y0)]) hx hb dX11_ones_19 hl (k := 2) rfl rfl (by decide) rfl (fun ls hl => ?_)
  refine lv_goto (tgt := 4) hx hb dX11_ones_22 (by decide) ?_
  exact hk4 t y0 (x2 + (((y0 >>> (x3.toInt64 &&& 63)) &&& ((1 : Int64))).toInt32)) (x3 + 1) _ _ _ hf hP hS (lv_sub hl [2, 1, 0] rfl)
set_option maxRecDepth 20000 in
theorem w_M_X11_ones_4 {p : Program} {l : Launch} {e : Env} {s : State} {m : MethodId} {args : Array Value} {below : List Frame} {meth : Method} {c : Code} {A : Nat → Prop} {Q : State → Prop} {D : va_G} {ca : Nat → ClassId} {a : Nat → Nat} {u : fw_S} {r : Int32}  (C : CX (WM ca a) D (tyv ca) p s m args c A prog_13_method_57_code 4 RX11) (hr : True → RX (WM ca a) D p l e rm_M_X11_ones s m args below meth c A prog_13_method_57_code Q .ireturn [.int r] u) : ∀ (n : Nat) (t : fw_S) (y0 : Int64) (x2 : Int32) (x3 : Int32) (H : Heap) (locs : List Loc) (ls : Array Slot), b_M_X11_ones_4  n t y0 x2 x3 = some (r, u) → va_P D classes (WM ca a t) H → va_S A s.heap H locs → lv_has ls 4 [(0, .long y0), (2, .int x2), (3, .int x3)] → W p l e rm_M_X11_ones s m args below meth c H locs 0 0 Q (F0 m 4 ls []) := by
  obtain ⟨hx, hb, hml, hown, hts, hN, hK, hD, hA⟩ := id C
  intro n
  induction n with
  | zero => intro t y0 x2 x3 H locs ls hf; cases hf
  | succ n hk4 =>
    intro t y0 x2 x3 H locs ls hf hP hS hl
    have hf : (if ((32 : Int32)) ≤ x3 then b_M_X11_ones_25 t x2 else b_M_X11_ones_10 (b_M_X11_ones_4 n) t y0 x2 x3) = some (r, u) := hf
    refine lv_iload_n hx hb dX11_ones_4 rfl (lv_at hl 2 rfl) ?_
    refine lv_bipush (v := 32) hx hb dX11_ones_5 (by decide) ?_
    refine lv_icmp_ge (tgt := 25) hx hb dX11_ones_7 (by decide) (fun h_7 => ?_) (fun h_7 => ?_)
    · have hf := fb_t h_7 hf
      exact w_M_X11_ones_25 C hr hf hP hS (lv_sub hl [1] rfl)
    · have hf := fb_f h_7 hf
      exact w_M_X11_ones_10 C hr hk4 hf hP hS (lv_sub hl [0, 1, 2] rfl)
set_option maxRecDepth 20000 in
theorem w_M_X11_ones_0 {p : Program} {l : Launch} {e : Env} {s : State} {m : MethodId} {args : Array Value} {below : List Frame} {meth : Method} {c : Code} {A : Nat → Prop} {Q : State → Prop} {D : va_G} {ca : Nat → ClassId} {a : Nat → Nat} {u : fw_S} {r : Int32}  (C : CX (WM ca a) D (tyv ca) p s m args c A prog_13_method_57_code 4 RX11) (hr : True → RX (WM ca a) D p l e rm_M_X11_ones s m args below meth c A prog_13_method_57_code Q .ireturn [.int r] u) {t : fw_S} {y0 : Int64} {H : Heap} {locs : List Loc} {ls : Array Slot} (hf : b_M_X11_ones_0  t y0 = some (r, u)) (hP : va_P D classes (WM ca a t) H) (hS : va_S A s.heap H locs) (hl : lv_has ls 4 [(0, .long y0)]) : W p l e rm_M_X11_ones s m args below meth c H locs 0 0 Q (F0 m 0 ls []) := by
  obtain ⟨hx, hb, hml, hown, hts, hN, hK, hD, hA⟩ := id C
  have hf : (b_M_X11_ones_4 3000 t y0 ((0 : Int32)) ((0 : Int32))) = some (r, u) := hf
  refine lv_iconst (v := 0) hx hb dX11_ones_0 (by decide) ?_
  refine lv_istore_n (lv' := [(2, .int ((0 : Int32))), (0, .long y0)]) hx hb dX11_ones_1 rfl hl (by decide) rfl (fun ls hl => ?_)
  refine lv_iconst (v := 0) hx hb dX11_ones_2 (by decide) ?_
  refine lv_istore_n (lv' := [(3, .int ((0 : Int32))), (2, .int ((0 : Int32))), (0, .long y0)]) hx hb dX11_ones_3 rfl hl (by decide) rfl (fun ls hl => ?_)
  exact w_M_X11_ones_4 C hr 3000 t y0 ((0 : Int32)) ((0 : Int32)) _ _ _ hf hP hS (lv_sub hl [2, 1, 0] rfl)
set_option maxRecDepth 20000 in
theorem c_M_X11_ones {l : Launch} {D : va_G} {ca : Nat → ClassId} {a : Nat → Nat} {t : fw_S} {y0 : Int64} {u : fw_S} {r : Int32} (hf : f_M_X11_ones t y0 = some (r, u)) : MC (WM ca a) D (tyv ca) l yX11_ones (.code yX11_ones prog_13_method_57_code 4 (some .int) :: lw_gd) rm_M_X11_ones [.long y0] (some (.int r)) t u := by
  refine fw_met (okM ca a) (by decide +kernel) rfl rfl (Nat.le_of_ble_eq_true rfl) ?_
  intro p e s m args below meth c A Q ls C hr hk hP hS hl hQ
  exact w_M_X11_ones_0 C (fun _ => fw_ri C hr hk hQ) hf hP hS (lv_sub hl [0] rfl)
/-! ReactiveSheetModel.below(I)I ['m'] -/
abbrev rm_M_X11_below__0 : Room := { frames := 3, cells := 0, slots := 0, locals := 67 }
def b_M_X11_below__0_58  (t : fw_S) (y2 : Int64) : Option (Int32 × fw_S) := fb_b (f_M_X11_ones t y2) fun v_2 t_1 => (some (v_2, t_1))
def b_M_X11_below__0_52 (k9 : fw_S → Int64 → Int32 → Option (Int32 × fw_S)) (t : fw_S) (y2 : Int64) (x4 : Int32) : Option (Int32 × fw_S) := k9 t y2 (x4 + 1)
def b_M_X11_below__0_46 (k9 : fw_S → Int64 → Int32 → Option (Int32 × fw_S)) (k19 : fw_S → Int64 → Int32 → Int32 → Option (Int32 × fw_S)) (t : fw_S) (y2 : Int64) (x4 : Int32) (x5 : Int32) : Option (Int32 × fw_S) := k19 t y2 x4 (x5 + 1)
def b_M_X11_below__0_37 (k9 : fw_S → Int64 → Int32 → Option (Int32 × fw_S)) (k19 : fw_S → Int64 → Int32 → Int32 → Option (Int32 × fw_S)) (t : fw_S) (y2 : Int64) (x4 : Int32) (x5 : Int32) : Option (Int32 × fw_S) := fb_b (f_M_X11_readers__0 t x5) fun v_2 t_1 => (b_M_X11_below__0_46 k9 k19 t_1 (y2 ||| v_2) x4 x5)
def b_M_X11_below__0_26 (k9 : fw_S → Int64 → Int32 → Option (Int32 × fw_S)) (k19 : fw_S → Int64 → Int32 → Int32 → Option (Int32 × fw_S)) (t : fw_S) (y2 : Int64) (x4 : Int32) (x5 : Int32) : Option (Int32 × fw_S) := if (lg_cmp ((y2 >>> (x5.toInt64 &&& 63)) &&& ((1 : Int64))) ((1 : Int64))) = 0 then b_M_X11_below__0_37 k9 k19 t y2 x4 x5 else b_M_X11_below__0_46 k9 k19 t y2 x4 x5
def b_M_X11_below__0_19 (k9 : fw_S → Int64 → Int32 → Option (Int32 × fw_S)) : Nat → (fw_S → Int64 → Int32 → Int32 → Option (Int32 × fw_S))
  | 0 => fun _ _ _ _ => none
  | n + 1 => fun t y2 x4 x5 => if ((32 : Int32)) ≤ x5 then b_M_X11_below__0_52 k9 t y2 x4 else b_M_X11_below__0_26 k9 (b_M_X11_below__0_19 k9 n) t y2 x4 x5
def b_M_X11_below__0_16 (k9 : fw_S → Int64 → Int32 → Option (Int32 × fw_S)) (t : fw_S) (y2 : Int64) (x4 : Int32) : Option (Int32 × fw_S) := b_M_X11_below__0_19 k9 3000 t y2 x4 ((0 : Int32))
def b_M_X11_below__0_9  : Nat → (fw_S → Int64 → Int32 → Option (Int32 × fw_S))
  | 0 => fun _ _ _ => none
  | n + 1 => fun t y2 x4 => if ((32 : Int32)) ≤ x4 then b_M_X11_below__0_58 t y2 else b_M_X11_below__0_16 (b_M_X11_below__0_9 n) t y2 x4
def b_M_X11_below__0_0  (t : fw_S) (x1 : Int32) : Option (Int32 × fw_S) := fb_b (f_M_X11_readers__0 t x1) fun v_2 t_1 => (b_M_X11_below__0_9 3000 t_1 v_2 ((0 : Int32)))
def f_M_X11_below__0 (t : fw_S) (x1 : Int32) : Option (Int32 × fw_S) := b_M_X11_below__0_0 t x1
set_option maxRecDepth 20000 in
theorem w_M_X11_below__0_58 {p : Program} {l : Launch} {e : Env} {s : State} {m : MethodId} {args : Array Value} {below : List Frame} {meth : Method} {c : Code} {A : Nat → Prop} {Q : State → Prop} {D : va_G} {ca : Nat → ClassId} {a : Nat → Nat} {u : fw_S} {r : Int32}  (C : CX (WM ca a) D (tyv ca) p s m args c A prog_13_method_58_code 6 RX11) (hr : True → RX (WM ca a) D p l e rm_M_X11_below__0 s m args below meth c A prog_13_method_58_code Q .ireturn [.int r] u) {t : fw_S} {y2 : Int64} {H : Heap} {locs : List Loc} {ls : Array Slot} (hf : b_M_X11_below__0_58  t y2 = some (r, u)) (hP : va_P D classes (WM ca a t) H) (hS : va_S A s.heap H locs) (hl : lv_has ls 6 [(2, .long y2)]) : W p l e rm_M_X11_below__0 s m args below meth c H locs 0 0 Q (F0 m 58 ls []) := by
  obtain ⟨hx, hb, hml, hown, hts, hN, hK, hD, hA⟩ := id C
  have hf : (fb_b (f_M_X11_ones t y2) fun v_2 t_1 => (some (v_2, t_1))) = some (r, u) := hf
  refine lv_lload_n hx hb dX11_below_58 rfl (lv_at hl 0 rfl) ?_
  obtain ⟨v_2, t_1, g_59, hf⟩ := fb_bs hf
  refine fw_S1 (As := [.long y2]) (rest := []) (n := 1) C (c_M_X11_ones (l := l) (D := D) (ca := ca) (a := a) g_59) kw_1646 kw_1647 kw_102 kw_1648 hP hS hl rfl rfl (by decide) (by decide +kernel) ⟨Nat.le_of_ble_eq_true rfl, Nat.le_of_ble_eq_true rfl⟩ rfl rfl (Nat.le_of_ble_eq_true rfl) dX11_below_59 (fun H locs hP hS => ?_)
  refine W.eq (g2 := F0 m 62 ls [.int v_2]) rfl ?_
  obtain ⟨e_62, e2_62⟩ := fb_e hf
  subst e_62; subst e2_62
  exact hr trivial _ _ _ _ hP hS dX11_below_62
set_option maxRecDepth 20000 in
theorem w_M_X11_below__0_52 {p : Program} {l : Launch} {e : Env} {s : State} {m : MethodId} {args : Array Value} {below : List Frame} {meth : Method} {c : Code} {A : Nat → Prop} {Q : State → Prop} {D : va_G} {ca : Nat → ClassId} {a : Nat → Nat} {u : fw_S} {r : Int32} {k9 : fw_S → Int64 → Int32 → Option (Int32 × fw_S)} (C : CX (WM ca a) D (tyv ca) p s m args c A prog_13_method_58_code 6 RX11) (hr : True → RX (WM ca a) D p l e rm_M_X11_below__0 s m args below meth c A prog_13_method_58_code Q .ireturn [.int r] u) (hk9 : ∀ (t : fw_S) (y2 : Int64) (x4 : Int32) (H : Heap) (locs : List Loc) (ls : Array Slot), k9 t y2 x4 = some (r, u) → va_P D classes (WM ca a t) H → va_S A s.heap H locs → lv_has ls 6 [(0, .ref (a 0)), (2, .long y2), (4, .int x4)] → W p l e rm_M_X11_below__0 s m args below meth c H locs 0 0 Q (F0 m 9 ls [])) {t : fw_S} {y2 : Int64} {x4 : Int32} {H : Heap} {locs : List Loc} {ls : Array Slot} (hf : b_M_X11_below__0_52 k9 t y2 x4 = some (r, u)) (hP : va_P D classes (WM ca a t) H) (hS : va_S A s.heap H locs) (hl : lv_has ls 6 [(0, .ref (a 0)), (2, .long y2), (4, .int x4)]) : W p l e rm_M_X11_below__0 s m args below meth c H locs 0 0 Q (F0 m 52 ls []) := by
  obtain ⟨hx, hb, hml, hown, hts, hN, hK, hD, hA⟩ := id C
  have hf : (k9 t y2 (x4 + 1)) = some (r, u) := hf
  refine lv_iinc (v := x4 + 1) (lv' := [(4, .int (x4 + 1)), (0, .ref (a 0)), (2, .long y2)]) hx hb dX11_below_52 hl (k := 2) rfl rfl (by decide) rfl (fun ls hl => ?_)
  refine lv_goto (tgt := 9) hx hb dX11_below_55 (by decide) ?_
  exact hk9 t y2 (x4 + 1) _ _ _ hf hP hS (lv_sub hl [1, 2, 0] rfl)
set_option maxRecDepth 20000 in
theorem w_M_X11_below__0_46 {p : Program} {l : Launch} {e : Env} {s : State} {m : MethodId} {args : Array Value} {below : List Frame} {meth : Method} {c : Code} {A : Nat → Prop} {Q : State → Prop} {D : va_G} {ca : Nat → ClassId} {a : Nat → Nat} {u : fw_S} {r : Int32} {k9 : fw_S → Int64 → Int32 → Option (Int32 × fw_S)} {k19 : fw_S → Int64 → Int32 → Int32 → Option (Int32 × fw_S)} (C : CX (WM ca a) D (tyv ca) p s m args c A prog_13_method_58_code 6 RX11) (hr : True → RX (WM ca a) D p l e rm_M_X11_below__0 s m args below meth c A prog_13_method_58_code Q .ireturn [.int r] u) (hk9 : ∀ (t : fw_S) (y2 : Int64) (x4 : Int32) (H : Heap) (locs : List Loc) (ls : Array Slot), k9 t y2 x4 = some (r, u) → va_P D classes (WM ca a t) H → va_S A s.heap H locs → lv_has ls 6 [(0, .ref (a 0)), (2, .long y2), (4, .int x4)] → W p l e rm_M_X11_below__0 s m args below meth c H locs 0 0 Q (F0 m 9 ls [])) (hk19 : ∀ (t : fw_S) (y2 : Int64) (x4 : Int32) (x5 : Int32) (H : Heap) (locs : List Loc) (ls : Array Slot), k19 t y2 x4 x5 = some (r, u) → va_P D classes (WM ca a t) H → va_S A s.heap H locs → lv_has ls 6 [(0, .ref (a 0)), (2, .long y2), (4, .int x4), (5, .int x5)] → W p l e rm_M_X11_below__0 s m args below meth c H locs 0 0 Q (F0 m 19 ls [])) {t : fw_S} {y2 : Int64} {x4 : Int32} {x5 : Int32} {H : Heap} {locs : List Loc} {ls : Array Slot} (hf : b_M_X11_below__0_46 k9 k19 t y2 x4 x5 = some (r, u)) (hP : va_P D classes (WM ca a t) H) (hS : va_S A s.heap H locs) (hl : lv_has ls 6 [(0, .ref (a 0)), (2, .long y2), (4, .int x4), (5, .int x5)]) : W p l e rm_M_X11_below__0 s m args below meth c H locs 0 0 Q (F0 m 46 ls []) := by
  obtain ⟨hx, hb, hml, hown, hts, hN, hK, hD, hA⟩ := id C
  have hf : (k19 t y2 x4 (x5 + 1)) = some (r, u) := hf
  refine lv_iinc (v := x5 + 1) (lv' := [(5, .int (x5 + 1)), (0, .ref (a 0)), (2, .long y2), (4, .int x4)]) hx hb dX11_below_46 hl (k := 3) rfl rfl (by decide) rfl (fun ls hl => ?_)
  refine lv_goto (tgt := 19) hx hb dX11_below_49 (by decide) ?_
  exact hk19 t y2 x4 (x5 + 1) _ _ _ hf hP hS (lv_sub hl [1, 2, 3, 0] rfl)
set_option maxRecDepth 20000 in
theorem w_M_X11_below__0_37 {p : Program} {l : Launch} {e : Env} {s : State} {m : MethodId} {args : Array Value} {below : List Frame} {meth : Method} {c : Code} {A : Nat → Prop} {Q : State → Prop} {D : va_G} {ca : Nat → ClassId} {a : Nat → Nat} {u : fw_S} {r : Int32} {k9 : fw_S → Int64 → Int32 → Option (Int32 × fw_S)} {k19 : fw_S → Int64 → Int32 → Int32 → Option (Int32 × fw_S)} (C : CX (WM ca a) D (tyv ca) p s m args c A prog_13_method_58_code 6 RX11) (hr : True → RX (WM ca a) D p l e rm_M_X11_below__0 s m args below meth c A prog_13_method_58_code Q .ireturn [.int r] u) (hk9 : ∀ (t : fw_S) (y2 : Int64) (x4 : Int32) (H : Heap) (locs : List Loc) (ls : Array Slot), k9 t y2 x4 = some (r, u) → va_P D classes (WM ca a t) H → va_S A s.heap H locs → lv_has ls 6 [(0, .ref (a 0)), (2, .long y2), (4, .int x4)] → W p l e rm_M_X11_below__0 s m args below meth c H locs 0 0 Q (F0 m 9 ls [])) (hk19 : ∀ (t : fw_S) (y2 : Int64) (x4 : Int32) (x5 : Int32) (H : Heap) (locs : List Loc) (ls : Array Slot), k19 t y2 x4 x5 = some (r, u) → va_P D classes (WM ca a t) H → va_S A s.heap H locs → lv_has ls 6 [(0, .ref (a 0)), (2, .long y2), (4, .int x4), (5, .int x5)] → W p l e rm_M_X11_below__0 s m args below meth c H locs 0 0 Q (F0 m 19 ls [])) {t : fw_S} {y2 : Int64} {x4 : Int32} {x5 : Int32} {H : Heap} {locs : List Loc} {ls : Array Slot} (hf : b_M_X11_below__0_37 k9 k19 t y2 x4 x5 = some (r, u)) (hP : va_P D classes (WM ca a t) H) (hS : va_S A s.heap H locs) (hl : lv_has ls 6 [(0, .ref (a 0)), (2, .long y2), (4, .int x4), (5, .int x5)]) : W p l e rm_M_X11_below__0 s m args below meth c H locs 0 0 Q (F0 m 37 ls []) := by
  obtain ⟨hx, hb, hml, hown, hts, hN, hK, hD, hA⟩ := id C
  have hf : (fb_b (f_M_X11_readers__0 t x5) fun v_2 t_1 => (b_M_X11_below__0_46 k9 k19 t_1 (y2 ||| v_2) x4 x5)) = some (r, u) := hf
  refine lv_lload_n hx hb dX11_below_37 rfl (lv_at hl 1 rfl) ?_
  refine lv_aload_n hx hb dX11_below_38 rfl (lv_at hl 0 rfl) ?_
  refine lv_iload hx hb dX11_below_39 (lv_at hl 3 rfl) ?_
  obtain ⟨v_2, t_1, g_41, hf⟩ := fb_bs hf
  refine fw_V1 (As := [.int x5]) (rest := [.long y2]) (n := 1) (q0 := 0) C (c_M_X11_readers__0 (l := l) (D := D) (ca := ca) (a := a) g_41) kw_1645 kw_1629 kw_102 kw_1631 kw_1630 hP hS hl (heM_0 ca a t) rfl rfl rfl (by decide) (by decide +kernel) ⟨Nat.le_of_ble_eq_true rfl, Nat.le_of_ble_eq_true rfl⟩ rfl rfl (Nat.le_of_ble_eq_true rfl) dX11_below_41 (fun H locs hP hS => ?_)
  refine W.eq (g2 := F0 m 44 ls [.long v_2, .long y2]) rfl ?_
  refine lv_lor hx hb dX11_below_44 ?_
  refine lv_lstore_n (lv' := [(2, .long (y2 ||| v_2)), (0, .ref (a 0)), (4, .int x4), (5, .int x5)]) hx hb dX11_below_45 rfl hl (by decide) rfl (fun ls hl => ?_)
  exact w_M_X11_below__0_46 C hr hk9 hk19 hf hP hS (lv_sub hl [1, 0, 2, 3] rfl)
set_option maxRecDepth 20000 in
theorem w_M_X11_below__0_26 {p : Program} {l : Launch} {e : Env} {s : State} {m : MethodId} {args : Array Value} {below : List Frame} {meth : Method} {c : Code} {A : Nat → Prop} {Q : State → Prop} {D : va_G} {ca : Nat → ClassId} {a : Nat → Nat} {u : fw_S} {r : Int32} {k9 : fw_S → Int64 → Int32 → Option (Int32 × fw_S)} {k19 : fw_S → Int64 → Int32 → Int32 → Option (Int32 × fw_S)} (C : CX (WM ca a) D (tyv ca) p s m args c A prog_13_method_58_code 6 RX11) (hr : True → RX (WM ca a) D p l e rm_M_X11_below__0 s m args below meth c A prog_13_method_58_code Q .ireturn [.int r] u) (hk9 : ∀ (t : fw_S) (y2 : Int64) (x4 : Int32) (H : Heap) (locs : List Loc) (ls : Array Slot), k9 t y2 x4 = some (r, u) → va_P D classes (WM ca a t) H → va_S A s.heap H locs → lv_has ls 6 [(0, .ref (a 0)), (2, .long y2), (4, .int x4)] → W p l e rm_M_X11_below__0 s m args below meth c H locs 0 0 Q (F0 m 9 ls [])) (hk19 : ∀ (t : fw_S) (y2 : Int64) (x4 : Int32) (x5 : Int32) (H : Heap) (locs : List Loc) (ls : Array Slot), k19 t y2 x4 x5 = some (r, u) → va_P D classes (WM ca a t) H → va_S A s.heap H locs → lv_has ls 6 [(0, .ref (a 0)), (2, .long y2), (4, .int x4), (5, .int x5)] → W p l e rm_M_X11_below__0 s m args below meth c H locs 0 0 Q (F0 m 19 ls [])) {t : fw_S} {y2 : Int64} {x4 : Int32} {x5 : Int32} {H : Heap} {locs : List Loc} {ls : Array Slot} (hf : b_M_X11_below__0_26 k9 k19 t y2 x4 x5 = some (r, u)) (hP : va_P D classes (WM ca a t) H) (hS : va_S A s.heap H locs) (hl : lv_has ls 6 [(0, .ref (a 0)), (2, .long y2), (4, .int x4), (5, .int x5)]) : W p l e rm_M_X11_below__0 s m args below meth c H locs 0 0 Q (F0 m 26 ls []) := by
  obtain ⟨hx, hb, hml, hown, hts, hN, hK, hD, hA⟩ := id C
  have hf : (if (lg_cmp ((y2 >>> (x5.toInt64 &&& 63)) &&& ((1 : Int64))) ((1 : Int64))) = 0 then b_M_X11_below__0_37 k9 k19 t y2 x4 x5 else b_M_X11_below__0_46 k9 k19 t y2 x4 x5) = some (r, u) := hf
  refine lv_lload_n hx hb dX11_below_26 rfl (lv_at hl 1 rfl) ?_
  refine lv_iload hx hb dX11_below_27 (lv_at hl 3 rfl) ?_
  refine lv_lshr hx hb dX11_below_29 rfl ?_
  refine lv_lconst (v := 1) hx hb dX11_below_30 (by decide) ?_
  refine lv_land hx hb dX11_below_31 ?_
  refine lv_lconst (v := 1) hx hb dX11_below_32 (by decide) ?_
  refine W.lcmp hx hb dX11_below_33 ?_
  refine lv_if_ne (tgt := 46) hx hb dX11_below_34 (by decide) (fun h_34 => ?_) (fun h_34 => ?_)
  · have hf := fb_f h_34 hf
    exact w_M_X11_below__0_46 C hr hk9 hk19 hf hP hS (lv_sub hl [0, 1, 2, 3] rfl)
  · have hf := fb_t h_34 hf
    exact w_M_X11_below__0_37 C hr hk9 hk19 hf hP hS (lv_sub hl [0, 1, 2, 3] rfl)
set_option maxRecDepth 20000 in
theorem w_M_X11_below__0_19 {p : Program} {l : Launch} {e : Env} {s : State} {m : MethodId} {args : Array Value} {below : List Frame} {meth : Method} {c : Code} {A : Nat → Prop} {Q : State → Prop} {D : va_G} {ca : Nat → ClassId} {a : Nat → Nat} {u : fw_S} {r : Int32} {k9 : fw_S → Int64 → Int32 → Option (Int32 × fw_S)} (C : CX (WM ca a) D (tyv ca) p s m args c A prog_13_method_58_code 6 RX11) (hr : True → RX (WM ca a) D p l e rm_M_X11_below__0 s m args below meth c A prog_13_method_58_code Q .ireturn [.int r] u) (hk9 : ∀ (t : fw_S) (y2 : Int64) (x4 : Int32) (H : Heap) (locs : List Loc) (ls : Array Slot), k9 t y2 x4 = some (r, u) → va_P D classes (WM ca a t) H → va_S A s.heap H locs → lv_has ls 6 [(0, .ref (a 0)), (2, .long y2), (4, .int x4)] → W p l e rm_M_X11_below__0 s m args below meth c H locs 0 0 Q (F0 m 9 ls [])) : ∀ (n : Nat) (t : fw_S) (y2 : Int64) (x4 : Int32) (x5 : Int32) (H : Heap) (locs : List Loc) (ls : Array Slot), b_M_X11_below__0_19 k9 n t y2 x4 x5 = some (r, u) → va_P D classes (WM ca a t) H → va_S A s.heap H locs → lv_has ls 6 [(0, .ref (a 0)), (2, .long y2), (4, .int x4), (5, .int x5)] → W p l e rm_M_X11_below__0 s m args below meth c H locs 0 0 Q (F0 m 19 ls []) := by
  obtain ⟨hx, hb, hml, hown, hts, hN, hK, hD, hA⟩ := id C
  intro n
  induction n with
  | zero => intro t y2 x4 x5 H locs ls hf; cases hf
  | succ n hk19 =>
    intro t y2 x4 x5 H locs ls hf hP hS hl
    have hf : (if ((32 : Int32)) ≤ x5 then b_M_X11_below__0_52 k9 t y2 x4 else b_M_X11_below__0_26 k9 (b_M_X11_below__0_19 k9 n) t y2 x4 x5) = some (r, u) := hf
    refine lv_iload hx hb dX11_below_19 (lv_at hl 3 rfl) ?_
    refine lv_bipush (v := 32) hx hb dX11_below_21 (by decide) ?_
    refine lv_icmp_ge (tgt := 52) hx hb dX11_below_23 (by decide) (fun h_23 => ?_) (fun h_23 => ?_)
    · have hf := fb_t h_23 hf
      exact w_M_X11_below__0_52 C hr hk9 hf hP hS (lv_sub hl [0, 1, 2] rfl)
    · have hf := fb_f h_23 hf
      exact w_M_X11_below__0_26 C hr hk9 hk19 hf hP hS (lv_sub hl [0, 1, 2, 3] rfl)
set_option maxRecDepth 20000 in
theorem w_M_X11_below__0_16 {p : Program} {l : Launch} {e : Env} {s : State} {m : MethodId} {args : Array Value} {below : List Frame} {meth : Method} {c : Code} {A : Nat → Prop} {Q : State → Prop} {D : va_G} {ca : Nat → ClassId} {a : Nat → Nat} {u : fw_S} {r : Int32} {k9 : fw_S → Int64 → Int32 → Option (Int32 × fw_S)} (C : CX (WM ca a) D (tyv ca) p s m args c A prog_13_method_58_code 6 RX11) (hr : True → RX (WM ca a) D p l e rm_M_X11_below__0 s m args below meth c A prog_13_method_58_code Q .ireturn [.int r] u) (hk9 : ∀ (t : fw_S) (y2 : Int64) (x4 : Int32) (H : Heap) (locs : List Loc) (ls : Array Slot), k9 t y2 x4 = some (r, u) → va_P D classes (WM ca a t) H → va_S A s.heap H locs → lv_has ls 6 [(0, .ref (a 0)), (2, .long y2), (4, .int x4)] → W p l e rm_M_X11_below__0 s m args below meth c H locs 0 0 Q (F0 m 9 ls [])) {t : fw_S} {y2 : Int64} {x4 : Int32} {H : Heap} {locs : List Loc} {ls : Array Slot} (hf : b_M_X11_below__0_16 k9 t y2 x4 = some (r, u)) (hP : va_P D classes (WM ca a t) H) (hS : va_S A s.heap H locs) (hl : lv_has ls 6 [(0, .ref (a 0)), (2, .long y2), (4, .int x4)]) : W p l e rm_M_X11_below__0 s m args below meth c H locs 0 0 Q (F0 m 16 ls []) := by
  obtain ⟨hx, hb, hml, hown, hts, hN, hK, hD, hA⟩ := id C
  have hf : (b_M_X11_below__0_19 k9 3000 t y2 x4 ((0 : Int32))) = some (r, u) := hf
  refine lv_iconst (v := 0) hx hb dX11_below_16 (by decide) ?_
  refine lv_istore (lv' := [(5, .int ((0 : Int32))), (0, .ref (a 0)), (2, .long y2), (4, .int x4)]) hx hb dX11_below_17 hl (by decide) rfl (fun ls hl => ?_)
  exact w_M_X11_below__0_19 C hr hk9 3000 t y2 x4 ((0 : Int32)) _ _ _ hf hP hS (lv_sub hl [1, 2, 3, 0] rfl)
set_option maxRecDepth 20000 in
theorem w_M_X11_below__0_9 {p : Program} {l : Launch} {e : Env} {s : State} {m : MethodId} {args : Array Value} {below : List Frame} {meth : Method} {c : Code} {A : Nat → Prop} {Q : State → Prop} {D : va_G} {ca : Nat → ClassId} {a : Nat → Nat} {u : fw_S} {r : Int32}  (C : CX (WM ca a) D (tyv ca) p s m args c A prog_13_method_58_code 6 RX11) (hr : True → RX (WM ca a) D p l e rm_M_X11_below__0 s m args below meth c A prog_13_method_58_code Q .ireturn [.int r] u) : ∀ (n : Nat) (t : fw_S) (y2 : Int64) (x4 : Int32) (H : Heap) (locs : List Loc) (ls : Array Slot), b_M_X11_below__0_9  n t y2 x4 = some (r, u) → va_P D classes (WM ca a t) H → va_S A s.heap H locs → lv_has ls 6 [(0, .ref (a 0)), (2, .long y2), (4, .int x4)] → W p l e rm_M_X11_below__0 s m args below meth c H locs 0 0 Q (F0 m 9 ls []) := by
  obtain ⟨hx, hb, hml, hown, hts, hN, hK, hD, hA⟩ := id C
  intro n
  induction n with
  | zero => intro t y2 x4 H locs ls hf; cases hf
  | succ n hk9 =>
    intro t y2 x4 H locs ls hf hP hS hl
    have hf : (if ((32 : Int32)) ≤ x4 then b_M_X11_below__0_58 t y2 else b_M_X11_below__0_16 (b_M_X11_below__0_9 n) t y2 x4) = some (r, u) := hf
    refine lv_iload hx hb dX11_below_9 (lv_at hl 2 rfl) ?_
    refine lv_bipush (v := 32) hx hb dX11_below_11 (by decide) ?_
    refine lv_icmp_ge (tgt := 58) hx hb dX11_below_13 (by decide) (fun h_13 => ?_) (fun h_13 => ?_)
    · have hf := fb_t h_13 hf
      exact w_M_X11_below__0_58 C hr hf hP hS (lv_sub hl [1] rfl)
    · have hf := fb_f h_13 hf
      exact w_M_X11_below__0_16 C hr hk9 hf hP hS (lv_sub hl [0, 1, 2] rfl)
set_option maxRecDepth 20000 in
theorem w_M_X11_below__0_0 {p : Program} {l : Launch} {e : Env} {s : State} {m : MethodId} {args : Array Value} {below : List Frame} {meth : Method} {c : Code} {A : Nat → Prop} {Q : State → Prop} {D : va_G} {ca : Nat → ClassId} {a : Nat → Nat} {u : fw_S} {r : Int32}  (C : CX (WM ca a) D (tyv ca) p s m args c A prog_13_method_58_code 6 RX11) (hr : True → RX (WM ca a) D p l e rm_M_X11_below__0 s m args below meth c A prog_13_method_58_code Q .ireturn [.int r] u) {t : fw_S} {x1 : Int32} {H : Heap} {locs : List Loc} {ls : Array Slot} (hf : b_M_X11_below__0_0  t x1 = some (r, u)) (hP : va_P D classes (WM ca a t) H) (hS : va_S A s.heap H locs) (hl : lv_has ls 6 [(0, .ref (a 0)), (1, .int x1)]) : W p l e rm_M_X11_below__0 s m args below meth c H locs 0 0 Q (F0 m 0 ls []) := by
  obtain ⟨hx, hb, hml, hown, hts, hN, hK, hD, hA⟩ := id C
  have hf : (fb_b (f_M_X11_readers__0 t x1) fun v_2 t_1 => (b_M_X11_below__0_9 3000 t_1 v_2 ((0 : Int32)))) = some (r, u) := hf
  refine lv_aload_n hx hb dX11_below_0 rfl (lv_at hl 0 rfl) ?_
  refine lv_iload_n hx hb dX11_below_1 rfl (lv_at hl 1 rfl) ?_
  obtain ⟨v_2, t_1, g_2, hf⟩ := fb_bs hf
  refine fw_V1 (As := [.int x1]) (rest := []) (n := 1) (q0 := 0) C (c_M_X11_readers__0 (l := l) (D := D) (ca := ca) (a := a) g_2) kw_1645 kw_1629 kw_102 kw_1631 kw_1630 hP hS hl (heM_0 ca a t) rfl rfl rfl (by decide) (by decide +kernel) ⟨Nat.le_of_ble_eq_true rfl, Nat.le_of_ble_eq_true rfl⟩ rfl rfl (Nat.le_of_ble_eq_true rfl) dX11_below_2 (fun H locs hP hS => ?_)
  refine W.eq (g2 := F0 m 5 ls [.long v_2]) rfl ?_
  refine lv_lstore_n (lv' := [(2, .long v_2), (0, .ref (a 0)), (1, .int x1)]) hx hb dX11_below_5 rfl hl (by decide) rfl (fun ls hl => ?_)
  refine lv_iconst (v := 0) hx hb dX11_below_6 (by decide) ?_
  refine lv_istore (lv' := [(4, .int ((0 : Int32))), (2, .long v_2), (0, .ref (a 0)), (1, .int x1)]) hx hb dX11_below_7 hl (by decide) rfl (fun ls hl => ?_)
  exact w_M_X11_below__0_9 C hr 3000 t_1 v_2 ((0 : Int32)) _ _ _ hf hP hS (lv_sub hl [2, 1, 0] rfl)
set_option maxRecDepth 20000 in
theorem c_M_X11_below__0 {l : Launch} {D : va_G} {ca : Nat → ClassId} {a : Nat → Nat} {t : fw_S} {x1 : Int32} {u : fw_S} {r : Int32} (hf : f_M_X11_below__0 t x1 = some (r, u)) : MC (WM ca a) D (tyv ca) l yX11_below (.code yX11_below prog_13_method_58_code 6 (some .int) :: lw_gd) rm_M_X11_below__0 [.ref (a 0), .int x1] (some (.int r)) t u := by
  refine fw_met (okM ca a) (by decide +kernel) rfl rfl (Nat.le_of_ble_eq_true rfl) ?_
  intro p e s m args below meth c A Q ls C hr hk hP hS hl hQ
  exact w_M_X11_below__0_0 C (fun _ => fw_ri C hr hk hQ) hf hP hS (lv_sub hl [0, 1] rfl)
/-! java/lang/Math.max(II)I [] -/
abbrev rm_M_J9_max_7cf53 : Room := { frames := 0, cells := 0, slots := 0, locals := 0 }
def b_M_J9_max_7cf53_10  (t : fw_S) (z0 : Int32) : Option (Int32 × fw_S) := some (z0, t)
def b_M_J9_max_7cf53_9  (t : fw_S) (x1 : Int32) : Option (Int32 × fw_S) := b_M_J9_max_7cf53_10 t x1
def b_M_J9_max_7cf53_5  (t : fw_S) (x0 : Int32) : Option (Int32 × fw_S) := b_M_J9_max_7cf53_10 t x0
def b_M_J9_max_7cf53_0  (t : fw_S) (x0 : Int32) (x1 : Int32) : Option (Int32 × fw_S) := if x0 < x1 then b_M_J9_max_7cf53_9 t x1 else b_M_J9_max_7cf53_5 t x0
def f_M_J9_max_7cf53 (t : fw_S) (x0 : Int32) (x1 : Int32) : Option (Int32 × fw_S) := b_M_J9_max_7cf53_0 t x0 x1
set_option maxRecDepth 20000 in
theorem w_M_J9_max_7cf53_10 {p : Program} {l : Launch} {e : Env} {s : State} {m : MethodId} {args : Array Value} {below : List Frame} {meth : Method} {c : Code} {A : Nat → Prop} {Q : State → Prop} {D : va_G} {ca : Nat → ClassId} {a : Nat → Nat} {u : fw_S} {r : Int32}  (C : CX (WM ca a) D (tyv ca) p s m args c A prog_16_method_65_code 2 RJ9) (hr : True → RX (WM ca a) D p l e rm_M_J9_max_7cf53 s m args below meth c A prog_16_method_65_code Q .ireturn [.int r] u) {t : fw_S} {z0 : Int32} {H : Heap} {locs : List Loc} {ls : Array Slot} (hf : b_M_J9_max_7cf53_10  t z0 = some (r, u)) (hP : va_P D classes (WM ca a t) H) (hS : va_S A s.heap H locs) (hl : lv_has ls 2 []) : W p l e rm_M_J9_max_7cf53 s m args below meth c H locs 0 0 Q (F0 m 10 ls [.int z0]) := by
  obtain ⟨hx, hb, hml, hown, hts, hN, hK, hD, hA⟩ := id C
  have hf : (some (z0, t)) = some (r, u) := hf
  obtain ⟨e_10, e2_10⟩ := fb_e hf
  subst e_10; subst e2_10
  exact hr trivial _ _ _ _ hP hS dJ9_max_7cf53_10
set_option maxRecDepth 20000 in
theorem w_M_J9_max_7cf53_9 {p : Program} {l : Launch} {e : Env} {s : State} {m : MethodId} {args : Array Value} {below : List Frame} {meth : Method} {c : Code} {A : Nat → Prop} {Q : State → Prop} {D : va_G} {ca : Nat → ClassId} {a : Nat → Nat} {u : fw_S} {r : Int32}  (C : CX (WM ca a) D (tyv ca) p s m args c A prog_16_method_65_code 2 RJ9) (hr : True → RX (WM ca a) D p l e rm_M_J9_max_7cf53 s m args below meth c A prog_16_method_65_code Q .ireturn [.int r] u) {t : fw_S} {x1 : Int32} {H : Heap} {locs : List Loc} {ls : Array Slot} (hf : b_M_J9_max_7cf53_9  t x1 = some (r, u)) (hP : va_P D classes (WM ca a t) H) (hS : va_S A s.heap H locs) (hl : lv_has ls 2 [(1, .int x1)]) : W p l e rm_M_J9_max_7cf53 s m args below meth c H locs 0 0 Q (F0 m 9 ls []) := by
  obtain ⟨hx, hb, hml, hown, hts, hN, hK, hD, hA⟩ := id C
  have hf : (b_M_J9_max_7cf53_10 t x1) = some (r, u) := hf
  refine lv_iload_n hx hb dJ9_max_7cf53_9 rfl (lv_at hl 0 rfl) ?_
  exact w_M_J9_max_7cf53_10 C hr hf hP hS (lv_sub hl [] rfl)
set_option maxRecDepth 20000 in
theorem w_M_J9_max_7cf53_5 {p : Program} {l : Launch} {e : Env} {s : State} {m : MethodId} {args : Array Value} {below : List Frame} {meth : Method} {c : Code} {A : Nat → Prop} {Q : State → Prop} {D : va_G} {ca : Nat → ClassId} {a : Nat → Nat} {u : fw_S} {r : Int32}  (C : CX (WM ca a) D (tyv ca) p s m args c A prog_16_method_65_code 2 RJ9) (hr : True → RX (WM ca a) D p l e rm_M_J9_max_7cf53 s m args below meth c A prog_16_method_65_code Q .ireturn [.int r] u) {t : fw_S} {x0 : Int32} {H : Heap} {locs : List Loc} {ls : Array Slot} (hf : b_M_J9_max_7cf53_5  t x0 = some (r, u)) (hP : va_P D classes (WM ca a t) H) (hS : va_S A s.heap H locs) (hl : lv_has ls 2 [(0, .int x0)]) : W p l e rm_M_J9_max_7cf53 s m args below meth c H locs 0 0 Q (F0 m 5 ls []) := by
  obtain ⟨hx, hb, hml, hown, hts, hN, hK, hD, hA⟩ := id C
  have hf : (b_M_J9_max_7cf53_10 t x0) = some (r, u) := hf
  refine lv_iload_n hx hb dJ9_max_7cf53_5 rfl (lv_at hl 0 rfl) ?_
  refine lv_goto (tgt := 10) hx hb dJ9_max_7cf53_6 (by decide) ?_
  exact w_M_J9_max_7cf53_10 C hr hf hP hS (lv_sub hl [] rfl)
set_option maxRecDepth 20000 in
theorem w_M_J9_max_7cf53_0 {p : Program} {l : Launch} {e : Env} {s : State} {m : MethodId} {args : Array Value} {below : List Frame} {meth : Method} {c : Code} {A : Nat → Prop} {Q : State → Prop} {D : va_G} {ca : Nat → ClassId} {a : Nat → Nat} {u : fw_S} {r : Int32}  (C : CX (WM ca a) D (tyv ca) p s m args c A prog_16_method_65_code 2 RJ9) (hr : True → RX (WM ca a) D p l e rm_M_J9_max_7cf53 s m args below meth c A prog_16_method_65_code Q .ireturn [.int r] u) {t : fw_S} {x0 : Int32} {x1 : Int32} {H : Heap} {locs : List Loc} {ls : Array Slot} (hf : b_M_J9_max_7cf53_0  t x0 x1 = some (r, u)) (hP : va_P D classes (WM ca a t) H) (hS : va_S A s.heap H locs) (hl : lv_has ls 2 [(0, .int x0), (1, .int x1)]) : W p l e rm_M_J9_max_7cf53 s m args below meth c H locs 0 0 Q (F0 m 0 ls []) := by
  obtain ⟨hx, hb, hml, hown, hts, hN, hK, hD, hA⟩ := id C
  have hf : (if x0 < x1 then b_M_J9_max_7cf53_9 t x1 else b_M_J9_max_7cf53_5 t x0) = some (r, u) := hf
  refine lv_iload_n hx hb dJ9_max_7cf53_0 rfl (lv_at hl 0 rfl) ?_
  refine lv_iload_n hx hb dJ9_max_7cf53_1 rfl (lv_at hl 1 rfl) ?_
  refine lv_icmp_lt (tgt := 9) hx hb dJ9_max_7cf53_2 (by decide) (fun h_2 => ?_) (fun h_2 => ?_)
  · have hf := fb_t h_2 hf
    exact w_M_J9_max_7cf53_9 C hr hf hP hS (lv_sub hl [1] rfl)
  · have hf := fb_f h_2 hf
    exact w_M_J9_max_7cf53_5 C hr hf hP hS (lv_sub hl [0] rfl)
set_option maxRecDepth 20000 in
theorem c_M_J9_max_7cf53 {l : Launch} {D : va_G} {ca : Nat → ClassId} {a : Nat → Nat} {t : fw_S} {x0 : Int32} {x1 : Int32} {u : fw_S} {r : Int32} (hf : f_M_J9_max_7cf53 t x0 x1 = some (r, u)) : MC (WM ca a) D (tyv ca) l yJ9_max_7cf53 (.code yJ9_max_7cf53 prog_16_method_65_code 2 (some .int) :: lw_gd) rm_M_J9_max_7cf53 [.int x0, .int x1] (some (.int r)) t u := by
  refine fw_met (okM ca a) (by decide +kernel) rfl rfl (Nat.le_of_ble_eq_true rfl) ?_
  intro p e s m args below meth c A Q ls C hr hk hP hS hl hQ
  exact w_M_J9_max_7cf53_0 C (fun _ => fw_ri C hr hk hQ) hf hP hS (lv_sub hl [0, 1] rfl)
