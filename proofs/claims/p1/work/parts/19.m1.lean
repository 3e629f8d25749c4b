theorem dX11_copies_0 : decode prog_13_method_18_code 0 = .ok (.iconst 0, 1) := by decide +kernel
theorem dX11_copies_1 : decode prog_13_method_18_code 1 = .ok (.istore_n 3, 1) := by decide +kernel
theorem dX11_copies_2 : decode prog_13_method_18_code 2 = .ok (.iload_n 3, 1) := by decide +kernel
theorem dX11_copies_3 : decode prog_13_method_18_code 3 = .ok (.sipush 128, 3) := by decide +kernel
theorem dX11_copies_6 : decode prog_13_method_18_code 6 = .ok (.if_icmp .ge 73, 3) := by decide +kernel
theorem dX11_copies_9 : decode prog_13_method_18_code 9 = .ok (.aload_n 0, 1) := by decide +kernel
theorem dX11_copies_10 : decode prog_13_method_18_code 10 = .ok (.getfield 44, 3) := by decide +kernel
theorem dX11_copies_13 : decode prog_13_method_18_code 13 = .ok (.iload_n 2, 1) := by decide +kernel
theorem dX11_copies_14 : decode prog_13_method_18_code 14 = .ok (.iload_n 3, 1) := by decide +kernel
theorem dX11_copies_15 : decode prog_13_method_18_code 15 = .ok (.iadd, 1) := by decide +kernel
theorem dX11_copies_16 : decode prog_13_method_18_code 16 = .ok (.aload_n 0, 1) := by decide +kernel
theorem dX11_copies_17 : decode prog_13_method_18_code 17 = .ok (.getfield 44, 3) := by decide +kernel
theorem dX11_copies_20 : decode prog_13_method_18_code 20 = .ok (.iload_n 1, 1) := by decide +kernel
theorem dX11_copies_21 : decode prog_13_method_18_code 21 = .ok (.iload_n 3, 1) := by decide +kernel
theorem dX11_copies_22 : decode prog_13_method_18_code 22 = .ok (.iadd, 1) := by decide +kernel
theorem dX11_copies_23 : decode prog_13_method_18_code 23 = .ok (.iaload, 1) := by decide +kernel
theorem dX11_copies_24 : decode prog_13_method_18_code 24 = .ok (.iastore, 1) := by decide +kernel
theorem dX11_copies_25 : decode prog_13_method_18_code 25 = .ok (.aload_n 0, 1) := by decide +kernel
theorem dX11_copies_26 : decode prog_13_method_18_code 26 = .ok (.getfield 47, 3) := by decide +kernel
theorem dX11_copies_29 : decode prog_13_method_18_code 29 = .ok (.iload_n 2, 1) := by decide +kernel
theorem dX11_copies_30 : decode prog_13_method_18_code 30 = .ok (.iload_n 3, 1) := by decide +kernel
theorem dX11_copies_31 : decode prog_13_method_18_code 31 = .ok (.iadd, 1) := by decide +kernel
theorem dX11_copies_32 : decode prog_13_method_18_code 32 = .ok (.aload_n 0, 1) := by decide +kernel
theorem dX11_copies_33 : decode prog_13_method_18_code 33 = .ok (.getfield 47, 3) := by decide +kernel
theorem dX11_copies_36 : decode prog_13_method_18_code 36 = .ok (.iload_n 1, 1) := by decide +kernel
theorem dX11_copies_37 : decode prog_13_method_18_code 37 = .ok (.iload_n 3, 1) := by decide +kernel
theorem dX11_copies_38 : decode prog_13_method_18_code 38 = .ok (.iadd, 1) := by decide +kernel
theorem dX11_copies_39 : decode prog_13_method_18_code 39 = .ok (.iaload, 1) := by decide +kernel
theorem dX11_copies_40 : decode prog_13_method_18_code 40 = .ok (.iastore, 1) := by decide +kernel
theorem dX11_copies_41 : decode prog_13_method_18_code 41 = .ok (.aload_n 0, 1) := by decide +kernel
theorem dX11_copies_42 : decode prog_13_method_18_code 42 = .ok (.getfield 50, 3) := by decide +kernel
theorem dX11_copies_45 : decode prog_13_method_18_code 45 = .ok (.iload_n 2, 1) := by decide +kernel
theorem dX11_copies_46 : decode prog_13_method_18_code 46 = .ok (.iload_n 3, 1) := by decide +kernel
theorem dX11_copies_47 : decode prog_13_method_18_code 47 = .ok (.iadd, 1) := by decide +kernel
theorem dX11_copies_48 : decode prog_13_method_18_code 48 = .ok (.aload_n 0, 1) := by decide +kernel
theorem dX11_copies_49 : decode prog_13_method_18_code 49 = .ok (.getfield 50, 3) := by decide +kernel
theorem dX11_copies_52 : decode prog_13_method_18_code 52 = .ok (.iload_n 1, 1) := by decide +kernel
theorem dX11_copies_53 : decode prog_13_method_18_code 53 = .ok (.iload_n 3, 1) := by decide +kernel
theorem dX11_copies_54 : decode prog_13_method_18_code 54 = .ok (.iadd, 1) := by decide +kernel
theorem dX11_copies_55 : decode prog_13_method_18_code 55 = .ok (.iaload, 1) := by decide +kernel
theorem dX11_copies_56 : decode prog_13_method_18_code 56 = .ok (.iastore, 1) := by decide +kernel
theorem dX11_copies_57 : decode prog_13_method_18_code 57 = .ok (.aload_n 0, 1) := by decide +kernel
theorem dX11_copies_58 : decode prog_13_method_18_code 58 = .ok (.getfield 53, 3) := by decide +kernel
theorem dX11_copies_61 : decode prog_13_method_18_code 61 = .ok (.iload_n 2, 1) := by decide +kernel
theorem dX11_copies_62 : decode prog_13_method_18_code 62 = .ok (.iload_n 3, 1) := by decide +kernel
theorem dX11_copies_63 : decode prog_13_method_18_code 63 = .ok (.iadd, 1) := by decide +kernel
theorem dX11_copies_64 : decode prog_13_method_18_code 64 = .ok (.aload_n 0, 1) := by decide +kernel
theorem dX11_copies_65 : decode prog_13_method_18_code 65 = .ok (.getfield 53, 3) := by decide +kernel
theorem dX11_copies_68 : decode prog_13_method_18_code 68 = .ok (.iload_n 1, 1) := by decide +kernel
theorem dX11_copies_69 : decode prog_13_method_18_code 69 = .ok (.iload_n 3, 1) := by decide +kernel
theorem dX11_copies_70 : decode prog_13_method_18_code 70 = .ok (.iadd, 1) := by decide +kernel
theorem dX11_copies_71 : decode prog_13_method_18_code 71 = .ok (.iaload, 1) := by decide +kernel
theorem dX11_copies_72 : decode prog_13_method_18_code 72 = .ok (.iastore, 1) := by decide +kernel
theorem dX11_copies_73 : decode prog_13_method_18_code 73 = .ok (.iinc 3 1, 3) := by decide +kernel
theorem dX11_copies_76 : decode prog_13_method_18_code 76 = .ok (.goto (-74), 3) := by decide +kernel
theorem dX11_copies_79 : decode prog_13_method_18_code 79 = .ok (.return_, 1) := by decide +kernel
theorem dX11_input_0 : decode prog_13_method_43_code 0 = .ok (.iload_n 1, 1) := by decide +kernel
theorem dX11_input_1 : decode prog_13_method_43_code 1 = .ok (.invokestatic 361, 3) := by decide +kernel
theorem dX11_input_4 : decode prog_13_method_43_code 4 = .ok (.ifCond .ne 7, 3) := by decide +kernel
theorem dX11_input_7 : decode prog_13_method_43_code 7 = .ok (.iconst (-1), 1) := by decide +kernel
theorem dX11_input_8 : decode prog_13_method_43_code 8 = .ok (.goto 11, 3) := by decide +kernel
theorem dX11_input_11 : decode prog_13_method_43_code 11 = .ok (.aload_n 0, 1) := by decide +kernel
theorem dX11_input_12 : decode prog_13_method_43_code 12 = .ok (.iload_n 1, 1) := by decide +kernel
theorem dX11_input_13 : decode prog_13_method_43_code 13 = .ok (.iconst 1, 1) := by decide +kernel
theorem dX11_input_14 : decode prog_13_method_43_code 14 = .ok (.lload_n 2, 1) := by decide +kernel
theorem dX11_input_15 : decode prog_13_method_43_code 15 = .ok (.iconst 0, 1) := by decide +kernel
theorem dX11_input_16 : decode prog_13_method_43_code 16 = .ok (.invokevirtual 364, 3) := by decide +kernel
theorem dX11_input_19 : decode prog_13_method_43_code 19 = .ok (.ireturn, 1) := by decide +kernel
theorem dX11_isAt_0 : decode prog_13_method_6_code 0 = .ok (.aload_n 0, 1) := by decide +kernel
theorem dX11_isAt_1 : decode prog_13_method_6_code 1 = .ok (.getfield 181, 3) := by decide +kernel
theorem dX11_isAt_4 : decode prog_13_method_6_code 4 = .ok (.ifCond .ge 31, 3) := by decide +kernel
theorem dX11_isAt_7 : decode prog_13_method_6_code 7 = .ok (.aload_n 0, 1) := by decide +kernel
theorem dX11_isAt_8 : decode prog_13_method_6_code 8 = .ok (.getfield 184, 3) := by decide +kernel
theorem dX11_isAt_11 : decode prog_13_method_6_code 11 = .ok (.aload_n 0, 1) := by decide +kernel
theorem dX11_isAt_12 : decode prog_13_method_6_code 12 = .ok (.getfield 177, 3) := by decide +kernel
theorem dX11_isAt_15 : decode prog_13_method_6_code 15 = .ok (.if_icmp .ge 20, 3) := by decide +kernel
theorem dX11_isAt_18 : decode prog_13_method_6_code 18 = .ok (.aload_n 0, 1) := by decide +kernel
theorem dX11_isAt_19 : decode prog_13_method_6_code 19 = .ok (.getfield 113, 3) := by decide +kernel
theorem dX11_isAt_22 : decode prog_13_method_6_code 22 = .ok (.aload_n 0, 1) := by decide +kernel
theorem dX11_isAt_23 : decode prog_13_method_6_code 23 = .ok (.getfield 184, 3) := by decide +kernel
theorem dX11_isAt_26 : decode prog_13_method_6_code 26 = .ok (.iaload, 1) := by decide +kernel
theorem dX11_isAt_27 : decode prog_13_method_6_code 27 = .ok (.iload_n 1, 1) := by decide +kernel
theorem dX11_isAt_28 : decode prog_13_method_6_code 28 = .ok (.if_icmp .ne 7, 3) := by decide +kernel
theorem dX11_isAt_31 : decode prog_13_method_6_code 31 = .ok (.iconst 1, 1) := by decide +kernel
theorem dX11_isAt_32 : decode prog_13_method_6_code 32 = .ok (.goto 4, 3) := by decide +kernel
theorem dX11_isAt_35 : decode prog_13_method_6_code 35 = .ok (.iconst 0, 1) := by decide +kernel
theorem dX11_isAt_36 : decode prog_13_method_6_code 36 = .ok (.ireturn, 1) := by decide +kernel
theorem dX11_isFigure_0 : decode prog_13_method_7_code 0 = .ok (.aload_n 0, 1) := by decide +kernel
theorem dX11_isFigure_1 : decode prog_13_method_7_code 1 = .ok (.getfield 184, 3) := by decide +kernel
theorem dX11_isFigure_4 : decode prog_13_method_7_code 4 = .ok (.aload_n 0, 1) := by decide +kernel
theorem dX11_isFigure_5 : decode prog_13_method_7_code 5 = .ok (.getfield 177, 3) := by decide +kernel
theorem dX11_isFigure_8 : decode prog_13_method_7_code 8 = .ok (.if_icmp .ge 35, 3) := by decide +kernel
theorem dX11_isFigure_11 : decode prog_13_method_7_code 11 = .ok (.aload_n 0, 1) := by decide +kernel
theorem dX11_isFigure_12 : decode prog_13_method_7_code 12 = .ok (.getfield 113, 3) := by decide +kernel
theorem dX11_isFigure_15 : decode prog_13_method_7_code 15 = .ok (.aload_n 0, 1) := by decide +kernel
theorem dX11_isFigure_16 : decode prog_13_method_7_code 16 = .ok (.getfield 184, 3) := by decide +kernel
theorem dX11_isFigure_19 : decode prog_13_method_7_code 19 = .ok (.iaload, 1) := by decide +kernel
theorem dX11_isFigure_20 : decode prog_13_method_7_code 20 = .ok (.bipush 48, 2) := by decide +kernel
theorem dX11_isFigure_22 : decode prog_13_method_7_code 22 = .ok (.if_icmp .lt 21, 3) := by decide +kernel
theorem dX11_isFigure_25 : decode prog_13_method_7_code 25 = .ok (.aload_n 0, 1) := by decide +kernel
theorem dX11_isFigure_26 : decode prog_13_method_7_code 26 = .ok (.getfield 113, 3) := by decide +kernel
theorem dX11_isFigure_29 : decode prog_13_method_7_code 29 = .ok (.aload_n 0, 1) := by decide +kernel
theorem dX11_isFigure_30 : decode prog_13_method_7_code 30 = .ok (.getfield 184, 3) := by decide +kernel
theorem dX11_isFigure_33 : decode prog_13_method_7_code 33 = .ok (.iaload, 1) := by decide +kernel
theorem dX11_isFigure_34 : decode prog_13_method_7_code 34 = .ok (.bipush 57, 2) := by decide +kernel
theorem dX11_isFigure_36 : decode prog_13_method_7_code 36 = .ok (.if_icmp .gt 7, 3) := by decide +kernel
theorem dX11_isFigure_39 : decode prog_13_method_7_code 39 = .ok (.iconst 1, 1) := by decide +kernel
theorem dX11_isFigure_40 : decode prog_13_method_7_code 40 = .ok (.goto 4, 3) := by decide +kernel
theorem dX11_isFigure_43 : decode prog_13_method_7_code 43 = .ok (.iconst 0, 1) := by decide +kernel
theorem dX11_isFigure_44 : decode prog_13_method_7_code 44 = .ok (.ireturn, 1) := by decide +kernel
theorem dX11_need_0 : decode prog_13_method_9_code 0 = .ok (.aload_n 0, 1) := by decide +kernel
theorem dX11_need_1 : decode prog_13_method_9_code 1 = .ok (.getfield 181, 3) := by decide +kernel
theorem dX11_need_4 : decode prog_13_method_9_code 4 = .ok (.ifCond .ge 19, 3) := by decide +kernel
theorem dX11_need_7 : decode prog_13_method_9_code 7 = .ok (.aload_n 0, 1) := by decide +kernel
theorem dX11_need_8 : decode prog_13_method_9_code 8 = .ok (.iload_n 1, 1) := by decide +kernel
theorem dX11_need_9 : decode prog_13_method_9_code 9 = .ok (.invokevirtual 191, 3) := by decide +kernel
theorem dX11_need_12 : decode prog_13_method_9_code 12 = .ok (.ifCond .ne 11, 3) := by decide +kernel
theorem dX11_need_15 : decode prog_13_method_9_code 15 = .ok (.aload_n 0, 1) := by decide +kernel
theorem dX11_need_16 : decode prog_13_method_9_code 16 = .ok (.aload_n 0, 1) := by decide +kernel
theorem dX11_need_17 : decode prog_13_method_9_code 17 = .ok (.getfield 184, 3) := by decide +kernel
theorem dX11_need_20 : decode prog_13_method_9_code 20 = .ok (.putfield 181, 3) := by decide +kernel
theorem dX11_need_23 : decode prog_13_method_9_code 23 = .ok (.return_, 1) := by decide +kernel
theorem dX11_node_0 : decode prog_13_method_11_code 0 = .ok (.aload_n 0, 1) := by decide +kernel
theorem dX11_node_1 : decode prog_13_method_11_code 1 = .ok (.getfield 181, 3) := by decide +kernel
theorem dX11_node_4 : decode prog_13_method_11_code 4 = .ok (.ifCond .lt 5, 3) := by decide +kernel
theorem dX11_node_7 : decode prog_13_method_11_code 7 = .ok (.iconst 0, 1) := by decide +kernel
theorem dX11_node_8 : decode prog_13_method_11_code 8 = .ok (.ireturn, 1) := by decide +kernel
theorem dX11_node_9 : decode prog_13_method_11_code 9 = .ok (.aload_n 0, 1) := by decide +kernel
theorem dX11_node_10 : decode prog_13_method_11_code 10 = .ok (.getfield 44, 3) := by decide +kernel
theorem dX11_node_13 : decode prog_13_method_11_code 13 = .ok (.aload_n 0, 1) := by decide +kernel
theorem dX11_node_14 : decode prog_13_method_11_code 14 = .ok (.getfield 198, 3) := by decide +kernel
theorem dX11_node_17 : decode prog_13_method_11_code 17 = .ok (.aload_n 0, 1) := by decide +kernel
theorem dX11_node_18 : decode prog_13_method_11_code 18 = .ok (.getfield 201, 3) := by decide +kernel
theorem dX11_node_21 : decode prog_13_method_11_code 21 = .ok (.iadd, 1) := by decide +kernel
theorem dX11_node_22 : decode prog_13_method_11_code 22 = .ok (.iload_n 1, 1) := by decide +kernel
theorem dX11_node_23 : decode prog_13_method_11_code 23 = .ok (.iastore, 1) := by decide +kernel
theorem dX11_node_24 : decode prog_13_method_11_code 24 = .ok (.aload_n 0, 1) := by decide +kernel
theorem dX11_node_25 : decode prog_13_method_11_code 25 = .ok (.getfield 47, 3) := by decide +kernel
theorem dX11_node_28 : decode prog_13_method_11_code 28 = .ok (.aload_n 0, 1) := by decide +kernel
theorem dX11_node_29 : decode prog_13_method_11_code 29 = .ok (.getfield 198, 3) := by decide +kernel
theorem dX11_node_32 : decode prog_13_method_11_code 32 = .ok (.aload_n 0, 1) := by decide +kernel
theorem dX11_node_33 : decode prog_13_method_11_code 33 = .ok (.getfield 201, 3) := by decide +kernel
theorem dX11_node_36 : decode prog_13_method_11_code 36 = .ok (.iadd, 1) := by decide +kernel
theorem dX11_node_37 : decode prog_13_method_11_code 37 = .ok (.iload_n 2, 1) := by decide +kernel
theorem dX11_node_38 : decode prog_13_method_11_code 38 = .ok (.iastore, 1) := by decide +kernel
theorem dX11_node_39 : decode prog_13_method_11_code 39 = .ok (.aload_n 0, 1) := by decide +kernel
theorem dX11_node_40 : decode prog_13_method_11_code 40 = .ok (.getfield 50, 3) := by decide +kernel
theorem dX11_node_43 : decode prog_13_method_11_code 43 = .ok (.aload_n 0, 1) := by decide +kernel
theorem dX11_node_44 : decode prog_13_method_11_code 44 = .ok (.getfield 198, 3) := by decide +kernel
theorem dX11_node_47 : decode prog_13_method_11_code 47 = .ok (.aload_n 0, 1) := by decide +kernel
theorem dX11_node_48 : decode prog_13_method_11_code 48 = .ok (.getfield 201, 3) := by decide +kernel
theorem dX11_node_51 : decode prog_13_method_11_code 51 = .ok (.iadd, 1) := by decide +kernel
theorem dX11_node_52 : decode prog_13_method_11_code 52 = .ok (.iload_n 3, 1) := by decide +kernel
theorem dX11_node_53 : decode prog_13_method_11_code 53 = .ok (.iastore, 1) := by decide +kernel
theorem dX11_node_54 : decode prog_13_method_11_code 54 = .ok (.aload_n 0, 1) := by decide +kernel
theorem dX11_node_55 : decode prog_13_method_11_code 55 = .ok (.getfield 53, 3) := by decide +kernel
theorem dX11_node_58 : decode prog_13_method_11_code 58 = .ok (.aload_n 0, 1) := by decide +kernel
theorem dX11_node_59 : decode prog_13_method_11_code 59 = .ok (.getfield 198, 3) := by decide +kernel
theorem dX11_node_62 : decode prog_13_method_11_code 62 = .ok (.aload_n 0, 1) := by decide +kernel
theorem dX11_node_63 : decode prog_13_method_11_code 63 = .ok (.getfield 201, 3) := by decide +kernel
theorem dX11_node_66 : decode prog_13_method_11_code 66 = .ok (.iadd, 1) := by decide +kernel
theorem dX11_node_67 : decode prog_13_method_11_code 67 = .ok (.iload 4, 2) := by decide +kernel
theorem dX11_node_69 : decode prog_13_method_11_code 69 = .ok (.iastore, 1) := by decide +kernel
theorem dX11_node_70 : decode prog_13_method_11_code 70 = .ok (.aload_n 0, 1) := by decide +kernel
theorem dX11_node_71 : decode prog_13_method_11_code 71 = .ok (.dup, 1) := by decide +kernel
theorem dX11_node_72 : decode prog_13_method_11_code 72 = .ok (.getfield 201, 3) := by decide +kernel
theorem dX11_node_75 : decode prog_13_method_11_code 75 = .ok (.iconst 1, 1) := by decide +kernel
theorem dX11_node_76 : decode prog_13_method_11_code 76 = .ok (.iadd, 1) := by decide +kernel
theorem dX11_node_77 : decode prog_13_method_11_code 77 = .ok (.putfield 201, 3) := by decide +kernel
theorem dX11_node_80 : decode prog_13_method_11_code 80 = .ok (.aload_n 0, 1) := by decide +kernel
theorem dX11_node_81 : decode prog_13_method_11_code 81 = .ok (.getfield 201, 3) := by decide +kernel
theorem dX11_node_84 : decode prog_13_method_11_code 84 = .ok (.iconst 1, 1) := by decide +kernel
theorem dX11_node_85 : decode prog_13_method_11_code 85 = .ok (.isub, 1) := by decide +kernel
theorem dX11_node_86 : decode prog_13_method_11_code 86 = .ok (.ireturn, 1) := by decide +kernel
theorem dX11_number_0 : decode prog_13_method_10_code 0 = .ok (.aload_n 0, 1) := by decide +kernel
theorem dX11_number_1 : decode prog_13_method_10_code 1 = .ok (.getfield 181, 3) := by decide +kernel
theorem dX11_number_4 : decode prog_13_method_10_code 4 = .ok (.ifCond .lt 5, 3) := by decide +kernel
theorem dX11_number_7 : decode prog_13_method_10_code 7 = .ok (.iconst 0, 1) := by decide +kernel
theorem dX11_number_8 : decode prog_13_method_10_code 8 = .ok (.ireturn, 1) := by decide +kernel
theorem dX11_number_9 : decode prog_13_method_10_code 9 = .ok (.aload_n 0, 1) := by decide +kernel
theorem dX11_number_10 : decode prog_13_method_10_code 10 = .ok (.getfield 184, 3) := by decide +kernel
theorem dX11_number_13 : decode prog_13_method_10_code 13 = .ok (.istore 4, 2) := by decide +kernel
theorem dX11_number_15 : decode prog_13_method_10_code 15 = .ok (.iconst 0, 1) := by decide +kernel
theorem dX11_number_16 : decode prog_13_method_10_code 16 = .ok (.istore 5, 2) := by decide +kernel
theorem dX11_number_18 : decode prog_13_method_10_code 18 = .ok (.aload_n 0, 1) := by decide +kernel
theorem dX11_number_19 : decode prog_13_method_10_code 19 = .ok (.invokevirtual 194, 3) := by decide +kernel
theorem dX11_number_22 : decode prog_13_method_10_code 22 = .ok (.ifCond .eq 47, 3) := by decide +kernel
theorem dX11_number_25 : decode prog_13_method_10_code 25 = .ok (.aload_n 0, 1) := by decide +kernel
theorem dX11_number_26 : decode prog_13_method_10_code 26 = .ok (.getfield 184, 3) := by decide +kernel
theorem dX11_number_29 : decode prog_13_method_10_code 29 = .ok (.iload 4, 2) := by decide +kernel
theorem dX11_number_31 : decode prog_13_method_10_code 31 = .ok (.iload_n 1, 1) := by decide +kernel
theorem dX11_number_32 : decode prog_13_method_10_code 32 = .ok (.iadd, 1) := by decide +kernel
theorem dX11_number_33 : decode prog_13_method_10_code 33 = .ok (.if_icmp .ge 36, 3) := by decide +kernel
theorem dX11_number_36 : decode prog_13_method_10_code 36 = .ok (.bipush 10, 2) := by decide +kernel
theorem dX11_number_38 : decode prog_13_method_10_code 38 = .ok (.iload 5, 2) := by decide +kernel
theorem dX11_number_40 : decode prog_13_method_10_code 40 = .ok (.imul, 1) := by decide +kernel
theorem dX11_number_41 : decode prog_13_method_10_code 41 = .ok (.aload_n 0, 1) := by decide +kernel
theorem dX11_number_42 : decode prog_13_method_10_code 42 = .ok (.getfield 113, 3) := by decide +kernel
theorem dX11_number_45 : decode prog_13_method_10_code 45 = .ok (.aload_n 0, 1) := by decide +kernel
theorem dX11_number_46 : decode prog_13_method_10_code 46 = .ok (.getfield 184, 3) := by decide +kernel
theorem dX11_number_49 : decode prog_13_method_10_code 49 = .ok (.iaload, 1) := by decide +kernel
theorem dX11_number_50 : decode prog_13_method_10_code 50 = .ok (.iadd, 1) := by decide +kernel
theorem dX11_number_51 : decode prog_13_method_10_code 51 = .ok (.bipush 48, 2) := by decide +kernel
theorem dX11_number_53 : decode prog_13_method_10_code 53 = .ok (.isub, 1) := by decide +kernel
theorem dX11_number_54 : decode prog_13_method_10_code 54 = .ok (.istore 5, 2) := by decide +kernel
theorem dX11_number_56 : decode prog_13_method_10_code 56 = .ok (.aload_n 0, 1) := by decide +kernel
theorem dX11_number_57 : decode prog_13_method_10_code 57 = .ok (.dup, 1) := by decide +kernel
theorem dX11_number_58 : decode prog_13_method_10_code 58 = .ok (.getfield 184, 3) := by decide +kernel
theorem dX11_number_61 : decode prog_13_method_10_code 61 = .ok (.iconst 1, 1) := by decide +kernel
theorem dX11_number_62 : decode prog_13_method_10_code 62 = .ok (.iadd, 1) := by decide +kernel
theorem dX11_number_63 : decode prog_13_method_10_code 63 = .ok (.putfield 184, 3) := by decide +kernel
theorem dX11_number_66 : decode prog_13_method_10_code 66 = .ok (.goto (-48), 3) := by decide +kernel
theorem dX11_number_69 : decode prog_13_method_10_code 69 = .ok (.aload_n 0, 1) := by decide +kernel
theorem dX11_number_70 : decode prog_13_method_10_code 70 = .ok (.getfield 184, 3) := by decide +kernel
theorem dX11_number_73 : decode prog_13_method_10_code 73 = .ok (.iload 4, 2) := by decide +kernel
theorem dX11_number_75 : decode prog_13_method_10_code 75 = .ok (.if_icmp .eq 15, 3) := by decide +kernel
theorem dX11_number_78 : decode prog_13_method_10_code 78 = .ok (.iload 5, 2) := by decide +kernel
theorem dX11_number_80 : decode prog_13_method_10_code 80 = .ok (.iload_n 2, 1) := by decide +kernel
theorem dX11_number_81 : decode prog_13_method_10_code 81 = .ok (.if_icmp .lt 9, 3) := by decide +kernel
theorem dX11_number_84 : decode prog_13_method_10_code 84 = .ok (.iload 5, 2) := by decide +kernel
theorem dX11_number_86 : decode prog_13_method_10_code 86 = .ok (.iload_n 3, 1) := by decide +kernel
theorem dX11_number_87 : decode prog_13_method_10_code 87 = .ok (.if_icmp .le 9, 3) := by decide +kernel
theorem dX11_number_90 : decode prog_13_method_10_code 90 = .ok (.aload_n 0, 1) := by decide +kernel
theorem dX11_number_91 : decode prog_13_method_10_code 91 = .ok (.iload 4, 2) := by decide +kernel
theorem dX11_number_93 : decode prog_13_method_10_code 93 = .ok (.putfield 181, 3) := by decide +kernel
theorem dX11_number_96 : decode prog_13_method_10_code 96 = .ok (.iload 5, 2) := by decide +kernel
theorem dX11_number_98 : decode prog_13_method_10_code 98 = .ok (.ireturn, 1) := by decide +kernel
theorem dX11_ofBatch_0 : decode prog_13_method_20_code 0 = .ok (.bipush 32, 2) := by decide +kernel
theorem dX11_ofBatch_2 : decode prog_13_method_20_code 2 = .ok (.iload_n 0, 1) := by decide +kernel
theorem dX11_ofBatch_3 : decode prog_13_method_20_code 3 = .ok (.iadd, 1) := by decide +kernel
theorem dX11_ofBatch_4 : decode prog_13_method_20_code 4 = .ok (.sipush 128, 3) := by decide +kernel
theorem dX11_ofBatch_7 : decode prog_13_method_20_code 7 = .ok (.imul, 1) := by decide +kernel
theorem dX11_ofBatch_8 : decode prog_13_method_20_code 8 = .ok (.ireturn, 1) := by decide +kernel
theorem dX11_readF_0 : decode prog_13_method_16_code 0 = .ok (.aload_n 0, 1) := by decide +kernel
theorem dX11_readF_1 : decode prog_13_method_16_code 1 = .ok (.getfield 181, 3) := by decide +kernel
theorem dX11_readF_4 : decode prog_13_method_16_code 4 = .ok (.ifCond .lt 5, 3) := by decide +kernel
theorem dX11_readF_7 : decode prog_13_method_16_code 7 = .ok (.iconst 0, 1) := by decide +kernel
theorem dX11_readF_8 : decode prog_13_method_16_code 8 = .ok (.ireturn, 1) := by decide +kernel
theorem dX11_readF_9 : decode prog_13_method_16_code 9 = .ok (.aload_n 0, 1) := by decide +kernel
theorem dX11_readF_10 : decode prog_13_method_16_code 10 = .ok (.invokevirtual 194, 3) := by decide +kernel
theorem dX11_readF_13 : decode prog_13_method_16_code 13 = .ok (.ifCond .eq 22, 3) := by decide +kernel
theorem dX11_readF_16 : decode prog_13_method_16_code 16 = .ok (.aload_n 0, 1) := by decide +kernel
theorem dX11_readF_17 : decode prog_13_method_16_code 17 = .ok (.bipush 9, 2) := by decide +kernel
theorem dX11_readF_19 : decode prog_13_method_16_code 19 = .ok (.iconst 0, 1) := by decide +kernel
theorem dX11_readF_20 : decode prog_13_method_16_code 20 = .ok (.ldc 228, 2) := by decide +kernel
theorem dX11_readF_22 : decode prog_13_method_16_code 22 = .ok (.invokevirtual 229, 3) := by decide +kernel
theorem dX11_readF_25 : decode prog_13_method_16_code 25 = .ok (.istore_n 1, 1) := by decide +kernel
theorem dX11_readF_26 : decode prog_13_method_16_code 26 = .ok (.aload_n 0, 1) := by decide +kernel
theorem dX11_readF_27 : decode prog_13_method_16_code 27 = .ok (.iconst 1, 1) := by decide +kernel
theorem dX11_readF_28 : decode prog_13_method_16_code 28 = .ok (.iload_n 1, 1) := by decide +kernel
theorem dX11_readF_29 : decode prog_13_method_16_code 29 = .ok (.iconst 0, 1) := by decide +kernel
theorem dX11_readF_30 : decode prog_13_method_16_code 30 = .ok (.iconst 0, 1) := by decide +kernel
theorem dX11_readF_31 : decode prog_13_method_16_code 31 = .ok (.invokevirtual 215, 3) := by decide +kernel
theorem dX11_readF_34 : decode prog_13_method_16_code 34 = .ok (.ireturn, 1) := by decide +kernel
theorem dX11_readF_35 : decode prog_13_method_16_code 35 = .ok (.aload_n 0, 1) := by decide +kernel
theorem dX11_readF_36 : decode prog_13_method_16_code 36 = .ok (.bipush 35, 2) := by decide +kernel
theorem dX11_readF_38 : decode prog_13_method_16_code 38 = .ok (.invokevirtual 191, 3) := by decide +kernel
theorem dX11_readF_41 : decode prog_13_method_16_code 41 = .ok (.ifCond .eq 21, 3) := by decide +kernel
theorem dX11_readF_44 : decode prog_13_method_16_code 44 = .ok (.aload_n 0, 1) := by decide +kernel
theorem dX11_readF_45 : decode prog_13_method_16_code 45 = .ok (.iconst 2, 1) := by decide +kernel
theorem dX11_readF_46 : decode prog_13_method_16_code 46 = .ok (.iconst 0, 1) := by decide +kernel
theorem dX11_readF_47 : decode prog_13_method_16_code 47 = .ok (.bipush 31, 2) := by decide +kernel
theorem dX11_readF_49 : decode prog_13_method_16_code 49 = .ok (.invokevirtual 229, 3) := by decide +kernel
theorem dX11_readF_52 : decode prog_13_method_16_code 52 = .ok (.istore_n 1, 1) := by decide +kernel
theorem dX11_readF_53 : decode prog_13_method_16_code 53 = .ok (.aload_n 0, 1) := by decide +kernel
theorem dX11_readF_54 : decode prog_13_method_16_code 54 = .ok (.iconst 2, 1) := by decide +kernel
theorem dX11_readF_55 : decode prog_13_method_16_code 55 = .ok (.iload_n 1, 1) := by decide +kernel
theorem dX11_readF_56 : decode prog_13_method_16_code 56 = .ok (.iconst 0, 1) := by decide +kernel
theorem dX11_readF_57 : decode prog_13_method_16_code 57 = .ok (.iconst 0, 1) := by decide +kernel
theorem dX11_readF_58 : decode prog_13_method_16_code 58 = .ok (.invokevirtual 215, 3) := by decide +kernel
theorem dX11_readF_61 : decode prog_13_method_16_code 61 = .ok (.ireturn, 1) := by decide +kernel
theorem dX11_readF_62 : decode prog_13_method_16_code 62 = .ok (.aload_n 0, 1) := by decide +kernel
theorem dX11_readF_63 : decode prog_13_method_16_code 63 = .ok (.bipush 115, 2) := by decide +kernel
theorem dX11_readF_65 : decode prog_13_method_16_code 65 = .ok (.invokevirtual 191, 3) := by decide +kernel
theorem dX11_readF_68 : decode prog_13_method_16_code 68 = .ok (.ifCond .eq 36, 3) := by decide +kernel
theorem dX11_readF_71 : decode prog_13_method_16_code 71 = .ok (.aload_n 0, 1) := by decide +kernel
theorem dX11_readF_72 : decode prog_13_method_16_code 72 = .ok (.iconst 2, 1) := by decide +kernel
theorem dX11_readF_73 : decode prog_13_method_16_code 73 = .ok (.iconst 0, 1) := by decide +kernel
theorem dX11_readF_74 : decode prog_13_method_16_code 74 = .ok (.bipush 31, 2) := by decide +kernel
theorem dX11_readF_76 : decode prog_13_method_16_code 76 = .ok (.invokevirtual 229, 3) := by decide +kernel
theorem dX11_readF_79 : decode prog_13_method_16_code 79 = .ok (.istore_n 1, 1) := by decide +kernel
theorem dX11_readF_80 : decode prog_13_method_16_code 80 = .ok (.aload_n 0, 1) := by decide +kernel
theorem dX11_readF_81 : decode prog_13_method_16_code 81 = .ok (.bipush 45, 2) := by decide +kernel
theorem dX11_readF_83 : decode prog_13_method_16_code 83 = .ok (.invokevirtual 208, 3) := by decide +kernel
theorem dX11_readF_86 : decode prog_13_method_16_code 86 = .ok (.aload_n 0, 1) := by decide +kernel
theorem dX11_readF_87 : decode prog_13_method_16_code 87 = .ok (.iconst 2, 1) := by decide +kernel
theorem dX11_readF_88 : decode prog_13_method_16_code 88 = .ok (.iload_n 1, 1) := by decide +kernel
theorem dX11_readF_89 : decode prog_13_method_16_code 89 = .ok (.bipush 31, 2) := by decide +kernel
theorem dX11_readF_91 : decode prog_13_method_16_code 91 = .ok (.invokevirtual 229, 3) := by decide +kernel
theorem dX11_readF_94 : decode prog_13_method_16_code 94 = .ok (.istore_n 2, 1) := by decide +kernel
theorem dX11_readF_95 : decode prog_13_method_16_code 95 = .ok (.aload_n 0, 1) := by decide +kernel
theorem dX11_readF_96 : decode prog_13_method_16_code 96 = .ok (.iconst 3, 1) := by decide +kernel
theorem dX11_readF_97 : decode prog_13_method_16_code 97 = .ok (.iload_n 1, 1) := by decide +kernel
theorem dX11_readF_98 : decode prog_13_method_16_code 98 = .ok (.iload_n 2, 1) := by decide +kernel
theorem dX11_readF_99 : decode prog_13_method_16_code 99 = .ok (.iconst 0, 1) := by decide +kernel
theorem dX11_readF_100 : decode prog_13_method_16_code 100 = .ok (.invokevirtual 215, 3) := by decide +kernel
theorem dX11_readF_103 : decode prog_13_method_16_code 103 = .ok (.ireturn, 1) := by decide +kernel
theorem dX11_readF_104 : decode prog_13_method_16_code 104 = .ok (.aload_n 0, 1) := by decide +kernel
theorem dX11_readF_105 : decode prog_13_method_16_code 105 = .ok (.getfield 184, 3) := by decide +kernel
theorem dX11_readF_108 : decode prog_13_method_16_code 108 = .ok (.aload_n 0, 1) := by decide +kernel
theorem dX11_readF_109 : decode prog_13_method_16_code 109 = .ok (.getfield 177, 3) := by decide +kernel
theorem dX11_readF_112 : decode prog_13_method_16_code 112 = .ok (.if_icmp .ge 15, 3) := by decide +kernel
theorem dX11_readF_115 : decode prog_13_method_16_code 115 = .ok (.aload_n 0, 1) := by decide +kernel
theorem dX11_readF_116 : decode prog_13_method_16_code 116 = .ok (.getfield 113, 3) := by decide +kernel
theorem dX11_readF_119 : decode prog_13_method_16_code 119 = .ok (.aload_n 0, 1) := by decide +kernel
theorem dX11_readF_120 : decode prog_13_method_16_code 120 = .ok (.getfield 184, 3) := by decide +kernel
theorem dX11_readF_123 : decode prog_13_method_16_code 123 = .ok (.iaload, 1) := by decide +kernel
theorem dX11_readF_124 : decode prog_13_method_16_code 124 = .ok (.goto 4, 3) := by decide +kernel
theorem dX11_readF_127 : decode prog_13_method_16_code 127 = .ok (.iconst 0, 1) := by decide +kernel
theorem dX11_readF_128 : decode prog_13_method_16_code 128 = .ok (.istore_n 1, 1) := by decide +kernel
theorem dX11_readF_129 : decode prog_13_method_16_code 129 = .ok (.iload_n 1, 1) := by decide +kernel
theorem dX11_readF_130 : decode prog_13_method_16_code 130 = .ok (.bipush 40, 2) := by decide +kernel
theorem dX11_readF_132 : decode prog_13_method_16_code 132 = .ok (.if_icmp .eq 33, 3) := by decide +kernel
theorem dX11_readF_135 : decode prog_13_method_16_code 135 = .ok (.iload_n 1, 1) := by decide +kernel
theorem dX11_readF_136 : decode prog_13_method_16_code 136 = .ok (.bipush 45, 2) := by decide +kernel
theorem dX11_readF_138 : decode prog_13_method_16_code 138 = .ok (.if_icmp .eq 27, 3) := by decide +kernel
theorem dX11_readF_141 : decode prog_13_method_16_code 141 = .ok (.iload_n 1, 1) := by decide +kernel
theorem dX11_readF_142 : decode prog_13_method_16_code 142 = .ok (.bipush 64, 2) := by decide +kernel
theorem dX11_readF_144 : decode prog_13_method_16_code 144 = .ok (.if_icmp .eq 21, 3) := by decide +kernel
theorem dX11_readF_147 : decode prog_13_method_16_code 147 = .ok (.iload_n 1, 1) := by decide +kernel
theorem dX11_readF_148 : decode prog_13_method_16_code 148 = .ok (.bipush 33, 2) := by decide +kernel
theorem dX11_readF_150 : decode prog_13_method_16_code 150 = .ok (.if_icmp .eq 15, 3) := by decide +kernel
theorem dX11_readF_153 : decode prog_13_method_16_code 153 = .ok (.iload_n 1, 1) := by decide +kernel
theorem dX11_readF_154 : decode prog_13_method_16_code 154 = .ok (.bipush 108, 2) := by decide +kernel
theorem dX11_readF_156 : decode prog_13_method_16_code 156 = .ok (.if_icmp .eq 9, 3) := by decide +kernel
theorem dX11_readF_159 : decode prog_13_method_16_code 159 = .ok (.iload_n 1, 1) := by decide +kernel
theorem dX11_readF_160 : decode prog_13_method_16_code 160 = .ok (.bipush 103, 2) := by decide +kernel
theorem dX11_readF_162 : decode prog_13_method_16_code 162 = .ok (.if_icmp .ne 11, 3) := by decide +kernel
theorem dX11_readF_165 : decode prog_13_method_16_code 165 = .ok (.aload_n 0, 1) := by decide +kernel
theorem dX11_readF_166 : decode prog_13_method_16_code 166 = .ok (.getfield 233, 3) := by decide +kernel
theorem dX11_readF_169 : decode prog_13_method_16_code 169 = .ok (.iconst 3, 1) := by decide +kernel
theorem dX11_readF_170 : decode prog_13_method_16_code 170 = .ok (.if_icmp .ne 13, 3) := by decide +kernel
theorem dX11_readF_173 : decode prog_13_method_16_code 173 = .ok (.aload_n 0, 1) := by decide +kernel
theorem dX11_readF_174 : decode prog_13_method_16_code 174 = .ok (.aload_n 0, 1) := by decide +kernel
theorem dX11_readF_175 : decode prog_13_method_16_code 175 = .ok (.getfield 184, 3) := by decide +kernel
theorem dX11_readF_178 : decode prog_13_method_16_code 178 = .ok (.putfield 181, 3) := by decide +kernel
theorem dX11_readF_181 : decode prog_13_method_16_code 181 = .ok (.iconst 0, 1) := by decide +kernel
theorem dX11_readF_182 : decode prog_13_method_16_code 182 = .ok (.ireturn, 1) := by decide +kernel
theorem dX11_readF_183 : decode prog_13_method_16_code 183 = .ok (.aload_n 0, 1) := by decide +kernel
theorem dX11_readF_184 : decode prog_13_method_16_code 184 = .ok (.dup, 1) := by decide +kernel
theorem dX11_readF_185 : decode prog_13_method_16_code 185 = .ok (.getfield 184, 3) := by decide +kernel
theorem dX11_readF_188 : decode prog_13_method_16_code 188 = .ok (.iconst 1, 1) := by decide +kernel
theorem dX11_readF_189 : decode prog_13_method_16_code 189 = .ok (.iadd, 1) := by decide +kernel
theorem dX11_readF_190 : decode prog_13_method_16_code 190 = .ok (.putfield 184, 3) := by decide +kernel
theorem dX11_readF_193 : decode prog_13_method_16_code 193 = .ok (.aload_n 0, 1) := by decide +kernel
theorem dX11_readF_194 : decode prog_13_method_16_code 194 = .ok (.dup, 1) := by decide +kernel
theorem dX11_readF_195 : decode prog_13_method_16_code 195 = .ok (.getfield 233, 3) := by decide +kernel
theorem dX11_readF_198 : decode prog_13_method_16_code 198 = .ok (.iconst 1, 1) := by decide +kernel
theorem dX11_readF_199 : decode prog_13_method_16_code 199 = .ok (.iadd, 1) := by decide +kernel
theorem dX11_readF_200 : decode prog_13_method_16_code 200 = .ok (.putfield 233, 3) := by decide +kernel
theorem dX11_readF_203 : decode prog_13_method_16_code 203 = .ok (.iconst 0, 1) := by decide +kernel
theorem dX11_readF_204 : decode prog_13_method_16_code 204 = .ok (.istore_n 3, 1) := by decide +kernel
theorem dX11_readF_205 : decode prog_13_method_16_code 205 = .ok (.iload_n 1, 1) := by decide +kernel
theorem dX11_readF_206 : decode prog_13_method_16_code 206 = .ok (.bipush 40, 2) := by decide +kernel
theorem dX11_readF_208 : decode prog_13_method_16_code 208 = .ok (.if_icmp .ne 17, 3) := by decide +kernel
theorem dX11_readF_211 : decode prog_13_method_16_code 211 = .ok (.aload_n 0, 1) := by decide +kernel
theorem dX11_readF_212 : decode prog_13_method_16_code 212 = .ok (.invokevirtual 212, 3) := by decide +kernel
theorem dX11_readF_225 : decode prog_13_method_16_code 225 = .ok (.iload_n 1, 1) := by decide +kernel
theorem dX11_readF_226 : decode prog_13_method_16_code 226 = .ok (.bipush 108, 2) := by decide +kernel
theorem dX11_readF_228 : decode prog_13_method_16_code 228 = .ok (.if_icmp .eq 9, 3) := by decide +kernel
theorem dX11_readF_231 : decode prog_13_method_16_code 231 = .ok (.iload_n 1, 1) := by decide +kernel
theorem dX11_readF_232 : decode prog_13_method_16_code 232 = .ok (.bipush 103, 2) := by decide +kernel
theorem dX11_readF_234 : decode prog_13_method_16_code 234 = .ok (.if_icmp .ne 55, 3) := by decide +kernel
theorem dX11_readF_237 : decode prog_13_method_16_code 237 = .ok (.aload_n 0, 1) := by decide +kernel
theorem dX11_readF_238 : decode prog_13_method_16_code 238 = .ok (.bipush 40, 2) := by decide +kernel
theorem dX11_readF_240 : decode prog_13_method_16_code 240 = .ok (.invokevirtual 208, 3) := by decide +kernel
theorem dX11_readF_243 : decode prog_13_method_16_code 243 = .ok (.aload_n 0, 1) := by decide +kernel
theorem dX11_readF_244 : decode prog_13_method_16_code 244 = .ok (.invokevirtual 212, 3) := by decide +kernel
theorem dX11_readF_289 : decode prog_13_method_16_code 289 = .ok (.aload_n 0, 1) := by decide +kernel
theorem dX11_readF_290 : decode prog_13_method_16_code 290 = .ok (.invokevirtual 225, 3) := by decide +kernel
theorem dX11_takes_0 : decode prog_13_method_8_code 0 = .ok (.aload_n 0, 1) := by decide +kernel
theorem dX11_takes_1 : decode prog_13_method_8_code 1 = .ok (.iload_n 1, 1) := by decide +kernel
theorem dX11_takes_2 : decode prog_13_method_8_code 2 = .ok (.invokevirtual 187, 3) := by decide +kernel
theorem dX11_takes_5 : decode prog_13_method_8_code 5 = .ok (.ifCond .ne 5, 3) := by decide +kernel
theorem dX11_takes_8 : decode prog_13_method_8_code 8 = .ok (.iconst 0, 1) := by decide +kernel
theorem dX11_takes_9 : decode prog_13_method_8_code 9 = .ok (.ireturn, 1) := by decide +kernel
theorem dX11_takes_10 : decode prog_13_method_8_code 10 = .ok (.aload_n 0, 1) := by decide +kernel
theorem dX11_takes_11 : decode prog_13_method_8_code 11 = .ok (.dup, 1) := by decide +kernel
theorem dX11_takes_12 : decode prog_13_method_8_code 12 = .ok (.getfield 184, 3) := by decide +kernel
theorem dX11_takes_15 : decode prog_13_method_8_code 15 = .ok (.iconst 1, 1) := by decide +kernel
theorem dX11_takes_16 : decode prog_13_method_8_code 16 = .ok (.iadd, 1) := by decide +kernel
theorem dX11_takes_17 : decode prog_13_method_8_code 17 = .ok (.putfield 184, 3) := by decide +kernel
theorem dX11_takes_20 : decode prog_13_method_8_code 20 = .ok (.iconst 1, 1) := by decide +kernel
theorem dX11_takes_21 : decode prog_13_method_8_code 21 = .ok (.ireturn, 1) := by decide +kernel
theorem dX11_told_0 : decode prog_13_method_42_code 0 = .ok (.aload_n 0, 1) := by decide +kernel
theorem dX11_told_1 : decode prog_13_method_42_code 1 = .ok (.getfield 342, 3) := by decide +kernel
theorem dX11_told_4 : decode prog_13_method_42_code 4 = .ok (.ifCond .ne 21, 3) := by decide +kernel
theorem dX11_told_7 : decode prog_13_method_42_code 7 = .ok (.aload_n 0, 1) := by decide +kernel
theorem dX11_told_8 : decode prog_13_method_42_code 8 = .ok (.invokevirtual 345, 3) := by decide +kernel
theorem dX11_told_11 : decode prog_13_method_42_code 11 = .ok (.aload_n 0, 1) := by decide +kernel
theorem dX11_told_12 : decode prog_13_method_42_code 12 = .ok (.iload_n 1, 1) := by decide +kernel
theorem dX11_told_13 : decode prog_13_method_42_code 13 = .ok (.iload_n 2, 1) := by decide +kernel
theorem dX11_told_14 : decode prog_13_method_42_code 14 = .ok (.lload_n 3, 1) := by decide +kernel
theorem dX11_told_15 : decode prog_13_method_42_code 15 = .ok (.iload 5, 2) := by decide +kernel
theorem dX11_told_17 : decode prog_13_method_42_code 17 = .ok (.invokevirtual 348, 3) := by decide +kernel
theorem dX11_told_20 : decode prog_13_method_42_code 20 = .ok (.aload_n 0, 1) := by decide +kernel
theorem dX11_told_21 : decode prog_13_method_42_code 21 = .ok (.invokevirtual 352, 3) := by decide +kernel
theorem dX11_told_24 : decode prog_13_method_42_code 24 = .ok (.ireturn, 1) := by decide +kernel
theorem dX11_told_25 : decode prog_13_method_42_code 25 = .ok (.aload_n 0, 1) := by decide +kernel
theorem dX11_told_26 : decode prog_13_method_42_code 26 = .ok (.getfield 59, 3) := by decide +kernel
theorem dX11_told_29 : decode prog_13_method_42_code 29 = .ok (.iload_n 1, 1) := by decide +kernel
theorem dX11_told_30 : decode prog_13_method_42_code 30 = .ok (.iconst 1, 1) := by decide +kernel
theorem dX11_told_31 : decode prog_13_method_42_code 31 = .ok (.bastore, 1) := by decide +kernel
theorem dX11_told_32 : decode prog_13_method_42_code 32 = .ok (.aload_n 0, 1) := by decide +kernel
theorem dX11_told_33 : decode prog_13_method_42_code 33 = .ok (.getfield 68, 3) := by decide +kernel
theorem dX11_told_36 : decode prog_13_method_42_code 36 = .ok (.iload_n 1, 1) := by decide +kernel
theorem dX11_told_37 : decode prog_13_method_42_code 37 = .ok (.iload_n 2, 1) := by decide +kernel
theorem dX11_told_38 : decode prog_13_method_42_code 38 = .ok (.iastore, 1) := by decide +kernel
theorem dX11_told_39 : decode prog_13_method_42_code 39 = .ok (.aload_n 0, 1) := by decide +kernel
theorem dX11_told_40 : decode prog_13_method_42_code 40 = .ok (.getfield 77, 3) := by decide +kernel
theorem dX11_told_43 : decode prog_13_method_42_code 43 = .ok (.iload_n 1, 1) := by decide +kernel
theorem dX11_told_44 : decode prog_13_method_42_code 44 = .ok (.lload_n 3, 1) := by decide +kernel
theorem dX11_told_45 : decode prog_13_method_42_code 45 = .ok (.lastore, 1) := by decide +kernel
theorem dX11_told_46 : decode prog_13_method_42_code 46 = .ok (.aload_n 0, 1) := by decide +kernel
theorem dX11_told_47 : decode prog_13_method_42_code 47 = .ok (.getfield 71, 3) := by decide +kernel
theorem dX11_told_50 : decode prog_13_method_42_code 50 = .ok (.iload_n 1, 1) := by decide +kernel
theorem dX11_told_51 : decode prog_13_method_42_code 51 = .ok (.iload 5, 2) := by decide +kernel
theorem dX11_told_53 : decode prog_13_method_42_code 53 = .ok (.iastore, 1) := by decide +kernel
theorem dX11_told_54 : decode prog_13_method_42_code 54 = .ok (.iload_n 2, 1) := by decide +kernel
theorem dX11_told_55 : decode prog_13_method_42_code 55 = .ok (.iconst 2, 1) := by decide +kernel
theorem dX11_told_56 : decode prog_13_method_42_code 56 = .ok (.if_icmp .ne 15, 3) := by decide +kernel
theorem dX11_told_59 : decode prog_13_method_42_code 59 = .ok (.aload_n 0, 1) := by decide +kernel
theorem dX11_told_60 : decode prog_13_method_42_code 60 = .ok (.iload_n 1, 1) := by decide +kernel
theorem dX11_told_61 : decode prog_13_method_42_code 61 = .ok (.invokestatic 293, 3) := by decide +kernel
theorem dX11_told_64 : decode prog_13_method_42_code 64 = .ok (.iload_n 1, 1) := by decide +kernel
theorem dX11_told_65 : decode prog_13_method_42_code 65 = .ok (.invokestatic 355, 3) := by decide +kernel
theorem dX11_told_68 : decode prog_13_method_42_code 68 = .ok (.invokevirtual 358, 3) := by decide +kernel
theorem dX11_told_71 : decode prog_13_method_42_code 71 = .ok (.iconst 0, 1) := by decide +kernel
theorem dX11_told_72 : decode prog_13_method_42_code 72 = .ok (.ireturn, 1) := by decide +kernel
theorem dX11_wave_0 : decode prog_13_method_41_code 0 = .ok (.aload_n 0, 1) := by decide +kernel
theorem dX11_wave_1 : decode prog_13_method_41_code 1 = .ok (.invokevirtual 312, 3) := by decide +kernel
theorem dX11_wave_4 : decode prog_13_method_41_code 4 = .ok (.ifCond .ne 10, 3) := by decide +kernel
theorem dX11_wave_7 : decode prog_13_method_41_code 7 = .ok (.aload_n 0, 1) := by decide +kernel
theorem dX11_wave_8 : decode prog_13_method_41_code 8 = .ok (.invokevirtual 315, 3) := by decide +kernel
theorem dX11_wave_11 : decode prog_13_method_41_code 11 = .ok (.bipush (-7), 2) := by decide +kernel
theorem dX11_wave_13 : decode prog_13_method_41_code 13 = .ok (.ireturn, 1) := by decide +kernel
theorem dX11_wave_14 : decode prog_13_method_41_code 14 = .ok (.iconst 0, 1) := by decide +kernel
theorem dX11_wave_15 : decode prog_13_method_41_code 15 = .ok (.istore_n 1, 1) := by decide +kernel
theorem dX11_wave_16 : decode prog_13_method_41_code 16 = .ok (.aload_n 0, 1) := by decide +kernel
theorem dX11_wave_17 : decode prog_13_method_41_code 17 = .ok (.iconst 0, 1) := by decide +kernel
theorem dX11_wave_18 : decode prog_13_method_41_code 18 = .ok (.putfield 318, 3) := by decide +kernel
theorem dX11_wave_21 : decode prog_13_method_41_code 21 = .ok (.iconst 0, 1) := by decide +kernel
theorem dX11_wave_22 : decode prog_13_method_41_code 22 = .ok (.istore_n 2, 1) := by decide +kernel
theorem dX11_wave_23 : decode prog_13_method_41_code 23 = .ok (.iload_n 2, 1) := by decide +kernel
theorem dX11_wave_24 : decode prog_13_method_41_code 24 = .ok (.bipush 32, 2) := by decide +kernel
theorem dX11_wave_26 : decode prog_13_method_41_code 26 = .ok (.if_icmp .ge 49, 3) := by decide +kernel
theorem dX11_wave_29 : decode prog_13_method_41_code 29 = .ok (.iload_n 1, 1) := by decide +kernel
theorem dX11_wave_30 : decode prog_13_method_41_code 30 = .ok (.aload_n 0, 1) := by decide +kernel
theorem dX11_wave_31 : decode prog_13_method_41_code 31 = .ok (.getfield 56, 3) := by decide +kernel
theorem dX11_wave_34 : decode prog_13_method_41_code 34 = .ok (.iload_n 2, 1) := by decide +kernel
theorem dX11_wave_35 : decode prog_13_method_41_code 35 = .ok (.baload, 1) := by decide +kernel
theorem dX11_wave_36 : decode prog_13_method_41_code 36 = .ok (.ifCond .eq 7, 3) := by decide +kernel
theorem dX11_wave_39 : decode prog_13_method_41_code 39 = .ok (.iconst 1, 1) := by decide +kernel
theorem dX11_wave_40 : decode prog_13_method_41_code 40 = .ok (.goto 4, 3) := by decide +kernel
theorem dX11_wave_43 : decode prog_13_method_41_code 43 = .ok (.iconst 0, 1) := by decide +kernel
theorem dX11_wave_44 : decode prog_13_method_41_code 44 = .ok (.iadd, 1) := by decide +kernel
theorem dX11_wave_45 : decode prog_13_method_41_code 45 = .ok (.istore_n 1, 1) := by decide +kernel
theorem dX11_wave_46 : decode prog_13_method_41_code 46 = .ok (.aload_n 0, 1) := by decide +kernel
theorem dX11_wave_47 : decode prog_13_method_41_code 47 = .ok (.dup, 1) := by decide +kernel
theorem dX11_wave_48 : decode prog_13_method_41_code 48 = .ok (.getfield 318, 3) := by decide +kernel
theorem dX11_wave_51 : decode prog_13_method_41_code 51 = .ok (.aload_n 0, 1) := by decide +kernel
theorem dX11_wave_52 : decode prog_13_method_41_code 52 = .ok (.getfield 37, 3) := by decide +kernel
theorem dX11_wave_55 : decode prog_13_method_41_code 55 = .ok (.iload_n 2, 1) := by decide +kernel
theorem dX11_wave_56 : decode prog_13_method_41_code 56 = .ok (.baload, 1) := by decide +kernel
theorem dX11_wave_57 : decode prog_13_method_41_code 57 = .ok (.ifCond .eq 7, 3) := by decide +kernel
theorem dX11_wave_60 : decode prog_13_method_41_code 60 = .ok (.iconst 1, 1) := by decide +kernel
theorem dX11_wave_61 : decode prog_13_method_41_code 61 = .ok (.goto 4, 3) := by decide +kernel
theorem dX11_wave_64 : decode prog_13_method_41_code 64 = .ok (.iconst 0, 1) := by decide +kernel
theorem dX11_wave_65 : decode prog_13_method_41_code 65 = .ok (.iadd, 1) := by decide +kernel
theorem dX11_wave_66 : decode prog_13_method_41_code 66 = .ok (.putfield 318, 3) := by decide +kernel
theorem dX11_wave_69 : decode prog_13_method_41_code 69 = .ok (.iinc 2 1, 3) := by decide +kernel
theorem dX11_wave_72 : decode prog_13_method_41_code 72 = .ok (.goto (-49), 3) := by decide +kernel
theorem dX11_wave_75 : decode prog_13_method_41_code 75 = .ok (.aload_n 0, 1) := by decide +kernel
theorem dX11_wave_76 : decode prog_13_method_41_code 76 = .ok (.aload_n 0, 1) := by decide +kernel
theorem dX11_wave_77 : decode prog_13_method_41_code 77 = .ok (.getfield 290, 3) := by decide +kernel
theorem dX11_wave_80 : decode prog_13_method_41_code 80 = .ok (.putfield 321, 3) := by decide +kernel
theorem dX11_wave_83 : decode prog_13_method_41_code 83 = .ok (.aload_n 0, 1) := by decide +kernel
theorem dX11_wave_84 : decode prog_13_method_41_code 84 = .ok (.dup, 1) := by decide +kernel
theorem dX11_wave_85 : decode prog_13_method_41_code 85 = .ok (.getfield 324, 3) := by decide +kernel
theorem dX11_wave_88 : decode prog_13_method_41_code 88 = .ok (.iconst 1, 1) := by decide +kernel
theorem dX11_wave_89 : decode prog_13_method_41_code 89 = .ok (.iadd, 1) := by decide +kernel
theorem dX11_wave_90 : decode prog_13_method_41_code 90 = .ok (.putfield 324, 3) := by decide +kernel
theorem dX11_wave_93 : decode prog_13_method_41_code 93 = .ok (.iconst 0, 1) := by decide +kernel
theorem dX11_wave_94 : decode prog_13_method_41_code 94 = .ok (.istore_n 2, 1) := by decide +kernel
theorem dX11_wave_95 : decode prog_13_method_41_code 95 = .ok (.iconst 0, 1) := by decide +kernel
theorem dX11_wave_96 : decode prog_13_method_41_code 96 = .ok (.istore_n 3, 1) := by decide +kernel
theorem dX11_wave_97 : decode prog_13_method_41_code 97 = .ok (.iload_n 3, 1) := by decide +kernel
theorem dX11_wave_98 : decode prog_13_method_41_code 98 = .ok (.aload_n 0, 1) := by decide +kernel
theorem dX11_wave_99 : decode prog_13_method_41_code 99 = .ok (.getfield 327, 3) := by decide +kernel
theorem dX11_wave_102 : decode prog_13_method_41_code 102 = .ok (.if_icmp .ge 28, 3) := by decide +kernel
theorem dX11_wave_105 : decode prog_13_method_41_code 105 = .ok (.aload_n 0, 1) := by decide +kernel
theorem dX11_wave_106 : decode prog_13_method_41_code 106 = .ok (.iload_n 3, 1) := by decide +kernel
theorem dX11_wave_107 : decode prog_13_method_41_code 107 = .ok (.invokevirtual 330, 3) := by decide +kernel
theorem dX11_wave_130 : decode prog_13_method_41_code 130 = .ok (.bipush 79, 2) := by decide +kernel
theorem dX11_wave_132 : decode prog_13_method_41_code 132 = .ok (.istore_n 3, 1) := by decide +kernel
theorem dX11_wave_133 : decode prog_13_method_41_code 133 = .ok (.iload_n 3, 1) := by decide +kernel
theorem dX11_wave_134 : decode prog_13_method_41_code 134 = .ok (.iconst 4, 1) := by decide +kernel
theorem dX11_wave_135 : decode prog_13_method_41_code 135 = .ok (.if_icmp .lt 23, 3) := by decide +kernel
theorem dX11_wave_138 : decode prog_13_method_41_code 138 = .ok (.aload_n 0, 1) := by decide +kernel
theorem dX11_wave_139 : decode prog_13_method_41_code 139 = .ok (.getfield 146, 3) := by decide +kernel
theorem dX11_wave_142 : decode prog_13_method_41_code 142 = .ok (.iload_n 3, 1) := by decide +kernel
theorem dX11_wave_143 : decode prog_13_method_41_code 143 = .ok (.aload_n 0, 1) := by decide +kernel
theorem dX11_wave_144 : decode prog_13_method_41_code 144 = .ok (.getfield 146, 3) := by decide +kernel
theorem dX11_wave_147 : decode prog_13_method_41_code 147 = .ok (.iload_n 3, 1) := by decide +kernel
theorem dX11_wave_148 : decode prog_13_method_41_code 148 = .ok (.iconst 4, 1) := by decide +kernel
theorem dX11_wave_149 : decode prog_13_method_41_code 149 = .ok (.isub, 1) := by decide +kernel
theorem dX11_wave_150 : decode prog_13_method_41_code 150 = .ok (.iaload, 1) := by decide +kernel
theorem dX11_wave_151 : decode prog_13_method_41_code 151 = .ok (.iastore, 1) := by decide +kernel
theorem dX11_wave_152 : decode prog_13_method_41_code 152 = .ok (.iinc 3 (-1), 3) := by decide +kernel
theorem dX11_wave_155 : decode prog_13_method_41_code 155 = .ok (.goto (-22), 3) := by decide +kernel
theorem dX11_wave_158 : decode prog_13_method_41_code 158 = .ok (.aload_n 0, 1) := by decide +kernel
theorem dX11_wave_159 : decode prog_13_method_41_code 159 = .ok (.getfield 146, 3) := by decide +kernel
theorem dX11_wave_162 : decode prog_13_method_41_code 162 = .ok (.iconst 0, 1) := by decide +kernel
theorem dX11_wave_163 : decode prog_13_method_41_code 163 = .ok (.iload_n 1, 1) := by decide +kernel
theorem dX11_wave_164 : decode prog_13_method_41_code 164 = .ok (.iastore, 1) := by decide +kernel
theorem dX11_wave_165 : decode prog_13_method_41_code 165 = .ok (.aload_n 0, 1) := by decide +kernel
theorem dX11_wave_166 : decode prog_13_method_41_code 166 = .ok (.getfield 146, 3) := by decide +kernel
theorem dX11_wave_169 : decode prog_13_method_41_code 169 = .ok (.iconst 1, 1) := by decide +kernel
theorem dX11_wave_170 : decode prog_13_method_41_code 170 = .ok (.aload_n 0, 1) := by decide +kernel
theorem dX11_wave_171 : decode prog_13_method_41_code 171 = .ok (.getfield 321, 3) := by decide +kernel
theorem dX11_wave_174 : decode prog_13_method_41_code 174 = .ok (.iastore, 1) := by decide +kernel
theorem dX11_wave_175 : decode prog_13_method_41_code 175 = .ok (.aload_n 0, 1) := by decide +kernel
theorem dX11_wave_176 : decode prog_13_method_41_code 176 = .ok (.getfield 146, 3) := by decide +kernel
theorem dX11_wave_179 : decode prog_13_method_41_code 179 = .ok (.iconst 2, 1) := by decide +kernel
theorem dX11_wave_180 : decode prog_13_method_41_code 180 = .ok (.aload_n 0, 1) := by decide +kernel
theorem dX11_wave_181 : decode prog_13_method_41_code 181 = .ok (.getfield 318, 3) := by decide +kernel
theorem dX11_wave_184 : decode prog_13_method_41_code 184 = .ok (.iastore, 1) := by decide +kernel
theorem dX11_wave_185 : decode prog_13_method_41_code 185 = .ok (.aload_n 0, 1) := by decide +kernel
theorem dX11_wave_186 : decode prog_13_method_41_code 186 = .ok (.getfield 146, 3) := by decide +kernel
theorem dX11_wave_189 : decode prog_13_method_41_code 189 = .ok (.iconst 3, 1) := by decide +kernel
theorem dX11_wave_190 : decode prog_13_method_41_code 190 = .ok (.iload_n 2, 1) := by decide +kernel
theorem dX11_wave_191 : decode prog_13_method_41_code 191 = .ok (.iastore, 1) := by decide +kernel
theorem dX11_wave_192 : decode prog_13_method_41_code 192 = .ok (.aload_n 0, 1) := by decide +kernel
theorem dX11_wave_193 : decode prog_13_method_41_code 193 = .ok (.bipush 20, 2) := by decide +kernel
theorem dX11_wave_195 : decode prog_13_method_41_code 195 = .ok (.aload_n 0, 1) := by decide +kernel
theorem dX11_wave_196 : decode prog_13_method_41_code 196 = .ok (.getfield 336, 3) := by decide +kernel
theorem dX11_wave_199 : decode prog_13_method_41_code 199 = .ok (.iconst 1, 1) := by decide +kernel
theorem dX11_wave_200 : decode prog_13_method_41_code 200 = .ok (.iadd, 1) := by decide +kernel
theorem dX11_wave_201 : decode prog_13_method_41_code 201 = .ok (.invokestatic 339, 3) := by decide +kernel
theorem dX11_wave_204 : decode prog_13_method_41_code 204 = .ok (.putfield 336, 3) := by decide +kernel
theorem dX11_wave_207 : decode prog_13_method_41_code 207 = .ok (.aload_n 0, 1) := by decide +kernel
theorem dX11_wave_208 : decode prog_13_method_41_code 208 = .ok (.getfield 321, 3) := by decide +kernel
theorem dX11_wave_211 : decode prog_13_method_41_code 211 = .ok (.ireturn, 1) := by decide +kernel
/-! ReactiveSheetModel.wave()I ['m'] -/
abbrev rm_M_X11_wave__0 : Room := { frames := 3, cells := 0, slots := 0, locals := 62 }
def b_M_X11_wave__0_158  (t : fw_S) (x1 : Int32) (x2 : Int32) : Option (Int32 × fw_S) := fb_g (¬ (((0 : Int32)) < 0 ∨ 80 ≤ ((0 : Int32)).toNatClampNeg)) (fb_l (up_F t 37 (upd (st_F t 37) ((0 : Int32)).toNatClampNeg x1)) fun t_1 => (fb_g (¬ (((1 : Int32)) < 0 ∨ 80 ≤ ((1 : Int32)).toNatClampNeg)) (fb_l (up_F t_1 37 (upd (st_F t_1 37) ((1 : Int32)).toNatClampNeg (st_I t_1 16))) fun t_2 => (fb_g (¬ (((2 : Int32)) < 0 ∨ 80 ≤ ((2 : Int32)).toNatClampNeg)) (fb_l (up_F t_2 37 (upd (st_F t_2 37) ((2 : Int32)).toNatClampNeg (st_I t_2 17))) fun t_3 => (fb_g (¬ (((3 : Int32)) < 0 ∨ 80 ≤ ((3 : Int32)).toNatClampNeg)) (fb_l (up_F t_3 37 (upd (st_F t_3 37) ((3 : Int32)).toNatClampNeg x2)) fun t_4 => (fb_b (f_M_J9_min_7cf53 t_4 ((20 : Int32)) ((st_I t_4 15) + ((1 : Int32)))) fun v_6 t_5 => (fb_l (up_I t_5 15 v_6) fun t_7 => (some (st_I t_7 16, t_7)))))))))))
def b_M_X11_wave__0_138 (k133 : fw_S → Int32 → Int32 → Int32 → Option (Int32 × fw_S)) (t : fw_S) (x1 : Int32) (x2 : Int32) (x3 : Int32) : Option (Int32 × fw_S) := fb_g (¬ ((x3 - ((4 : Int32))) < 0 ∨ 80 ≤ (x3 - ((4 : Int32))).toNatClampNeg)) (fb_g (¬ (x3 < 0 ∨ 80 ≤ x3.toNatClampNeg)) (fb_l (up_F t 37 (upd (st_F t 37) x3.toNatClampNeg (st_F t 37 (x3 - ((4 : Int32))).toNatClampNeg))) fun t_1 => (k133 t_1 x1 x2 (x3 + (-1)))))
def b_M_X11_wave__0_133  : Nat → (fw_S → Int32 → Int32 → Int32 → Option (Int32 × fw_S))
  | 0 => fun _ _ _ _ => none
  | n + 1 => fun t x1 x2 x3 => if x3 < ((4 : Int32)) then b_M_X11_wave__0_158 t x1 x2 else b_M_X11_wave__0_138 (b_M_X11_wave__0_133 n) t x1 x2 x3
def b_M_X11_wave__0_130  (t : fw_S) (x1 : Int32) (x2 : Int32) : Option (Int32 × fw_S) := b_M_X11_wave__0_133 3000 t x1 x2 ((79 : Int32))
def b_M_X11_wave__0_105  (t : fw_S) (x1 : Int32) (x2 : Int32) (x3 : Int32) : Option (Int32 × fw_S) := none
def b_M_X11_wave__0_97  (t : fw_S) (x1 : Int32) (x2 : Int32) (x3 : Int32) : Option (Int32 × fw_S) := if (st_I t 12) ≤ x3 then b_M_X11_wave__0_130 t x1 x2 else b_M_X11_wave__0_105 t x1 x2 x3
def b_M_X11_wave__0_75  (t : fw_S) (x1 : Int32) : Option (Int32 × fw_S) := fb_l (up_I t 16 (st_I t 3)) fun t_1 => (fb_l (up_I t_1 14 ((st_I t_1 14) + ((1 : Int32)))) fun t_2 => (b_M_X11_wave__0_97 t_2 x1 ((0 : Int32)) ((0 : Int32))))
def b_M_X11_wave__0_65 (k23 : fw_S → Int32 → Int32 → Option (Int32 × fw_S)) (t : fw_S) (x1 : Int32) (x2 : Int32) (z1 : Int32) (z2 : Int32) : Option (Int32 × fw_S) := fb_l (up_I t 17 (z1 + z2)) fun t_1 => (k23 t_1 x1 (x2 + 1))
def b_M_X11_wave__0_64 (k23 : fw_S → Int32 → Int32 → Option (Int32 × fw_S)) (t : fw_S) (x1 : Int32) (x2 : Int32) (z1 : Int32) : Option (Int32 × fw_S) := b_M_X11_wave__0_65 k23 t x1 x2 z1 ((0 : Int32))
def b_M_X11_wave__0_60 (k23 : fw_S → Int32 → Int32 → Option (Int32 × fw_S)) (t : fw_S) (x1 : Int32) (x2 : Int32) (z1 : Int32) : Option (Int32 × fw_S) := b_M_X11_wave__0_65 k23 t x1 x2 z1 ((1 : Int32))
def b_M_X11_wave__0_44 (k23 : fw_S → Int32 → Int32 → Option (Int32 × fw_S)) (t : fw_S) (x2 : Int32) (z0 : Int32) (z1 : Int32) : Option (Int32 × fw_S) := fb_g (¬ (x2 < 0 ∨ 32 ≤ x2.toNatClampNeg)) (if (st_F t 7 x2.toNatClampNeg) = 0 then b_M_X11_wave__0_64 k23 t (z0 + z1) x2 (st_I t 17) else b_M_X11_wave__0_60 k23 t (z0 + z1) x2 (st_I t 17))
def b_M_X11_wave__0_43 (k23 : fw_S → Int32 → Int32 → Option (Int32 × fw_S)) (t : fw_S) (x2 : Int32) (z0 : Int32) : Option (Int32 × fw_S) := b_M_X11_wave__0_44 k23 t x2 z0 ((0 : Int32))
def b_M_X11_wave__0_39 (k23 : fw_S → Int32 → Int32 → Option (Int32 × fw_S)) (t : fw_S) (x2 : Int32) (z0 : Int32) : Option (Int32 × fw_S) := b_M_X11_wave__0_44 k23 t x2 z0 ((1 : Int32))
def b_M_X11_wave__0_29 (k23 : fw_S → Int32 → Int32 → Option (Int32 × fw_S)) (t : fw_S) (x1 : Int32) (x2 : Int32) : Option (Int32 × fw_S) := fb_g (¬ (x2 < 0 ∨ 32 ≤ x2.toNatClampNeg)) (if (st_F t 13 x2.toNatClampNeg) = 0 then b_M_X11_wave__0_43 k23 t x2 x1 else b_M_X11_wave__0_39 k23 t x2 x1)
def b_M_X11_wave__0_23  : Nat → (fw_S → Int32 → Int32 → Option (Int32 × fw_S))
  | 0 => fun _ _ _ => none
  | n + 1 => fun t x1 x2 => if ((32 : Int32)) ≤ x2 then b_M_X11_wave__0_75 t x1 else b_M_X11_wave__0_29 (b_M_X11_wave__0_23 n) t x1 x2
def b_M_X11_wave__0_14  (t : fw_S)  : Option (Int32 × fw_S) := fb_l (up_I t 17 ((0 : Int32))) fun t_1 => (b_M_X11_wave__0_23 3000 t_1 ((0 : Int32)) ((0 : Int32)))
def b_M_X11_wave__0_7  (t : fw_S)  : Option (Int32 × fw_S) := fb_v (f_M_X11_undoes__0 t) fun t_1 => (some ((-7 : Int32), t_1))
def b_M_X11_wave__0_0  (t : fw_S)  : Option (Int32 × fw_S) := fb_b (f_M_X11_goes__0 t) fun v_2 t_1 => (if v_2 = 0 then b_M_X11_wave__0_7 t_1 else b_M_X11_wave__0_14 t_1)
def f_M_X11_wave__0 (t : fw_S)  : Option (Int32 × fw_S) := b_M_X11_wave__0_0 t 
set_option maxRecDepth 20000 in
theorem w_M_X11_wave__0_158 {p : Program} {l : Launch} {e : Env} {s : State} {m : MethodId} {args : Array Value} {below : List Frame} {meth : Method} {c : Code} {A : Nat → Prop} {Q : State → Prop} {D : va_G} {ca : Nat → ClassId} {a : Nat → Nat} {u : fw_S} {r : Int32}  (C : CX (WM ca a) D (tyv ca) p s m args c A prog_13_method_41_code 4 RX11) (hr : True → RX (WM ca a) D p l e rm_M_X11_wave__0 s m args below meth c A prog_13_method_41_code Q .ireturn [.int r] u) {t : fw_S} {x1 : Int32} {x2 : Int32} {H : Heap} {locs : List Loc} {ls : Array Slot} (hf : b_M_X11_wave__0_158  t x1 x2 = some (r, u)) (hP : va_P D classes (WM ca a t) H) (hS : va_S A s.heap H locs) (hl : lv_has ls 4 [(0, .ref (a 0)), (1, .int x1), (2, .int x2)]) : W p l e rm_M_X11_wave__0 s m args below meth c H locs 0 0 Q (F0 m 158 ls []) := by
  obtain ⟨hx, hb, hml, hown, hts, hN, hK, hD, hA⟩ := id C
  have hf : (fb_g (¬ (((0 : Int32)) < 0 ∨ 80 ≤ ((0 : Int32)).toNatClampNeg)) (fb_l (up_F t 37 (upd (st_F t 37) ((0 : Int32)).toNatClampNeg x1)) fun t_1 => (fb_g (¬ (((1 : Int32)) < 0 ∨ 80 ≤ ((1 : Int32)).toNatClampNeg)) (fb_l (up_F t_1 37 (upd (st_F t_1 37) ((1 : Int32)).toNatClampNeg (st_I t_1 16))) fun t_2 => (fb_g (¬ (((2 : Int32)) < 0 ∨ 80 ≤ ((2 : Int32)).toNatClampNeg)) (fb_l (up_F t_2 37 (upd (st_F t_2 37) ((2 : Int32)).toNatClampNeg (st_I t_2 17))) fun t_3 => (fb_g (¬ (((3 : Int32)) < 0 ∨ 80 ≤ ((3 : Int32)).toNatClampNeg)) (fb_l (up_F t_3 37 (upd (st_F t_3 37) ((3 : Int32)).toNatClampNeg x2)) fun t_4 => (fb_b (f_M_J9_min_7cf53 t_4 ((20 : Int32)) ((st_I t_4 15) + ((1 : Int32)))) fun v_6 t_5 => (fb_l (up_I t_5 15 v_6) fun t_7 => (some (st_I t_7 16, t_7)))))))))))) = some (r, u) := hf
  refine lv_aload_n hx hb dX11_wave_158 rfl (lv_at hl 0 rfl) ?_
  refine va_get (D := D) (ci := 11) (v := .ref (a 45)) (C := RX11) (T := TX11) (N := 76) hx hb hts inX11 hown hK hP 0 (heM_0 ca a t) rfl 62 (by decide) (hts _ kw_1254) (fun _ h9 => h9) rfl dX11_wave_159 ?_
  refine lv_iconst (v := 0) hx hb dX11_wave_162 (by decide) ?_
  refine lv_iload_n hx hb dX11_wave_163 rfl (lv_at hl 1 rfl) ?_
  obtain ⟨h_164, hf⟩ := fb_if hf
  refine va_iast hx hb hK hP (hD t) hS 45 0 (haM_45 ca a t) rfl h_164 dX11_wave_164 (fun H locs hP _ hS => ?_)
  rw [saM_45] at hP
  obtain ⟨t_1, e_164, hf⟩ := fb_ls hf
  rw [← e_164] at hP
  refine lv_aload_n hx hb dX11_wave_165 rfl (lv_at hl 0 rfl) ?_
  refine va_get (D := D) (ci := 11) (v := .ref (a 45)) (C := RX11) (T := TX11) (N := 76) hx hb hts inX11 hown hK hP 0 (heM_0 ca a t_1) rfl 62 (by decide) (hts _ kw_1254) (fun _ h9 => h9) rfl dX11_wave_166 ?_
  refine lv_iconst (v := 1) hx hb dX11_wave_169 (by decide) ?_
  refine lv_aload_n hx hb dX11_wave_170 rfl (lv_at hl 0 rfl) ?_
  refine va_get (D := D) (ci := 11) (v := .int (st_I t_1 16)) (C := RX11) (T := TX11) (N := 76) hx hb hts inX11 hown hK hP 0 (heM_0 ca a t_1) rfl 51 (by decide) (hts _ kw_1243) (fun _ h9 => h9) rfl dX11_wave_171 ?_
  obtain ⟨h_174, hf⟩ := fb_if hf
  refine va_iast hx hb hK hP (hD t_1) hS 45 0 (haM_45 ca a t_1) rfl h_174 dX11_wave_174 (fun H locs hP _ hS => ?_)
  rw [saM_45] at hP
  obtain ⟨t_2, e_174, hf⟩ := fb_ls hf
  rw [← e_174] at hP
  refine lv_aload_n hx hb dX11_wave_175 rfl (lv_at hl 0 rfl) ?_
  refine va_get (D := D) (ci := 11) (v := .ref (a 45)) (C := RX11) (T := TX11) (N := 76) hx hb hts inX11 hown hK hP 0 (heM_0 ca a t_2) rfl 62 (by decide) (hts _ kw_1254) (fun _ h9 => h9) rfl dX11_wave_176 ?_
  refine lv_iconst (v := 2) hx hb dX11_wave_179 (by decide) ?_
  refine lv_aload_n hx hb dX11_wave_180 rfl (lv_at hl 0 rfl) ?_
  refine va_get (D := D) (ci := 11) (v := .int (st_I t_2 17)) (C := RX11) (T := TX11) (N := 76) hx hb hts inX11 hown hK hP 0 (heM_0 ca a t_2) rfl 52 (by decide) (hts _ kw_1244) (fun _ h9 => h9) rfl dX11_wave_181 ?_
  obtain ⟨h_184, hf⟩ := fb_if hf
  refine va_iast hx hb hK hP (hD t_2) hS 45 0 (haM_45 ca a t_2) rfl h_184 dX11_wave_184 (fun H locs hP _ hS => ?_)
  rw [saM_45] at hP
  obtain ⟨t_3, e_184, hf⟩ := fb_ls hf
  rw [← e_184] at hP
  refine lv_aload_n hx hb dX11_wave_185 rfl (lv_at hl 0 rfl) ?_
  refine va_get (D := D) (ci := 11) (v := .ref (a 45)) (C := RX11) (T := TX11) (N := 76) hx hb hts inX11 hown hK hP 0 (heM_0 ca a t_3) rfl 62 (by decide) (hts _ kw_1254) (fun _ h9 => h9) rfl dX11_wave_186 ?_
  refine lv_iconst (v := 3) hx hb dX11_wave_189 (by decide) ?_
  refine lv_iload_n hx hb dX11_wave_190 rfl (lv_at hl 2 rfl) ?_
  obtain ⟨h_191, hf⟩ := fb_if hf
  refine va_iast hx hb hK hP (hD t_3) hS 45 0 (haM_45 ca a t_3) rfl h_191 dX11_wave_191 (fun H locs hP _ hS => ?_)
  rw [saM_45] at hP
  obtain ⟨t_4, e_191, hf⟩ := fb_ls hf
  rw [← e_191] at hP
  refine lv_aload_n hx hb dX11_wave_192 rfl (lv_at hl 0 rfl) ?_
  refine lv_bipush (v := 20) hx hb dX11_wave_193 (by decide) ?_
  refine lv_aload_n hx hb dX11_wave_195 rfl (lv_at hl 0 rfl) ?_
  refine va_get (D := D) (ci := 11) (v := .int (st_I t_4 15)) (C := RX11) (T := TX11) (N := 76) hx hb hts inX11 hown hK hP 0 (heM_0 ca a t_4) rfl 50 (by decide) (hts _ kw_1242) (fun _ h9 => h9) rfl dX11_wave_196 ?_
  refine lv_iconst (v := 1) hx hb dX11_wave_199 (by decide) ?_
  refine lv_iadd hx hb dX11_wave_200 ?_
  obtain ⟨v_6, t_5, g_201, hf⟩ := fb_bs hf
  refine fw_S1 (As := [.int ((20 : Int32)), .int ((st_I t_4 15) + ((1 : Int32)))]) (rest := [.ref (a 0)]) (n := 2) C (c_M_J9_min_7cf53 (l := l) (D := D) (ca := ca) (a := a) g_201) kw_1531 kw_761 kw_106 kw_762 hP hS hl rfl rfl (by decide) (by decide +kernel) ⟨Nat.le_of_ble_eq_true rfl, Nat.le_of_ble_eq_true rfl⟩ rfl rfl (Nat.le_of_ble_eq_true rfl) dX11_wave_201 (fun H locs hP hS => ?_)
  refine W.eq (g2 := F0 m 204 ls [.int v_6, .ref (a 0)]) rfl ?_
  refine va_put (D := D) (ci := 11) (v := .int v_6) (ty := .int) (C := RX11) (T := TX11) (N := 76) hx hb hts inX11 tyX11 tyX11_ok nmX11 hown hK hP (hD t_5) hS 0 (heM_0 ca a t_5) rfl 50 (by decide) (hts _ kw_1242) (fun _ h9 => h9) rfl (by decide +kernel) rfl rfl (Nat.le_of_ble_eq_true rfl) dX11_wave_204 (fun H locs hP _ hS => ?_)
  rw [suM_0_50] at hP
  obtain ⟨t_7, e_204, hf⟩ := fb_ls hf
  rw [← e_204] at hP
  refine lv_aload_n hx hb dX11_wave_207 rfl (lv_at hl 0 rfl) ?_
  refine va_get (D := D) (ci := 11) (v := .int (st_I t_7 16)) (C := RX11) (T := TX11) (N := 76) hx hb hts inX11 hown hK hP 0 (heM_0 ca a t_7) rfl 51 (by decide) (hts _ kw_1243) (fun _ h9 => h9) rfl dX11_wave_208 ?_
  obtain ⟨e_211, e2_211⟩ := fb_e hf
  subst e_211; subst e2_211
  exact hr trivial _ _ _ _ hP hS dX11_wave_211
set_option maxRecDepth 20000 in
theorem w_M_X11_wave__0_138 {p : Program} {l : Launch} {e : Env} {s : State} {m : MethodId} {args : Array Value} {below : List Frame} {meth : Method} {c : Code} {A : Nat → Prop} {Q : State → Prop} {D : va_G} {ca : Nat → ClassId} {a : Nat → Nat} {u : fw_S} {r : Int32} {k133 : fw_S → Int32 → Int32 → Int32 → Option (Int32 × fw_S)} (C : CX (WM ca a) D (tyv ca) p s m args c A prog_13_method_41_code 4 RX11) (hr : True → RX (WM ca a) D p l e rm_M_X11_wave__0 s m args below meth c A prog_13_method_41_code Q .ireturn [.int r] u) (hk133 : ∀ (t : fw_S) (x1 : Int32) (x2 : Int32) (x3 : Int32) (H : Heap) (locs : List Loc) (ls : Array Slot), k133 t x1 x2 x3 = some (r, u) → va_P D classes (WM ca a t) H → va_S A s.heap H locs → lv_has ls 4 [(0, .ref (a 0)), (1, .int x1), (2, .int x2), (3, .int x3)] → W p l e rm_M_X11_wave__0 s m args below meth c H locs 0 0 Q (F0 m 133 ls [])) {t : fw_S} {x1 : Int32} {x2 : Int32} {x3 : Int32} {H : Heap} {locs : List Loc} {ls : Array Slot} (hf : b_M_X11_wave__0_138 k133 t x1 x2 x3 = some (r, u)) (hP : va_P D classes (WM ca a t) H) (hS : va_S A s.heap H locs) (hl : lv_has ls 4 [(0, .ref (a 0)), (1, .int x1), (2, .int x2), (3, .int x3)]) : W p l e rm_M_X11_wave__0 s m args below meth c H locs 0 0 Q (F0 m 138 ls []) := by
  obtain ⟨hx, hb, hml, hown, hts, hN, hK, hD, hA⟩ := id C
  have hf : (fb_g (¬ ((x3 - ((4 : Int32))) < 0 ∨ 80 ≤ (x3 - ((4 : Int32))).toNatClampNeg)) (fb_g (¬ (x3 < 0 ∨ 80 ≤ x3.toNatClampNeg)) (fb_l (up_F t 37 (upd (st_F t 37) x3.toNatClampNeg (st_F t 37 (x3 - ((4 : Int32))).toNatClampNeg))) fun t_1 => (k133 t_1 x1 x2 (x3 + (-1)))))) = some (r, u) := hf
  refine lv_aload_n hx hb dX11_wave_138 rfl (lv_at hl 0 rfl) ?_
  refine va_get (D := D) (ci := 11) (v := .ref (a 45)) (C := RX11) (T := TX11) (N := 76) hx hb hts inX11 hown hK hP 0 (heM_0 ca a t) rfl 62 (by decide) (hts _ kw_1254) (fun _ h9 => h9) rfl dX11_wave_139 ?_
  refine lv_iload_n hx hb dX11_wave_142 rfl (lv_at hl 3 rfl) ?_
  refine lv_aload_n hx hb dX11_wave_143 rfl (lv_at hl 0 rfl) ?_
  refine va_get (D := D) (ci := 11) (v := .ref (a 45)) (C := RX11) (T := TX11) (N := 76) hx hb hts inX11 hown hK hP 0 (heM_0 ca a t) rfl 62 (by decide) (hts _ kw_1254) (fun _ h9 => h9) rfl dX11_wave_144 ?_
  refine lv_iload_n hx hb dX11_wave_147 rfl (lv_at hl 3 rfl) ?_
  refine lv_iconst (v := 4) hx hb dX11_wave_148 (by decide) ?_
  refine lv_isub hx hb dX11_wave_149 ?_
  obtain ⟨h_150, hf⟩ := fb_if hf
  refine va_iald hx hb hK hP 45 0 (haM_45 ca a t) rfl h_150 dX11_wave_150 ?_
  obtain ⟨h_151, hf⟩ := fb_if hf
  refine va_iast hx hb hK hP (hD t) hS 45 0 (haM_45 ca a t) rfl h_151 dX11_wave_151 (fun H locs hP _ hS => ?_)
  rw [saM_45] at hP
  obtain ⟨t_1, e_151, hf⟩ := fb_ls hf
  rw [← e_151] at hP
  refine lv_iinc (v := x3 + (-1)) (lv' := [(3, .int (x3 + (-1))), (0, .ref (a 0)), (1, .int x1), (2, .int x2)]) hx hb dX11_wave_152 hl (k := 3) rfl rfl (by decide) rfl (fun ls hl => ?_)
  refine lv_goto (tgt := 133) hx hb dX11_wave_155 (by decide) ?_
  exact hk133 t_1 x1 x2 (x3 + (-1)) _ _ _ hf hP hS (lv_sub hl [1, 2, 3, 0] rfl)
set_option maxRecDepth 20000 in
theorem w_M_X11_wave__0_133 {p : Program} {l : Launch} {e : Env} {s : State} {m : MethodId} {args : Array Value} {below : List Frame} {meth : Method} {c : Code} {A : Nat → Prop} {Q : State → Prop} {D : va_G} {ca : Nat → ClassId} {a : Nat → Nat} {u : fw_S} {r : Int32}  (C : CX (WM ca a) D (tyv ca) p s m args c A prog_13_method_41_code 4 RX11) (hr : True → RX (WM ca a) D p l e rm_M_X11_wave__0 s m args below meth c A prog_13_method_41_code Q .ireturn [.int r] u) : ∀ (n : Nat) (t : fw_S) (x1 : Int32) (x2 : Int32) (x3 : Int32) (H : Heap) (locs : List Loc) (ls : Array Slot), b_M_X11_wave__0_133  n t x1 x2 x3 = some (r, u) → va_P D classes (WM ca a t) H → va_S A s.heap H locs → lv_has ls 4 [(0, .ref (a 0)), (1, .int x1), (2, .int x2), (3, .int x3)] → W p l e rm_M_X11_wave__0 s m args below meth c H locs 0 0 Q (F0 m 133 ls []) := by
  obtain ⟨hx, hb, hml, hown, hts, hN, hK, hD, hA⟩ := id C
  intro n
  induction n with
  | zero => intro t x1 x2 x3 H locs ls hf; cases hf
  | succ n hk133 =>
    intro t x1 x2 x3 H locs ls hf hP hS hl
    have hf : (if x3 < ((4 : Int32)) then b_M_X11_wave__0_158 t x1 x2 else b_M_X11_wave__0_138 (b_M_X11_wave__0_133 n) t x1 x2 x3) = some (r, u) := hf
    refine lv_iload_n hx hb dX11_wave_133 rfl (lv_at hl 3 rfl) ?_
    refine lv_iconst (v := 4) hx hb dX11_wave_134 (by decide) ?_
    refine lv_icmp_lt (tgt := 158) hx hb dX11_wave_135 (by decide) (fun h_135 => ?_) (fun h_135 => ?_)
    · have hf := fb_t h_135 hf
      exact w_M_X11_wave__0_158 C hr hf hP hS (lv_sub hl [0, 1, 2] rfl)
    · have hf := fb_f h_135 hf
      exact w_M_X11_wave__0_138 C hr hk133 hf hP hS (lv_sub hl [0, 1, 2, 3] rfl)
set_option maxRecDepth 20000 in
theorem w_M_X11_wave__0_130 {p : Program} {l : Launch} {e : Env} {s : State} {m : MethodId} {args : Array Value} {below : List Frame} {meth : Method} {c : Code} {A : Nat → Prop} {Q : State → Prop} {D : va_G} {ca : Nat → ClassId} {a : Nat → Nat} {u : fw_S} {r : Int32}  (C : CX (WM ca a) D (tyv ca) p s m args c A prog_13_method_41_code 4 RX11) (hr : True → RX (WM ca a) D p l e rm_M_X11_wave__0 s m args below meth c A prog_13_method_41_code Q .ireturn [.int r] u) {t : fw_S} {x1 : Int32} {x2 : Int32} {H : Heap} {locs : List Loc} {ls : Array Slot} (hf : b_M_X11_wave__0_130  t x1 x2 = some (r, u)) (hP : va_P D classes (WM ca a t) H) (hS : va_S A s.heap H locs) (hl : lv_has ls 4 [(0, .ref (a 0)), (1, .int x1), (2, .int x2)]) : W p l e rm_M_X11_wave__0 s m args below meth c H locs 0 0 Q (F0 m 130 ls []) := by
  obtain ⟨hx, hb, hml, hown, hts, hN, hK, hD, hA⟩ := id C
  have hf : (b_M_X11_wave__0_133 3000 t x1 x2 ((79 : Int32))) = some (r, u) := hf
  refine lv_bipush (v := 79) hx hb dX11_wave_130 (by decide) ?_
  refine lv_istore_n (lv' := [(3, .int ((79 : Int32))), (0, .ref (a 0)), (1, .int x1), (2, .int x2)]) hx hb dX11_wave_132 rfl hl (by decide) rfl (fun ls hl => ?_)
  exact w_M_X11_wave__0_133 C hr 3000 t x1 x2 ((79 : Int32)) _ _ _ hf hP hS (lv_sub hl [1, 2, 3, 0] rfl)
set_option maxRecDepth 20000 in
theorem w_M_X11_wave__0_105 {p : Program} {l : Launch} {e : Env} {s : State} {m : MethodId} {args : Array Value} {below : List Frame} {meth : Method} {c : Code} {A : Nat → Prop} {Q : State → Prop} {D : va_G} {ca : Nat → ClassId} {a : Nat → Nat} {u : fw_S} {r : Int32}  (C : CX (WM ca a) D (tyv ca) p s m args c A prog_13_method_41_code 4 RX11) (hr : True → RX (WM ca a) D p l e rm_M_X11_wave__0 s m args below meth c A prog_13_method_41_code Q .ireturn [.int r] u) {t : fw_S} {x1 : Int32} {x2 : Int32} {x3 : Int32} {H : Heap} {locs : List Loc} {ls : Array Slot} (hf : b_M_X11_wave__0_105  t x1 x2 x3 = some (r, u)) (hP : va_P D classes (WM ca a t) H) (hS : va_S A s.heap H locs) (hl : lv_has ls 4 [(0, .ref (a 0)), (1, .int x1), (2, .int x2), (3, .int x3)]) : W p l e rm_M_X11_wave__0 s m args below meth c H locs 0 0 Q (F0 m 105 ls []) := by
  obtain ⟨hx, hb, hml, hown, hts, hN, hK, hD, hA⟩ := id C
  have hf : (none) = some (r, u) := hf
  refine lv_aload_n hx hb dX11_wave_105 rfl (lv_at hl 0 rfl) ?_
  refine lv_iload_n hx hb dX11_wave_106 rfl (lv_at hl 3 rfl) ?_
  cases hf
set_option maxRecDepth 20000 in
theorem w_M_X11_wave__0_97 {p : Program} {l : Launch} {e : Env} {s : State} {m : MethodId} {args : Array Value} {below : List Frame} {meth : Method} {c : Code} {A : Nat → Prop} {Q : State → Prop} {D : va_G} {ca : Nat → ClassId} {a : Nat → Nat} {u : fw_S} {r : Int32}  (C : CX (WM ca a) D (tyv ca) p s m args c A prog_13_method_41_code 4 RX11) (hr : True → RX (WM ca a) D p l e rm_M_X11_wave__0 s m args below meth c A prog_13_method_41_code Q .ireturn [.int r] u) {t : fw_S} {x1 : Int32} {x2 : Int32} {x3 : Int32} {H : Heap} {locs : List Loc} {ls : Array Slot} (hf : b_M_X11_wave__0_97  t x1 x2 x3 = some (r, u)) (hP : va_P D classes (WM ca a t) H) (hS : va_S A s.heap H locs) (hl : lv_has ls 4 [(0, .ref (a 0)), (1, .int x1), (2, .int x2), (3, .int x3)]) : W p l e rm_M_X11_wave__0 s m args below meth c H locs 0 0 Q (F0 m 97 ls []) := by
  obtain ⟨hx, hb, hml, hown, hts, hN, hK, hD, hA⟩ := id C
  have hf : (if (st_I t 12) ≤ x3 then b_M_X11_wave__0_130 t x1 x2 else b_M_X11_wave__0_105 t x1 x2 x3) = some (r, u) := hf
  refine lv_iload_n hx hb dX11_wave_97 rfl (lv_at hl 3 rfl) ?_
  refine lv_aload_n hx hb dX11_wave_98 rfl (lv_at hl 0 rfl) ?_
  refine va_get (D := D) (ci := 11) (v := .int (st_I t 12)) (C := RX11) (T := TX11) (N := 76) hx hb hts inX11 hown hK hP 0 (heM_0 ca a t) rfl 47 (by decide) (hts _ kw_1239) (fun _ h9 => h9) rfl dX11_wave_99 ?_
  refine lv_icmp_ge (tgt := 130) hx hb dX11_wave_102 (by decide) (fun h_102 => ?_) (fun h_102 => ?_)
  · have hf := fb_t h_102 hf
    exact w_M_X11_wave__0_130 C hr hf hP hS (lv_sub hl [0, 1, 2] rfl)
  · have hf := fb_f h_102 hf
    exact w_M_X11_wave__0_105 C hr hf hP hS (lv_sub hl [0, 1, 2, 3] rfl)
set_option maxRecDepth 20000 in
theorem w_M_X11_wave__0_75 {p : Program} {l : Launch} {e : Env} {s : State} {m : MethodId} {args : Array Value} {below : List Frame} {meth : Method} {c : Code} {A : Nat → Prop} {Q : State → Prop} {D : va_G} {ca : Nat → ClassId} {a : Nat → Nat} {u : fw_S} {r : Int32}  (C : CX (WM ca a) D (tyv ca) p s m args c A prog_13_method_41_code 4 RX11) (hr : True → RX (WM ca a) D p l e rm_M_X11_wave__0 s m args below meth c A prog_13_method_41_code Q .ireturn [.int r] u) {t : fw_S} {x1 : Int32} {H : Heap} {locs : List Loc} {ls : Array Slot} (hf : b_M_X11_wave__0_75  t x1 = some (r, u)) (hP : va_P D classes (WM ca a t) H) (hS : va_S A s.heap H locs) (hl : lv_has ls 4 [(0, .ref (a 0)), (1, .int x1)]) : W p l e rm_M_X11_wave__0 s m args below meth c H locs 0 0 Q (F0 m 75 ls []) := by
  obtain ⟨hx, hb, hml, hown, hts, hN, hK, hD, hA⟩ := id C
  have hf : (fb_l (up_I t 16 (st_I t 3)) fun t_1 => (fb_l (up_I t_1 14 ((st_I t_1 14) + ((1 : Int32)))) fun t_2 => (b_M_X11_wave__0_97 t_2 x1 ((0 : Int32)) ((0 : Int32))))) = some (r, u) := hf
  refine lv_aload_n hx hb dX11_wave_75 rfl (lv_at hl 0 rfl) ?_
  refine lv_aload_n hx hb dX11_wave_76 rfl (lv_at hl 0 rfl) ?_
  refine va_get (D := D) (ci := 11) (v := .int (st_I t 3)) (C := RX11) (T := TX11) (N := 76) hx hb hts inX11 hown hK hP 0 (heM_0 ca a t) rfl 36 (by decide) (hts _ kw_1228) (fun _ h9 => h9) rfl dX11_wave_77 ?_
  refine va_put (D := D) (ci := 11) (v := .int (st_I t 3)) (ty := .int) (C := RX11) (T := TX11) (N := 76) hx hb hts inX11 tyX11 tyX11_ok nmX11 hown hK hP (hD t) hS 0 (heM_0 ca a t) rfl 51 (by decide) (hts _ kw_1243) (fun _ h9 => h9) rfl (by decide +kernel) rfl rfl (Nat.le_of_ble_eq_true rfl) dX11_wave_80 (fun H locs hP _ hS => ?_)
  rw [suM_0_51] at hP
  obtain ⟨t_1, e_80, hf⟩ := fb_ls hf
  rw [← e_80] at hP
  refine lv_aload_n hx hb dX11_wave_83 rfl (lv_at hl 0 rfl) ?_
  refine lv_dup hx hb dX11_wave_84 rfl ?_
  refine va_get (D := D) (ci := 11) (v := .int (st_I t_1 14)) (C := RX11) (T := TX11) (N := 76) hx hb hts inX11 hown hK hP 0 (heM_0 ca a t_1) rfl 49 (by decide) (hts _ kw_1241) (fun _ h9 => h9) rfl dX11_wave_85 ?_
  refine lv_iconst (v := 1) hx hb dX11_wave_88 (by decide) ?_
  refine lv_iadd hx hb dX11_wave_89 ?_
  refine va_put (D := D) (ci := 11) (v := .int ((st_I t_1 14) + ((1 : Int32)))) (ty := .int) (C := RX11) (T := TX11) (N := 76) hx hb hts inX11 tyX11 tyX11_ok nmX11 hown hK hP (hD t_1) hS 0 (heM_0 ca a t_1) rfl 49 (by decide) (hts _ kw_1241) (fun _ h9 => h9) rfl (by decide +kernel) rfl rfl (Nat.le_of_ble_eq_true rfl) dX11_wave_90 (fun H locs hP _ hS => ?_)
  rw [suM_0_49] at hP
  obtain ⟨t_2, e_90, hf⟩ := fb_ls hf
  rw [← e_90] at hP
  refine lv_iconst (v := 0) hx hb dX11_wave_93 (by decide) ?_
  refine lv_istore_n (lv' := [(2, .int ((0 : Int32))), (0, .ref (a 0)), (1, .int x1)]) hx hb dX11_wave_94 rfl hl (by decide) rfl (fun ls hl => ?_)
  refine lv_iconst (v := 0) hx hb dX11_wave_95 (by decide) ?_
  refine lv_istore_n (lv' := [(3, .int ((0 : Int32))), (2, .int ((0 : Int32))), (0, .ref (a 0)), (1, .int x1)]) hx hb dX11_wave_96 rfl hl (by decide) rfl (fun ls hl => ?_)
  exact w_M_X11_wave__0_97 C hr hf hP hS (lv_sub hl [2, 3, 1, 0] rfl)
set_option maxRecDepth 20000 in
theorem w_M_X11_wave__0_65 {p : Program} {l : Launch} {e : Env} {s : State} {m : MethodId} {args : Array Value} {below : List Frame} {meth : Method} {c : Code} {A : Nat → Prop} {Q : State → Prop} {D : va_G} {ca : Nat → ClassId} {a : Nat → Nat} {u : fw_S} {r : Int32} {k23 : fw_S → Int32 → Int32 → Option (Int32 × fw_S)} (C : CX (WM ca a) D (tyv ca) p s m args c A prog_13_method_41_code 4 RX11) (hr : True → RX (WM ca a) D p l e rm_M_X11_wave__0 s m args below meth c A prog_13_method_41_code Q .ireturn [.int r] u) (hk23 : ∀ (t : fw_S) (x1 : Int32) (x2 : Int32) (H : Heap) (locs : List Loc) (ls : Array Slot), k23 t x1 x2 = some (r, u) → va_P D classes (WM ca a t) H → va_S A s.heap H locs → lv_has ls 4 [(0, .ref (a 0)), (1, .int x1), (2, .int x2)] → W p l e rm_M_X11_wave__0 s m args below meth c H locs 0 0 Q (F0 m 23 ls [])) {t : fw_S} {x1 : Int32} {x2 : Int32} {z1 : Int32} {z2 : Int32} {H : Heap} {locs : List Loc} {ls : Array Slot} (hf : b_M_X11_wave__0_65 k23 t x1 x2 z1 z2 = some (r, u)) (hP : va_P D classes (WM ca a t) H) (hS : va_S A s.heap H locs) (hl : lv_has ls 4 [(0, .ref (a 0)), (1, .int x1), (2, .int x2)]) : W p l e rm_M_X11_wave__0 s m args below meth c H locs 0 0 Q (F0 m 65 ls [.int z2, .int z1, .ref (a 0)]) := by
  obtain ⟨hx, hb, hml, hown, hts, hN, hK, hD, hA⟩ := id C
  have hf : (fb_l (up_I t 17 (z1 + z2)) fun t_1 => (k23 t_1 x1 (x2 + 1))) = some (r, u) := hf
  refine lv_iadd hx hb dX11_wave_65 ?_
  refine va_put (D := D) (ci := 11) (v := .int (z1 + z2)) (ty := .int) (C := RX11) (T := TX11) (N := 76) hx hb hts inX11 tyX11 tyX11_ok nmX11 hown hK hP (hD t) hS 0 (heM_0 ca a t) rfl 52 (by decide) (hts _ kw_1244) (fun _ h9 => h9) rfl (by decide +kernel) rfl rfl (Nat.le_of_ble_eq_true rfl) dX11_wave_66 (fun H locs hP _ hS => ?_)
  rw [suM_0_52] at hP
  obtain ⟨t_1, e_66, hf⟩ := fb_ls hf
  rw [← e_66] at hP
  refine lv_iinc (v := x2 + 1) (lv' := [(2, .int (x2 + 1)), (0, .ref (a 0)), (1, .int x1)]) hx hb dX11_wave_69 hl (k := 2) rfl rfl (by decide) rfl (fun ls hl => ?_)
  refine lv_goto (tgt := 23) hx hb dX11_wave_72 (by decide) ?_
  exact hk23 t_1 x1 (x2 + 1) _ _ _ hf hP hS (lv_sub hl [1, 2, 0] rfl)
set_option maxRecDepth 20000 in
theorem w_M_X11_wave__0_64 {p : Program} {l : Launch} {e : Env} {s : State} {m : MethodId} {args : Array Value} {below : List Frame} {meth : Method} {c : Code} {A : Nat → Prop} {Q : State → Prop} {D : va_G} {ca : Nat → ClassId} {a : Nat → Nat} {u : fw_S} {r : Int32} {k23 : fw_S → Int32 → Int32 → Option (Int32 × fw_S)} (C : CX (WM ca a) D (tyv ca) p s m args c A prog_13_method_41_code 4 RX11) (hr : True → RX (WM ca a) D p l e rm_M_X11_wave__0 s m args below meth c A prog_13_method_41_code Q .ireturn [.int r] u) (hk23 : ∀ (t : fw_S) (x1 : Int32) (x2 : Int32) (H : Heap) (locs : List Loc) (ls : Array Slot), k23 t x1 x2 = some (r, u) → va_P D classes (WM ca a t) H → va_S A s.heap H locs → lv_has ls 4 [(0, .ref (a 0)), (1, .int x1), (2, .int x2)] → W p l e rm_M_X11_wave__0 s m args below meth c H locs 0 0 Q (F0 m 23 ls [])) {t : fw_S} {x1 : Int32} {x2 : Int32} {z1 : Int32} {H : Heap} {locs : List Loc} {ls : Array Slot} (hf : b_M_X11_wave__0_64 k23 t x1 x2 z1 = some (r, u)) (hP : va_P D classes (WM ca a t) H) (hS : va_S A s.heap H locs) (hl : lv_has ls 4 [(0, .ref (a 0)), (1, .int x1), (2, .int x2)]) : W p l e rm_M_X11_wave__0 s m args below meth c H locs 0 0 Q (F0 m 64 ls [.int z1, .ref (a 0)]) := by
  obtain ⟨hx, hb, hml, hown, hts, hN, hK, hD, hA⟩ := id C
  have hf : (b_M_X11_wave__0_65 k23 t x1 x2 z1 ((0 : Int32))) = some (r, u) := hf
  refine lv_iconst (v := 0) hx hb dX11_wave_64 (by decide) ?_
  exact w_M_X11_wave__0_65 C hr hk23 hf hP hS (lv_sub hl [0, 1, 2] rfl)
set_option maxRecDepth 20000 in
theorem w_M_X11_wave__0_60 {p : Program} {l : Launch} {e : Env} {s : State} {m : MethodId} {args : Array Value} {below : List Frame} {meth : Method} {c : Code} {A : Nat → Prop} {Q : State → Prop} {D : va_G} {ca : Nat → ClassId} {a : Nat → Nat} {u : fw_S} {r : Int32} {k23 : fw_S → Int32 → Int32 → Option (Int32 × fw_S)} (C : CX (WM ca a) D (tyv ca) p s m args c A prog_13_method_41_code 4 RX11) (hr : True → RX (WM ca a) D p l e rm_M_X11_wave__0 s m args below meth c A prog_13_method_41_code Q .ireturn [.int r] u) (hk23 : ∀ (t : fw_S) (x1 : Int32) (x2 : Int32) (H : Heap) (locs : List Loc) (ls : Array Slot), k23 t x1 x2 = some (r, u) → va_P D classes (WM ca a t) H → va_S A s.heap H locs → lv_has ls 4 [(0, .ref (a 0)), (1, .int x1), (2, .int x2)] → W p l e rm_M_X11_wave__0 s m args below meth c H locs 0 0 Q (F0 m 23 ls [])) {t : fw_S} {x1 : Int32} {x2 : Int32} {z1 : Int32} {H : Heap} {locs : List Loc} {ls : Array Slot} (hf : b_M_X11_wave__0_60 k23 t x1 x2 z1 = some (r, u)) (hP : va_P D classes (WM ca a t) H) (hS : va_S A s.heap H locs) (hl : lv_has ls 4 [(0, .ref (a 0)), (1, .int x1), (2, .int x2)]) : W p l e rm_M_X11_wave__0 s m args below meth c H locs 0 0 Q (F0 m 60 ls [.int z1, .ref (a 0)]) := by
  obtain ⟨hx, hb, hml, hown, hts, hN, hK, hD, hA⟩ := id C
  have hf : (b_M_X11_wave__0_65 k23 t x1 x2 z1 ((1 : Int32))) = some (r, u) := hf
  refine lv_iconst (v := 1) hx hb dX11_wave_60 (by decide) ?_
  refine lv_goto (tgt := 65) hx hb dX11_wave_61 (by decide) ?_
  exact w_M_X11_wave__0_65 C hr hk23 hf hP hS (lv_sub hl [0, 1, 2] rfl)
set_option maxRecDepth 20000 in
theorem w_M_X11_wave__0_44 {p : Program} {l : Launch} {e : Env} {s : State} {m : MethodId} {args : Array Value} {below : List Frame} {meth : Method} {c : Code} {A : Nat → Prop} {Q : State → Prop} {D : va_G} {ca : Nat → ClassId} {a : Nat → Nat} {u : fw_S} {r : Int32} {k23 : fw_S → Int32 → Int32 → Option (Int32 × fw_S)} (C : CX (WM ca a) D (tyv ca) p s m args c A prog_13_method_41_code 4 RX11) (hr : True → RX (WM ca a) D p l e rm_M_X11_wave__0 s m args below meth c A prog_13_method_41_code Q .ireturn [.int r] u) (hk23 : ∀ (t : fw_S) (x1 : Int32) (x2 : Int32) (H : Heap) (locs : List Loc) (ls : Array Slot), k23 t x1 x2 = some (r, u) → va_P D classes (WM ca a t) H → va_S A s.heap H locs → lv_has ls 4 [(0, .ref (a 0)), (1, .int x1), (2, .int x2)] → W p l e rm_M_X11_wave__0 s m args below meth c H locs 0 0 Q (F0 m 23 ls [])) {t : fw_S} {x2 : Int32} {z0 : Int32} {z1 : Int32} {H : Heap} {locs : List Loc} {ls : Array Slot} (hf : b_M_X11_wave__0_44 k23 t x2 z0 z1 = some (r, u)) (hP : va_P D classes (WM ca a t) H) (hS : va_S A s.heap H locs) (hl : lv_has ls 4 [(0, .ref (a 0)), (2, .int x2)]) : W p l e rm_M_X11_wave__0 s m args below meth c H locs 0 0 Q (F0 m 44 ls [.int z1, .int z0]) := by
  obtain ⟨hx, hb, hml, hown, hts, hN, hK, hD, hA⟩ := id C
  have hf : (fb_g (¬ (x2 < 0 ∨ 32 ≤ x2.toNatClampNeg)) (if (st_F t 7 x2.toNatClampNeg) = 0 then b_M_X11_wave__0_64 k23 t (z0 + z1) x2 (st_I t 17) else b_M_X11_wave__0_60 k23 t (z0 + z1) x2 (st_I t 17))) = some (r, u) := hf
  refine lv_iadd hx hb dX11_wave_44 ?_
  refine lv_istore_n (lv' := [(1, .int (z0 + z1)), (0, .ref (a 0)), (2, .int x2)]) hx hb dX11_wave_45 rfl hl (by decide) rfl (fun ls hl => ?_)
  refine lv_aload_n hx hb dX11_wave_46 rfl (lv_at hl 1 rfl) ?_
  refine lv_dup hx hb dX11_wave_47 rfl ?_
  refine va_get (D := D) (ci := 11) (v := .int (st_I t 17)) (C := RX11) (T := TX11) (N := 76) hx hb hts inX11 hown hK hP 0 (heM_0 ca a t) rfl 52 (by decide) (hts _ kw_1244) (fun _ h9 => h9) rfl dX11_wave_48 ?_
  refine lv_aload_n hx hb dX11_wave_51 rfl (lv_at hl 1 rfl) ?_
  refine va_get (D := D) (ci := 11) (v := .ref (a 9)) (C := RX11) (T := TX11) (N := 76) hx hb hts inX11 hown hK hP 0 (heM_0 ca a t) rfl 8 (by decide) (hts _ kw_1200) (fun _ h9 => h9) rfl dX11_wave_52 ?_
  refine lv_iload_n hx hb dX11_wave_55 rfl (lv_at hl 2 rfl) ?_
  obtain ⟨h_56, hf⟩ := fb_if hf
  refine va_zald hx hb hK hP 9 2 (haM_9 ca a t) rfl h_56 dX11_wave_56 ?_
  refine lv_if_eq (tgt := 64) hx hb dX11_wave_57 (by decide) (fun h_57 => ?_) (fun h_57 => ?_)
  · have hf := fb_t h_57 hf
    exact w_M_X11_wave__0_64 C hr hk23 hf hP hS (lv_sub hl [1, 0, 2] rfl)
  · have hf := fb_f h_57 hf
    exact w_M_X11_wave__0_60 C hr hk23 hf hP hS (lv_sub hl [1, 0, 2] rfl)
set_option maxRecDepth 20000 in
theorem w_M_X11_wave__0_43 {p : Program} {l : Launch} {e : Env} {s : State} {m : MethodId} {args : Array Value} {below : List Frame} {meth : Method} {c : Code} {A : Nat → Prop} {Q : State → Prop} {D : va_G} {ca : Nat → ClassId} {a : Nat → Nat} {u : fw_S} {r : Int32} {k23 : fw_S → Int32 → Int32 → Option (Int32 × fw_S)} (C : CX (WM ca a) D (tyv ca) p s m args c A prog_13_method_41_code 4 RX11) (hr : True → RX (WM ca a) D p l e rm_M_X11_wave__0 s m args below meth c A prog_13_method_41_code Q .ireturn [.int r] u) (hk23 : ∀ (t : fw_S) (x1 : Int32) (x2 : Int32) (H : Heap) (locs : List Loc) (ls : Array Slot), k23 t x1 x2 = some (r, u) → va_P D classes (WM ca a t) H → va_S A s.heap H locs → lv_has ls 4 [(0, .ref (a 0)), (1, .int x1), (2, .int x2)] → W p l e rm_M_X11_wave__0 s m args below meth c H locs 0 0 Q (F0 m 23 ls [])) {t : fw_S} {x2 : Int32} {z0 : Int32} {H : Heap} {locs : List Loc} {ls : Array Slot} (hf : b_M_X11_wave__0_43 k23 t x2 z0 = some (r, u)) (hP : va_P D classes (WM ca a t) H) (hS : va_S A s.heap H locs) (hl : lv_has ls 4 [(0, .ref (a 0)), (2, .int x2)]) : W p l e rm_M_X11_wave__0 s m args below meth c H locs 0 0 Q (F0 m 43 ls [.int z0]) := by
  obtain ⟨hx, hb, hml, hown, hts, hN, hK, hD, hA⟩ := id C
  have hf : (b_M_X11_wave__0_44 k23 t x2 z0 ((0 : Int32))) = some (r, u) := hf
  refine lv_iconst (v := 0) hx hb dX11_wave_43 (by decide) ?_
  exact w_M_X11_wave__0_44 C hr hk23 hf hP hS (lv_sub hl [0, 1] rfl)
set_option maxRecDepth 20000 in
theorem w_M_X11_wave__0_39 {p : Program} {l : Launch} {e : Env} {s : State} {m : MethodId} {args : Array Value} {below : List Frame} {meth : Method} {c : Code} {A : Nat → Prop} {Q : State → Prop} {D : va_G} {ca : Nat → ClassId} {a : Nat → Nat} {u : fw_S} {r : Int32} {k23 : fw_S → Int32 → Int32 → Option (Int32 × fw_S)} (C : CX (WM ca a) D (tyv ca) p s m args c A prog_13_method_41_code 4 RX11) (hr : True → RX (WM ca a) D p l e rm_M_X11_wave__0 s m args below meth c A prog_13_method_41_code Q .ireturn [.int r] u) (hk23 : ∀ (t : fw_S) (x1 : Int32) (x2 : Int32) (H : Heap) (locs : List Loc) (ls : Array Slot), k23 t x1 x2 = some (r, u) → va_P D classes (WM ca a t) H → va_S A s.heap H locs → lv_has ls 4 [(0, .ref (a 0)), (1, .int x1), (2, .int x2)] → W p l e rm_M_X11_wave__0 s m args below meth c H locs 0 0 Q (F0 m 23 ls [])) {t : fw_S} {x2 : Int32} {z0 : Int32} {H : Heap} {locs : List Loc} {ls : Array Slot} (hf : b_M_X11_wave__0_39 k23 t x2 z0 = some (r, u)) (hP : va_P D classes (WM ca a t) H) (hS : va_S A s.heap H locs) (hl : lv_has ls 4 [(0, .ref (a 0)), (2, .int x2)]) : W p l e rm_M_X11_wave__0 s m args below meth c H locs 0 0 Q (F0 m 39 ls [.int z0]) := by
  obtain ⟨hx, hb, hml, hown, hts, hN, hK, hD, hA⟩ := id C
  have hf : (b_M_X11_wave__0_44 k23 t x2 z0 ((1 : Int32))) = some (r, u) := hf
  refine lv_iconst (v := 1) hx hb dX11_wave_39 (by decide) ?_
  refine lv_goto (tgt := 44) hx hb dX11_wave_40 (by decide) ?_
  exact w_M_X11_wave__0_44 C hr hk23 hf hP hS (lv_sub hl [0, 1] rfl)
set_option maxRecDepth 20000 in
theorem w_M_X11_wave__0_29 {p : Program} {l : Launch} {e : Env} {s : State} {m : MethodId} {args : Array Value} {below : List Frame} {meth : Method} {c : Code} {A : Nat → Prop} {Q : State → Prop} {D : va_G} {ca : Nat → ClassId} {a : Nat → Nat} {u : fw_S} {r : Int32} {k23 : fw_S → Int32 → Int32 → Option (Int32 × fw_S)} (C : CX (WM ca a) D (tyv ca) p s m args c A prog_13_method_41_code 4 RX11) (hr : True → RX (WM ca a) D p l e rm_M_X11_wave__0 s m args below meth c A prog_13_method_41_code Q .ireturn [.int r] u) (hk23 : ∀ (t : fw_S) (x1 : Int32) (x2 : Int32) (H : Heap) (locs : List Loc) (ls : Array Slot), k23 t x1 x2 = some (r, u) → va_P D classes (WM ca a t) H → va_S A s.heap H locs → lv_has ls 4 [(0, .ref (a 0)), (1, .int x1), (2, .int x2)] → W p l e rm_M_X11_wave__0 s m args below meth c H locs 0 0 Q (F0 m 23 ls [])) {t : fw_S} {x1 : Int32} {x2 : Int32} {H : Heap} {locs : List Loc} {ls : Array Slot} (hf : b_M_X11_wave__0_29 k23 t x1 x2 = some (r, u)) (hP : va_P D classes (WM ca a t) H) (hS : va_S A s.heap H locs) (hl : lv_has ls 4 [(0, .ref (a 0)), (1, .int x1), (2, .int x2)]) : W p l e rm_M_X11_wave__0 s m args below meth c H locs 0 0 Q (F0 m 29 ls []) := by
  obtain ⟨hx, hb, hml, hown, hts, hN, hK, hD, hA⟩ := id C
  have hf : (fb_g (¬ (x2 < 0 ∨ 32 ≤ x2.toNatClampNeg)) (if (st_F t 13 x2.toNatClampNeg) = 0 then b_M_X11_wave__0_43 k23 t x2 x1 else b_M_X11_wave__0_39 k23 t x2 x1)) = some (r, u) := hf
  refine lv_iload_n hx hb dX11_wave_29 rfl (lv_at hl 1 rfl) ?_
  refine lv_aload_n hx hb dX11_wave_30 rfl (lv_at hl 0 rfl) ?_
  refine va_get (D := D) (ci := 11) (v := .ref (a 15)) (C := RX11) (T := TX11) (N := 76) hx hb hts inX11 hown hK hP 0 (heM_0 ca a t) rfl 14 (by decide) (hts _ kw_1206) (fun _ h9 => h9) rfl dX11_wave_31 ?_
  refine lv_iload_n hx hb dX11_wave_34 rfl (lv_at hl 2 rfl) ?_
  obtain ⟨h_35, hf⟩ := fb_if hf
  refine va_zald hx hb hK hP 15 2 (haM_15 ca a t) rfl h_35 dX11_wave_35 ?_
  refine lv_if_eq (tgt := 43) hx hb dX11_wave_36 (by decide) (fun h_36 => ?_) (fun h_36 => ?_)
  · have hf := fb_t h_36 hf
    exact w_M_X11_wave__0_43 C hr hk23 hf hP hS (lv_sub hl [0, 2] rfl)
  · have hf := fb_f h_36 hf
    exact w_M_X11_wave__0_39 C hr hk23 hf hP hS (lv_sub hl [0, 2] rfl)
set_option maxRecDepth 20000 in
theorem w_M_X11_wave__0_23 {p : Program} {l : Launch} {e : Env} {s : State} {m : MethodId} {args : Array Value} {below : List Frame} {meth : Method} {c : Code} {A : Nat → Prop} {Q : State → Prop} {D : va_G} {ca : Nat → ClassId} {a : Nat → Nat} {u : fw_S} {r : Int32}  (C : CX (WM ca a) D (tyv ca) p s m args c A prog_13_method_41_code 4 RX11) (hr : True → RX (WM ca a) D p l e rm_M_X11_wave__0 s m args below meth c A prog_13_method_41_code Q .ireturn [.int r] u) : ∀ (n : Nat) (t : fw_S) (x1 : Int32) (x2 : Int32) (H : Heap) (locs : List Loc) (ls : Array Slot), b_M_X11_wave__0_23  n t x1 x2 = some (r, u) → va_P D classes (WM ca a t) H → va_S A s.heap H locs → lv_has ls 4 [(0, .ref (a 0)), (1, .int x1), (2, .int x2)] → W p l e rm_M_X11_wave__0 s m args below meth c H locs 0 0 Q (F0 m 23 ls []) := by
  obtain ⟨hx, hb, hml, hown, hts, hN, hK, hD, hA⟩ := id C
  intro n
  induction n with
  | zero => intro t x1 x2 H locs ls hf; cases hf
  | succ n hk23 =>
    intro t x1 x2 H locs ls hf hP hS hl
    have hf : (if ((32 : Int32)) ≤ x2 then b_M_X11_wave__0_75 t x1 else b_M_X11_wave__0_29 (b_M_X11_wave__0_23 n) t x1 x2) = some (r, u) := hf
    refine lv_iload_n hx hb dX11_wave_23 rfl (lv_at hl 2 rfl) ?_
    refine lv_bipush (v := 32) hx hb dX11_wave_24 (by decide) ?_
    refine lv_icmp_ge (tgt := 75) hx hb dX11_wave_26 (by decide) (fun h_26 => ?_) (fun h_26 => ?_)
    · have hf := fb_t h_26 hf
      exact w_M_X11_wave__0_75 C hr hf hP hS (lv_sub hl [0, 1] rfl)
    · have hf := fb_f h_26 hf
      exact w_M_X11_wave__0_29 C hr hk23 hf hP hS (lv_sub hl [0, 1, 2] rfl)
set_option maxRecDepth 20000 in
theorem w_M_X11_wave__0_14 {p : Program} {l : Launch} {e : Env} {s : State} {m : MethodId} {args : Array Value} {below : List Frame} {meth : Method} {c : Code} {A : Nat → Prop} {Q : State → Prop} {D : va_G} {ca : Nat → ClassId} {a : Nat → Nat} {u : fw_S} {r : Int32}  (C : CX (WM ca a) D (tyv ca) p s m args c A prog_13_method_41_code 4 RX11) (hr : True → RX (WM ca a) D p l e rm_M_X11_wave__0 s m args below meth c A prog_13_method_41_code Q .ireturn [.int r] u) {t : fw_S}  {H : Heap} {locs : List Loc} {ls : Array Slot} (hf : b_M_X11_wave__0_14  t  = some (r, u)) (hP : va_P D classes (WM ca a t) H) (hS : va_S A s.heap H locs) (hl : lv_has ls 4 [(0, .ref (a 0))]) : W p l e rm_M_X11_wave__0 s m args below meth c H locs 0 0 Q (F0 m 14 ls []) := by
  obtain ⟨hx, hb, hml, hown, hts, hN, hK, hD, hA⟩ := id C
  have hf : (fb_l (up_I t 17 ((0 : Int32))) fun t_1 => (b_M_X11_wave__0_23 3000 t_1 ((0 : Int32)) ((0 : Int32)))) = some (r, u) := hf
  refine lv_iconst (v := 0) hx hb dX11_wave_14 (by decide) ?_
  refine lv_istore_n (lv' := [(1, .int ((0 : Int32))), (0, .ref (a 0))]) hx hb dX11_wave_15 rfl hl (by decide) rfl (fun ls hl => ?_)
  refine lv_aload_n hx hb dX11_wave_16 rfl (lv_at hl 1 rfl) ?_
  refine lv_iconst (v := 0) hx hb dX11_wave_17 (by decide) ?_
  refine va_put (D := D) (ci := 11) (v := .int ((0 : Int32))) (ty := .int) (C := RX11) (T := TX11) (N := 76) hx hb hts inX11 tyX11 tyX11_ok nmX11 hown hK hP (hD t) hS 0 (heM_0 ca a t) rfl 52 (by decide) (hts _ kw_1244) (fun _ h9 => h9) rfl (by decide +kernel) rfl rfl (Nat.le_of_ble_eq_true rfl) dX11_wave_18 (fun H locs hP _ hS => ?_)
  rw [suM_0_52] at hP
  obtain ⟨t_1, e_18, hf⟩ := fb_ls hf
  rw [← e_18] at hP
  refine lv_iconst (v := 0) hx hb dX11_wave_21 (by decide) ?_
  refine lv_istore_n (lv' := [(2, .int ((0 : Int32))), (1, .int ((0 : Int32))), (0, .ref (a 0))]) hx hb dX11_wave_22 rfl hl (by decide) rfl (fun ls hl => ?_)
  exact w_M_X11_wave__0_23 C hr 3000 t_1 ((0 : Int32)) ((0 : Int32)) _ _ _ hf hP hS (lv_sub hl [2, 1, 0] rfl)
set_option maxRecDepth 20000 in
theorem w_M_X11_wave__0_7 {p : Program} {l : Launch} {e : Env} {s : State} {m : MethodId} {args : Array Value} {below : List Frame} {meth : Method} {c : Code} {A : Nat → Prop} {Q : State → Prop} {D : va_G} {ca : Nat → ClassId} {a : Nat → Nat} {u : fw_S} {r : Int32}  (C : CX (WM ca a) D (tyv ca) p s m args c A prog_13_method_41_code 4 RX11) (hr : True → RX (WM ca a) D p l e rm_M_X11_wave__0 s m args below meth c A prog_13_method_41_code Q .ireturn [.int r] u) {t : fw_S}  {H : Heap} {locs : List Loc} {ls : Array Slot} (hf : b_M_X11_wave__0_7  t  = some (r, u)) (hP : va_P D classes (WM ca a t) H) (hS : va_S A s.heap H locs) (hl : lv_has ls 4 [(0, .ref (a 0))]) : W p l e rm_M_X11_wave__0 s m args below meth c H locs 0 0 Q (F0 m 7 ls []) := by
  obtain ⟨hx, hb, hml, hown, hts, hN, hK, hD, hA⟩ := id C
  have hf : (fb_v (f_M_X11_undoes__0 t) fun t_1 => (some ((-7 : Int32), t_1))) = some (r, u) := hf
  refine lv_aload_n hx hb dX11_wave_7 rfl (lv_at hl 0 rfl) ?_
  obtain ⟨t_1, g_8, hf⟩ := fb_vs hf
  refine fw_V1 (As := []) (rest := []) (n := 0) (q0 := 0) C (c_M_X11_undoes__0 (l := l) (D := D) (ca := ca) (a := a) g_8) kw_1515 kw_1517 kw_102 kw_1518 kw_60 hP hS hl (heM_0 ca a t) rfl rfl rfl (by decide) (by decide +kernel) ⟨Nat.le_of_ble_eq_true rfl, Nat.le_of_ble_eq_true rfl⟩ rfl rfl (Nat.le_of_ble_eq_true rfl) dX11_wave_8 (fun H locs hP hS => ?_)
  refine W.eq (g2 := F0 m 11 ls []) rfl ?_
  refine lv_bipush (v := (-7)) hx hb dX11_wave_11 (by decide) ?_
  obtain ⟨e_13, e2_13⟩ := fb_e hf
  subst e_13; subst e2_13
  exact hr trivial _ _ _ _ hP hS dX11_wave_13
set_option maxRecDepth 20000 in
theorem w_M_X11_wave__0_0 {p : Program} {l : Launch} {e : Env} {s : State} {m : MethodId} {args : Array Value} {below : List Frame} {meth : Method} {c : Code} {A : Nat → Prop} {Q : State → Prop} {D : va_G} {ca : Nat → ClassId} {a : Nat → Nat} {u : fw_S} {r : Int32}  (C : CX (WM ca a) D (tyv ca) p s m args c A prog_13_method_41_code 4 RX11) (hr : True → RX (WM ca a) D p l e rm_M_X11_wave__0 s m args below meth c A prog_13_method_41_code Q .ireturn [.int r] u) {t : fw_S}  {H : Heap} {locs : List Loc} {ls : Array Slot} (hf : b_M_X11_wave__0_0  t  = some (r, u)) (hP : va_P D classes (WM ca a t) H) (hS : va_S A s.heap H locs) (hl : lv_has ls 4 [(0, .ref (a 0))]) : W p l e rm_M_X11_wave__0 s m args below meth c H locs 0 0 Q (F0 m 0 ls []) := by
  obtain ⟨hx, hb, hml, hown, hts, hN, hK, hD, hA⟩ := id C
  have hf : (fb_b (f_M_X11_goes__0 t) fun v_2 t_1 => (if v_2 = 0 then b_M_X11_wave__0_7 t_1 else b_M_X11_wave__0_14 t_1)) = some (r, u) := hf
  refine lv_aload_n hx hb dX11_wave_0 rfl (lv_at hl 0 rfl) ?_
  obtain ⟨v_2, t_1, g_1, hf⟩ := fb_bs hf
  refine fw_V1 (As := []) (rest := []) (n := 0) (q0 := 0) C (c_M_X11_goes__0 (l := l) (D := D) (ca := ca) (a := a) g_1) kw_1456 kw_1458 kw_102 kw_1459 kw_48 hP hS hl (heM_0 ca a t) rfl rfl rfl (by decide) (by decide +kernel) ⟨Nat.le_of_ble_eq_true rfl, Nat.le_of_ble_eq_true rfl⟩ rfl rfl (Nat.le_of_ble_eq_true rfl) dX11_wave_1 (fun H locs hP hS => ?_)
  refine W.eq (g2 := F0 m 4 ls [.int v_2]) rfl ?_
  refine lv_if_ne (tgt := 14) hx hb dX11_wave_4 (by decide) (fun h_4 => ?_) (fun h_4 => ?_)
  · have hf := fb_f h_4 hf
    exact w_M_X11_wave__0_14 C hr hf hP hS (lv_sub hl [0] rfl)
  · have hf := fb_t h_4 hf
    exact w_M_X11_wave__0_7 C hr hf hP hS (lv_sub hl [0] rfl)
set_option maxRecDepth 20000 in
theorem c_M_X11_wave__0 {l : Launch} {D : va_G} {ca : Nat → ClassId} {a : Nat → Nat} {t : fw_S}  {u : fw_S} {r : Int32} (hf : f_M_X11_wave__0 t  = some (r, u)) : MC (WM ca a) D (tyv ca) l yX11_wave (.code yX11_wave prog_13_method_41_code 4 (some .int) :: lw_gd) rm_M_X11_wave__0 [.ref (a 0)] (some (.int r)) t u := by
  refine fw_met (okM ca a) (by decide +kernel) rfl rfl (Nat.le_of_ble_eq_true rfl) ?_
  intro p e s m args below meth c A Q ls C hr hk hP hS hl hQ
  exact w_M_X11_wave__0_0 C (fun _ => fw_ri C hr hk hQ) hf hP hS (lv_sub hl [0] rfl)
/-! ReactiveSheetModel.ofBatch(I)I [] -/
abbrev rm_M_X11_ofBatch : Room := { frames := 0, cells := 0, slots := 0, locals := 0 }
def b_M_X11_ofBatch_0  (t : fw_S) (x0 : Int32) : Option (Int32 × fw_S) := some ((((32 : Int32)) + x0) * ((128 : Int32)), t)
def f_M_X11_ofBatch (t : fw_S) (x0 : Int32) : Option (Int32 × fw_S) := b_M_X11_ofBatch_0 t x0
set_option maxRecDepth 20000 in
theorem w_M_X11_ofBatch_0 {p : Program} {l : Launch} {e : Env} {s : State} {m : MethodId} {args : Array Value} {below : List Frame} {meth : Method} {c : Code} {A : Nat → Prop} {Q : State → Prop} {D : va_G} {ca : Nat → ClassId} {a : Nat → Nat} {u : fw_S} {r : Int32}  (C : CX (WM ca a) D (tyv ca) p s m args c A prog_13_method_20_code 1 RX11) (hr : True → RX (WM ca a) D p l e rm_M_X11_ofBatch s m args below meth c A prog_13_method_20_code Q .ireturn [.int r] u) {t : fw_S} {x0 : Int32} {H : Heap} {locs : List Loc} {ls : Array Slot} (hf : b_M_X11_ofBatch_0  t x0 = some (r, u)) (hP : va_P D classes (WM ca a t) H) (hS : va_S A s.heap H locs) (hl : lv_has ls 1 [(0, .int x0)]) : W p l e rm_M_X11_ofBatch s m args below meth c H locs 0 0 Q (F0 m 0 ls []) := by
  obtain ⟨hx, hb, hml, hown, hts, hN, hK, hD, hA⟩ := id C
  have hf : (some ((((32 : Int32)) + x0) * ((128 : Int32)), t)) = some (r, u) := hf
  refine lv_bipush (v := 32) hx hb dX11_ofBatch_0 (by decide) ?_
  refine lv_iload_n hx hb dX11_ofBatch_2 rfl (lv_at hl 0 rfl) ?_
  refine lv_iadd hx hb dX11_ofBatch_3 ?_
  refine lv_sipush (v := 128) hx hb dX11_ofBatch_4 (by decide) ?_
  refine lv_imul hx hb dX11_ofBatch_7 ?_
  obtain ⟨e_8, e2_8⟩ := fb_e hf
  subst e_8; subst e2_8
  exact hr trivial _ _ _ _ hP hS dX11_ofBatch_8
set_option maxRecDepth 20000 in
theorem c_M_X11_ofBatch {l : Launch} {D : va_G} {ca : Nat → ClassId} {a : Nat → Nat} {t : fw_S} {x0 : Int32} {u : fw_S} {r : Int32} (hf : f_M_X11_ofBatch t x0 = some (r, u)) : MC (WM ca a) D (tyv ca) l yX11_ofBatch (.code yX11_ofBatch prog_13_method_20_code 1 (some .int) :: lw_gd) rm_M_X11_ofBatch [.int x0] (some (.int r)) t u := by
  refine fw_met (okM ca a) (by decide +kernel) rfl rfl (Nat.le_of_ble_eq_true rfl) ?_
  intro p e s m args below meth c A Q ls C hr hk hP hS hl hQ
  exact w_M_X11_ofBatch_0 C (fun _ => fw_ri C hr hk hQ) hf hP hS (lv_sub hl [0] rfl)
/-! ReactiveSheetModel.copies(II)V ['m'] -/
abbrev rm_M_X11_copies__0 : Room := { frames := 0, cells := 0, slots := 0, locals := 0 }
def b_M_X11_copies__0_79  (t : fw_S)  : Option fw_S := some t
def b_M_X11_copies__0_9 (k2 : fw_S → Int32 → Int32 → Int32 → Option fw_S) (t : fw_S) (x1 : Int32) (x2 : Int32) (x3 : Int32) : Option fw_S := fb_g (¬ ((x1 + x3) < 0 ∨ 16384 ≤ (x1 + x3).toNatClampNeg)) (fb_g (¬ ((x2 + x3) < 0 ∨ 16384 ≤ (x2 + x3).toNatClampNeg)) (fb_l (up_F t 9 (upd (st_F t 9) (x2 + x3).toNatClampNeg (st_F t 9 (x1 + x3).toNatClampNeg))) fun t_1 => (fb_g (¬ ((x1 + x3) < 0 ∨ 16384 ≤ (x1 + x3).toNatClampNeg)) (fb_g (¬ ((x2 + x3) < 0 ∨ 16384 ≤ (x2 + x3).toNatClampNeg)) (fb_l (up_F t_1 10 (upd (st_F t_1 10) (x2 + x3).toNatClampNeg (st_F t_1 10 (x1 + x3).toNatClampNeg))) fun t_2 => (fb_g (¬ ((x1 + x3) < 0 ∨ 16384 ≤ (x1 + x3).toNatClampNeg)) (fb_g (¬ ((x2 + x3) < 0 ∨ 16384 ≤ (x2 + x3).toNatClampNeg)) (fb_l (up_F t_2 11 (upd (st_F t_2 11) (x2 + x3).toNatClampNeg (st_F t_2 11 (x1 + x3).toNatClampNeg))) fun t_3 => (fb_g (¬ ((x1 + x3) < 0 ∨ 16384 ≤ (x1 + x3).toNatClampNeg)) (fb_g (¬ ((x2 + x3) < 0 ∨ 16384 ≤ (x2 + x3).toNatClampNeg)) (fb_l (up_F t_3 12 (upd (st_F t_3 12) (x2 + x3).toNatClampNeg (st_F t_3 12 (x1 + x3).toNatClampNeg))) fun t_4 => (k2 t_4 x1 x2 (x3 + 1)))))))))))))
def b_M_X11_copies__0_2  : Nat → (fw_S → Int32 → Int32 → Int32 → Option fw_S)
  | 0 => fun _ _ _ _ => none
  | n + 1 => fun t x1 x2 x3 => if ((128 : Int32)) ≤ x3 then b_M_X11_copies__0_79 t else b_M_X11_copies__0_9 (b_M_X11_copies__0_2 n) t x1 x2 x3
def b_M_X11_copies__0_0  (t : fw_S) (x1 : Int32) (x2 : Int32) : Option fw_S := b_M_X11_copies__0_2 3000 t x1 x2 ((0 : Int32))
def f_M_X11_copies__0 (t : fw_S) (x1 : Int32) (x2 : Int32) : Option fw_S := b_M_X11_copies__0_0 t x1 x2
set_option maxRecDepth 20000 in
theorem w_M_X11_copies__0_79 {p : Program} {l : Launch} {e : Env} {s : State} {m : MethodId} {args : Array Value} {below : List Frame} {meth : Method} {c : Code} {A : Nat → Prop} {Q : State → Prop} {D : va_G} {ca : Nat → ClassId} {a : Nat → Nat} {u : fw_S}  (C : CX (WM ca a) D (tyv ca) p s m args c A prog_13_method_18_code 4 RX11) (hr : True → RX (WM ca a) D p l e rm_M_X11_copies__0 s m args below meth c A prog_13_method_18_code Q .return_ [] u) {t : fw_S}  {H : Heap} {locs : List Loc} {ls : Array Slot} (hf : b_M_X11_copies__0_79  t  = some u) (hP : va_P D classes (WM ca a t) H) (hS : va_S A s.heap H locs) (hl : lv_has ls 4 []) : W p l e rm_M_X11_copies__0 s m args below meth c H locs 0 0 Q (F0 m 79 ls []) := by
  obtain ⟨hx, hb, hml, hown, hts, hN, hK, hD, hA⟩ := id C
  have hf : (some t) = some u := hf
  have e_79 := fb_ev hf
  subst e_79
  exact hr trivial _ _ _ _ hP hS dX11_copies_79
set_option maxRecDepth 20000 in
theorem w_M_X11_copies__0_9 {p : Program} {l : Launch} {e : Env} {s : State} {m : MethodId} {args : Array Value} {below : List Frame} {meth : Method} {c : Code} {A : Nat → Prop} {Q : State → Prop} {D : va_G} {ca : Nat → ClassId} {a : Nat → Nat} {u : fw_S} {k2 : fw_S → Int32 → Int32 → Int32 → Option fw_S} (C : CX (WM ca a) D (tyv ca) p s m args c A prog_13_method_18_code 4 RX11) (hr : True → RX (WM ca a) D p l e rm_M_X11_copies__0 s m args below meth c A prog_13_method_18_code Q .return_ [] u) (hk2 : ∀ (t : fw_S) (x1 : Int32) (x2 : Int32) (x3 : Int32) (H : Heap) (locs : List Loc) (ls : Array Slot), k2 t x1 x2 x3 = some u → va_P D classes (WM ca a t) H → va_S A s.heap H locs → lv_has ls 4 [(0, .ref (a 0)), (1, .int x1), (2, .int x2), (3, .int x3)] → W p l e rm_M_X11_copies__0 s m args below meth c H locs 0 0 Q (F0 m 2 ls [])) {t : fw_S} {x1 : Int32} {x2 : Int32} {x3 : Int32} {H : Heap} {locs : List Loc} {ls : Array Slot} (hf : b_M_X11_copies__0_9 k2 t x1 x2 x3 = some u) (hP : va_P D classes (WM ca a t) H) (hS : va_S A s.heap H locs) (hl : lv_has ls 4 [(0, .ref (a 0)), (1, .int x1), (2, .int x2), (3, .int x3)]) : W p l e rm_M_X11_copies__0 s m args below meth c H locs 0 0 Q (F0 m 9 ls []) := by
  obtain ⟨hx, hb, hml, hown, hts, hN, hK, hD, hA⟩ := id C
  have hf : (fb_g (¬ ((x1 + x3) < 0 ∨ 16384 ≤ (x1 + x3).toNatClampNeg)) (fb_g (¬ ((x2 + x3) < 0 ∨ 16384 ≤ (x2 + x3).toNatClampNeg)) (fb_l (up_F t 9 (upd (st_F t 9) (x2 + x3).toNatClampNeg (st_F t 9 (x1 + x3).toNatClampNeg))) fun t_1 => (fb_g (¬ ((x1 + x3) < 0 ∨ 16384 ≤ (x1 + x3).toNatClampNeg)) (fb_g (¬ ((x2 + x3) < 0 ∨ 16384 ≤ (x2 + x3).toNatClampNeg)) (fb_l (up_F t_1 10 (upd (st_F t_1 10) (x2 + x3).toNatClampNeg (st_F t_1 10 (x1 + x3).toNatClampNeg))) fun t_2 => (fb_g (¬ ((x1 + x3) < 0 ∨ 16384 ≤ (x1 + x3).toNatClampNeg)) (fb_g (¬ ((x2 + x3) < 0 ∨ 16384 ≤ (x2 + x3).toNatClampNeg)) (fb_l (up_F t_2 11 (upd (st_F t_2 11) (x2 + x3).toNatClampNeg (st_F t_2 11 (x1 + x3).toNatClampNeg))) fun t_3 => (fb_g (¬ ((x1 + x3) < 0 ∨ 16384 ≤ (x1 + x3).toNatClampNeg)) (fb_g (¬ ((x2 + x3) < 0 ∨ 16384 ≤ (x2 + x3).toNatClampNeg)) (fb_l (up_F t_3 12 (upd (st_F t_3 12) (x2 + x3).toNatClampNeg (st_F t_3 12 (x1 + x3).toNatClampNeg))) fun t_4 => (k2 t_4 x1 x2 (x3 + 1)))))))))))))) = some u := hf
  refine lv_aload_n hx hb dX11_copies_9 rfl (lv_at hl 0 rfl) ?_
  refine va_get (D := D) (ci := 11) (v := .ref (a 11)) (C := RX11) (T := TX11) (N := 76) hx hb hts inX11 hown hK hP 0 (heM_0 ca a t) rfl 10 (by decide) (hts _ kw_1202) (fun _ h9 => h9) rfl dX11_copies_10 ?_
  refine lv_iload_n hx hb dX11_copies_13 rfl (lv_at hl 2 rfl) ?_
  refine lv_iload_n hx hb dX11_copies_14 rfl (lv_at hl 3 rfl) ?_
  refine lv_iadd hx hb dX11_copies_15 ?_
  refine lv_aload_n hx hb dX11_copies_16 rfl (lv_at hl 0 rfl) ?_
  refine va_get (D := D) (ci := 11) (v := .ref (a 11)) (C := RX11) (T := TX11) (N := 76) hx hb hts inX11 hown hK hP 0 (heM_0 ca a t) rfl 10 (by decide) (hts _ kw_1202) (fun _ h9 => h9) rfl dX11_copies_17 ?_
  refine lv_iload_n hx hb dX11_copies_20 rfl (lv_at hl 1 rfl) ?_
  refine lv_iload_n hx hb dX11_copies_21 rfl (lv_at hl 3 rfl) ?_
  refine lv_iadd hx hb dX11_copies_22 ?_
  obtain ⟨h_23, hf⟩ := fb_if hf
  refine va_iald hx hb hK hP 11 0 (haM_11 ca a t) rfl h_23 dX11_copies_23 ?_
  obtain ⟨h_24, hf⟩ := fb_if hf
  refine va_iast hx hb hK hP (hD t) hS 11 0 (haM_11 ca a t) rfl h_24 dX11_copies_24 (fun H locs hP _ hS => ?_)
  rw [saM_11] at hP
  obtain ⟨t_1, e_24, hf⟩ := fb_ls hf
  rw [← e_24] at hP
  refine lv_aload_n hx hb dX11_copies_25 rfl (lv_at hl 0 rfl) ?_
  refine va_get (D := D) (ci := 11) (v := .ref (a 12)) (C := RX11) (T := TX11) (N := 76) hx hb hts inX11 hown hK hP 0 (heM_0 ca a t_1) rfl 11 (by decide) (hts _ kw_1203) (fun _ h9 => h9) rfl dX11_copies_26 ?_
  refine lv_iload_n hx hb dX11_copies_29 rfl (lv_at hl 2 rfl) ?_
  refine lv_iload_n hx hb dX11_copies_30 rfl (lv_at hl 3 rfl) ?_
  refine lv_iadd hx hb dX11_copies_31 ?_
  refine lv_aload_n hx hb dX11_copies_32 rfl (lv_at hl 0 rfl) ?_
  refine va_get (D := D) (ci := 11) (v := .ref (a 12)) (C := RX11) (T := TX11) (N := 76) hx hb hts inX11 hown hK hP 0 (heM_0 ca a t_1) rfl 11 (by decide) (hts _ kw_1203) (fun _ h9 => h9) rfl dX11_copies_33 ?_
  refine lv_iload_n hx hb dX11_copies_36 rfl (lv_at hl 1 rfl) ?_
  refine lv_iload_n hx hb dX11_copies_37 rfl (lv_at hl 3 rfl) ?_
  refine lv_iadd hx hb dX11_copies_38 ?_
  obtain ⟨h_39, hf⟩ := fb_if hf
  refine va_iald hx hb hK hP 12 0 (haM_12 ca a t_1) rfl h_39 dX11_copies_39 ?_
  obtain ⟨h_40, hf⟩ := fb_if hf
  refine va_iast hx hb hK hP (hD t_1) hS 12 0 (haM_12 ca a t_1) rfl h_40 dX11_copies_40 (fun H locs hP _ hS => ?_)
  rw [saM_12] at hP
  obtain ⟨t_2, e_40, hf⟩ := fb_ls hf
  rw [← e_40] at hP
  refine lv_aload_n hx hb dX11_copies_41 rfl (lv_at hl 0 rfl) ?_
  refine va_get (D := D) (ci := 11) (v := .ref (a 13)) (C := RX11) (T := TX11) (N := 76) hx hb hts inX11 hown hK hP 0 (heM_0 ca a t_2) rfl 12 (by decide) (hts _ kw_1204) (fun _ h9 => h9) rfl dX11_copies_42 ?_
  refine lv_iload_n hx hb dX11_copies_45 rfl (lv_at hl 2 rfl) ?_
  refine lv_iload_n hx hb dX11_copies_46 rfl (lv_at hl 3 rfl) ?_
  refine lv_iadd hx hb dX11_copies_47 ?_
  refine lv_aload_n hx hb dX11_copies_48 rfl (lv_at hl 0 rfl) ?_
  refine va_get (D := D) (ci := 11) (v := .ref (a 13)) (C := RX11) (T := TX11) (N := 76) hx hb hts inX11 hown hK hP 0 (heM_0 ca a t_2) rfl 12 (by decide) (hts _ kw_1204) (fun _ h9 => h9) rfl dX11_copies_49 ?_
  refine lv_iload_n hx hb dX11_copies_52 rfl (lv_at hl 1 rfl) ?_
  refine lv_iload_n hx hb dX11_copies_53 rfl (lv_at hl 3 rfl) ?_
  refine lv_iadd hx hb dX11_copies_54 ?_
  obtain ⟨h_55, hf⟩ := fb_if hf
  refine va_iald hx hb hK hP 13 0 (haM_13 ca a t_2) rfl h_55 dX11_copies_55 ?_
  obtain ⟨h_56, hf⟩ := fb_if hf
  refine va_iast hx hb hK hP (hD t_2) hS 13 0 (haM_13 ca a t_2) rfl h_56 dX11_copies_56 (fun H locs hP _ hS => ?_)
  rw [saM_13] at hP
  obtain ⟨t_3, e_56, hf⟩ := fb_ls hf
  rw [← e_56] at hP
  refine lv_aload_n hx hb dX11_copies_57 rfl (lv_at hl 0 rfl) ?_
  refine va_get (D := D) (ci := 11) (v := .ref (a 14)) (C := RX11) (T := TX11) (N := 76) hx hb hts inX11 hown hK hP 0 (heM_0 ca a t_3) rfl 13 (by decide) (hts _ kw_1205) (fun _ h9 => h9) rfl dX11_copies_58 ?_
  refine lv_iload_n hx hb dX11_copies_61 rfl (lv_at hl 2 rfl) ?_
  refine lv_iload_n hx hb dX11_copies_62 rfl (lv_at hl 3 rfl) ?_
  refine lv_iadd hx hb dX11_copies_63 ?_
  refine lv_aload_n hx hb dX11_copies_64 rfl (lv_at hl 0 rfl) ?_
  refine va_get (D := D) (ci := 11) (v := .ref (a 14)) (C := RX11) (T := TX11) (N := 76) hx hb hts inX11 hown hK hP 0 (heM_0 ca a t_3) rfl 13 (by decide) (hts _ kw_1205) (fun _ h9 => h9) rfl dX11_copies_65 ?_
  refine lv_iload_n hx hb dX11_copies_68 rfl (lv_at hl 1 rfl) ?_
  refine lv_iload_n hx hb dX11_copies_69 rfl (lv_at hl 3 rfl) ?_
  refine lv_iadd hx hb dX11_copies_70 ?_
  obtain ⟨h_71, hf⟩ := fb_if hf
  refine va_iald hx hb hK hP 14 0 (haM_14 ca a t_3) rfl h_71 dX11_copies_71 ?_
  obtain ⟨h_72, hf⟩ := fb_if hf
  refine va_iast hx hb hK hP (hD t_3) hS 14 0 (haM_14 ca a t_3) rfl h_72 dX11_copies_72 (fun H locs hP _ hS => ?_)
  rw [saM_14] at hP
  obtain ⟨t_4, e_72, hf⟩ := fb_ls hf
  rw [← e_72] at hP
  refine lv_iinc (v := x3 + 1) (lv' := [(3, .int (x3 + 1)), (0, .ref (a 0)), (1, .int x1), (2, .int x2)]) hx hb dX11_copies_73 hl (k := 3) rfl rfl (by decide) rfl (fun ls hl => ?_)
  refine lv_goto (tgt := 2) hx hb dX11_copies_76 (by decide) ?_
  exact hk2 t_4 x1 x2 (x3 + 1) _ _ _ hf hP hS (lv_sub hl [1, 2, 3, 0] rfl)
set_option maxRecDepth 20000 in
theorem w_M_X11_copies__0_2 {p : Program} {l : Launch} {e : Env} {s : State} {m : MethodId} {args : Array Value} {below : List Frame} {meth : Method} {c : Code} {A : Nat → Prop} {Q : State → Prop} {D : va_G} {ca : Nat → ClassId} {a : Nat → Nat} {u : fw_S}  (C : CX (WM ca a) D (tyv ca) p s m args c A prog_13_method_18_code 4 RX11) (hr : True → RX (WM ca a) D p l e rm_M_X11_copies__0 s m args below meth c A prog_13_method_18_code Q .return_ [] u) : ∀ (n : Nat) (t : fw_S) (x1 : Int32) (x2 : Int32) (x3 : Int32) (H : Heap) (locs : List Loc) (ls : Array Slot), b_M_X11_copies__0_2  n t x1 x2 x3 = some u → va_P D classes (WM ca a t) H → va_S A s.heap H locs → lv_has ls 4 [(0, .ref (a 0)), (1, .int x1), (2, .int x2), (3, .int x3)] → W p l e rm_M_X11_copies__0 s m args below meth c H locs 0 0 Q (F0 m 2 ls []) := by
  obtain ⟨hx, hb, hml, hown, hts, hN, hK, hD, hA⟩ := id C
  intro n
  induction n with
  | zero => intro t x1 x2 x3 H locs ls hf; cases hf
  | succ n hk2 =>
    intro t x1 x2 x3 H locs ls hf hP hS hl
    have hf : (if ((128 : Int32)) ≤ x3 then b_M_X11_copies__0_79 t else b_M_X11_copies__0_9 (b_M_X11_copies__0_2 n) t x1 x2 x3) = some u := hf
    refine lv_iload_n hx hb dX11_copies_2 rfl (lv_at hl 3 rfl) ?_
    refine lv_sipush (v := 128) hx hb dX11_copies_3 (by decide) ?_
    refine lv_icmp_ge (tgt := 79) hx hb dX11_copies_6 (by decide) (fun h_6 => ?_) (fun h_6 => ?_)
    · have hf := fb_t h_6 hf
      exact w_M_X11_copies__0_79 C hr hf hP hS (lv_sub hl [] rfl)
    · have hf := fb_f h_6 hf
      exact w_M_X11_copies__0_9 C hr hk2 hf hP hS (lv_sub hl [0, 1, 2, 3] rfl)
set_option maxRecDepth 20000 in
theorem w_M_X11_copies__0_0 {p : Program} {l : Launch} {e : Env} {s : State} {m : MethodId} {args : Array Value} {below : List Frame} {meth : Method} {c : Code} {A : Nat → Prop} {Q : State → Prop} {D : va_G} {ca : Nat → ClassId} {a : Nat → Nat} {u : fw_S}  (C : CX (WM ca a) D (tyv ca) p s m args c A prog_13_method_18_code 4 RX11) (hr : True → RX (WM ca a) D p l e rm_M_X11_copies__0 s m args below meth c A prog_13_method_18_code Q .return_ [] u) {t : fw_S} {x1 : Int32} {x2 : Int32} {H : Heap} {locs : List Loc} {ls : Array Slot} (hf : b_M_X11_copies__0_0  t x1 x2 = some u) (hP : va_P D classes (WM ca a t) H) (hS : va_S A s.heap H locs) (hl : lv_has ls 4 [(0, .ref (a 0)), (1, .int x1), (2, .int x2)]) : W p l e rm_M_X11_copies__0 s m args below meth c H locs 0 0 Q (F0 m 0 ls []) := by
  obtain ⟨hx, hb, hml, hown, hts, hN, hK, hD, hA⟩ := id C
  have hf : (b_M_X11_copies__0_2 3000 t x1 x2 ((0 : Int32))) = some u := hf
  refine lv_iconst (v := 0) hx hb dX11_copies_0 (by decide) ?_
  refine lv_istore_n (lv' := [(3, .int ((0 : Int32))), (0, .ref (a 0)), (1, .int x1), (2, .int x2)]) hx hb dX11_copies_1 rfl hl (by decide) rfl (fun ls hl => ?_)
  exact w_M_X11_copies__0_2 C hr 3000 t x1 x2 ((0 : Int32)) _ _ _ hf hP hS (lv_sub hl [1, 2, 3, 0] rfl)
set_option maxRecDepth 20000 in
theorem c_M_X11_copies__0 {l : Launch} {D : va_G} {ca : Nat → ClassId} {a : Nat → Nat} {t : fw_S} {x1 : Int32} {x2 : Int32} {u : fw_S} (hf : f_M_X11_copies__0 t x1 x2 = some u) : MC (WM ca a) D (tyv ca) l yX11_copies (.code yX11_copies prog_13_method_18_code 4 none :: lw_gd) rm_M_X11_copies__0 [.ref (a 0), .int x1, .int x2] none t u := by
  refine fw_met (okM ca a) (by decide +kernel) rfl rfl (Nat.le_of_ble_eq_true rfl) ?_
  intro p e s m args below meth c A Q ls C hr hk hP hS hl hQ
  exact w_M_X11_copies__0_0 C (fun _ => fw_rv C hr hk hQ) hf hP hS (lv_sub hl [0, 1, 2] rfl)
/-! ReactiveSheetModel.told(IIJI)I ['m'] -/
abbrev rm_M_X11_told__0 : Room := { frames := 4, cells := 0, slots := 0, locals := 85 }
def b_M_X11_told__0_71  (t : fw_S)  : Option (Int32 × fw_S) := some ((0 : Int32), t)
def b_M_X11_told__0_59  (t : fw_S) (x1 : Int32) : Option (Int32 × fw_S) := fb_b (f_M_X11_ofTold t x1) fun v_2 t_1 => (fb_b (f_M_X11_ofBatch t_1 x1) fun v_4 t_3 => (fb_v (f_M_X11_copies__0 t_3 v_2 v_4) fun t_5 => (b_M_X11_told__0_71 t_5)))
def b_M_X11_told__0_25  (t : fw_S) (x1 : Int32) (x2 : Int32) (y3 : Int64) (x5 : Int32) : Option (Int32 × fw_S) := fb_g (¬ (x1 < 0 ∨ 32 ≤ x1.toNatClampNeg)) (fb_l (up_F t 14 (upd (st_F t 14) x1.toNatClampNeg (vp_nar .boolean ((1 : Int32))))) fun t_1 => (fb_g (¬ (x1 < 0 ∨ 32 ≤ x1.toNatClampNeg)) (fb_l (up_F t_1 17 (upd (st_F t_1 17) x1.toNatClampNeg x2)) fun t_2 => (fb_g (¬ (x1 < 0 ∨ 32 ≤ x1.toNatClampNeg)) (fb_l (up_G t_2 2 (vp_updL (st_G t_2 2) x1.toNatClampNeg y3)) fun t_3 => (fb_g (¬ (x1 < 0 ∨ 32 ≤ x1.toNatClampNeg)) (fb_l (up_F t_3 18 (upd (st_F t_3 18) x1.toNatClampNeg x5)) fun t_4 => (if x2 = ((2 : Int32)) then b_M_X11_told__0_59 t_4 x1 else b_M_X11_told__0_71 t_4))))))))
def b_M_X11_told__0_7  (t : fw_S) (x1 : Int32) (x2 : Int32) (y3 : Int64) (x5 : Int32) : Option (Int32 × fw_S) := fb_v (f_M_X11_tellsNothing__0 t) fun t_1 => (fb_v (f_M_X11_tell__0 t_1 x1 x2 y3 x5) fun t_2 => (fb_b (f_M_X11_wave__0 t_2) fun v_4 t_3 => (some (v_4, t_3))))
def b_M_X11_told__0_0  (t : fw_S) (x1 : Int32) (x2 : Int32) (y3 : Int64) (x5 : Int32) : Option (Int32 × fw_S) := if (st_I t 0) = 0 then b_M_X11_told__0_7 t x1 x2 y3 x5 else b_M_X11_told__0_25 t x1 x2 y3 x5
def f_M_X11_told__0 (t : fw_S) (x1 : Int32) (x2 : Int32) (y3 : Int64) (x5 : Int32) : Option (Int32 × fw_S) := b_M_X11_told__0_0 t x1 x2 y3 x5
set_option maxRecDepth 20000 in
theorem w_M_X11_told__0_71 {p : Program} {l : Launch} {e : Env} {s : State} {m : MethodId} {args : Array Value} {below : List Frame} {meth : Method} {c : Code} {A : Nat → Prop} {Q : State → Prop} {D : va_G} {ca : Nat → ClassId} {a : Nat → Nat} {u : fw_S} {r : Int32}  (C : CX (WM ca a) D (tyv ca) p s m args c A prog_13_method_42_code 6 RX11) (hr : True → RX (WM ca a) D p l e rm_M_X11_told__0 s m args below meth c A prog_13_method_42_code Q .ireturn [.int r] u) {t : fw_S}  {H : Heap} {locs : List Loc} {ls : Array Slot} (hf : b_M_X11_told__0_71  t  = some (r, u)) (hP : va_P D classes (WM ca a t) H) (hS : va_S A s.heap H locs) (hl : lv_has ls 6 []) : W p l e rm_M_X11_told__0 s m args below meth c H locs 0 0 Q (F0 m 71 ls []) := by
  obtain ⟨hx, hb, hml, hown, hts, hN, hK, hD, hA⟩ := id C
  have hf : (some ((0 : Int32), t)) = some (r, u) := hf
  refine lv_iconst (v := 0) hx hb dX11_told_71 (by decide) ?_
  obtain ⟨e_72, e2_72⟩ := fb_e hf
  subst e_72; subst e2_72
  exact hr trivial _ _ _ _ hP hS dX11_told_72
set_option maxRecDepth 20000 in
theorem w_M_X11_told__0_59 {p : Program} {l : Launch} {e : Env} {s : State} {m : MethodId} {args : Array Value} {below : List Frame} {meth : Method} {c : Code} {A : Nat → Prop} {Q : State → Prop} {D : va_G} {ca : Nat → ClassId} {a : Nat → Nat} {u : fw_S} {r : Int32}  (C : CX (WM ca a) D (tyv ca) p s m args c A prog_13_method_42_code 6 RX11) (hr : True → RX (WM ca a) D p l e rm_M_X11_told__0 s m args below meth c A prog_13_method_42_code Q .ireturn [.int r] u) {t : fw_S} {x1 : Int32} {H : Heap} {locs : List Loc} {ls : Array Slot} (hf : b_M_X11_told__0_59  t x1 = some (r, u)) (hP : va_P D classes (WM ca a t) H) (hS : va_S A s.heap H locs) (hl : lv_has ls 6 [(0, .ref (a 0)), (1, .int x1)]) : W p l e rm_M_X11_told__0 s m args below meth c H locs 0 0 Q (F0 m 59 ls []) := by
  obtain ⟨hx, hb, hml, hown, hts, hN, hK, hD, hA⟩ := id C
  have hf : (fb_b (f_M_X11_ofTold t x1) fun v_2 t_1 => (fb_b (f_M_X11_ofBatch t_1 x1) fun v_4 t_3 => (fb_v (f_M_X11_copies__0 t_3 v_2 v_4) fun t_5 => (b_M_X11_told__0_71 t_5)))) = some (r, u) := hf
  refine lv_aload_n hx hb dX11_told_59 rfl (lv_at hl 0 rfl) ?_
  refine lv_iload_n hx hb dX11_told_60 rfl (lv_at hl 1 rfl) ?_
  obtain ⟨v_2, t_1, g_61, hf⟩ := fb_bs hf
  refine fw_S1 (As := [.int x1]) (rest := [.ref (a 0)]) (n := 1) C (c_M_X11_ofTold (l := l) (D := D) (ca := ca) (a := a) g_61) kw_1471 kw_1472 kw_102 kw_1473 hP hS hl rfl rfl (by decide) (by decide +kernel) ⟨Nat.le_of_ble_eq_true rfl, Nat.le_of_ble_eq_true rfl⟩ rfl rfl (Nat.le_of_ble_eq_true rfl) dX11_told_61 (fun H locs hP hS => ?_)
  refine W.eq (g2 := F0 m 64 ls [.int v_2, .ref (a 0)]) rfl ?_
  refine lv_iload_n hx hb dX11_told_64 rfl (lv_at hl 1 rfl) ?_
  obtain ⟨v_4, t_3, g_65, hf⟩ := fb_bs hf
  refine fw_S1 (As := [.int x1]) (rest := [.int v_2, .ref (a 0)]) (n := 1) C (c_M_X11_ofBatch (l := l) (D := D) (ca := ca) (a := a) g_65) kw_1532 kw_1533 kw_102 kw_1534 hP hS hl rfl rfl (by decide) (by decide +kernel) ⟨Nat.le_of_ble_eq_true rfl, Nat.le_of_ble_eq_true rfl⟩ rfl rfl (Nat.le_of_ble_eq_true rfl) dX11_told_65 (fun H locs hP hS => ?_)
  refine W.eq (g2 := F0 m 68 ls [.int v_4, .int v_2, .ref (a 0)]) rfl ?_
  obtain ⟨t_5, g_68, hf⟩ := fb_vs hf
  refine fw_V1 (As := [.int v_2, .int v_4]) (rest := []) (n := 2) (q0 := 0) C (c_M_X11_copies__0 (l := l) (D := D) (ca := ca) (a := a) g_68) kw_1535 kw_1537 kw_102 kw_1538 kw_64 hP hS hl (heM_0 ca a t_3) rfl rfl rfl (by decide) (by decide +kernel) ⟨Nat.le_of_ble_eq_true rfl, Nat.le_of_ble_eq_true rfl⟩ rfl rfl (Nat.le_of_ble_eq_true rfl) dX11_told_68 (fun H locs hP hS => ?_)
  refine W.eq (g2 := F0 m 71 ls []) rfl ?_
  exact w_M_X11_told__0_71 C hr hf hP hS (lv_sub hl [] rfl)
set_option maxRecDepth 20000 in
theorem w_M_X11_told__0_25 {p : Program} {l : Launch} {e : Env} {s : State} {m : MethodId} {args : Array Value} {below : List Frame} {meth : Method} {c : Code} {A : Nat → Prop} {Q : State → Prop} {D : va_G} {ca : Nat → ClassId} {a : Nat → Nat} {u : fw_S} {r : Int32}  (C : CX (WM ca a) D (tyv ca) p s m args c A prog_13_method_42_code 6 RX11) (hr : True → RX (WM ca a) D p l e rm_M_X11_told__0 s m args below meth c A prog_13_method_42_code Q .ireturn [.int r] u) {t : fw_S} {x1 : Int32} {x2 : Int32} {y3 : Int64} {x5 : Int32} {H : Heap} {locs : List Loc} {ls : Array Slot} (hf : b_M_X11_told__0_25  t x1 x2 y3 x5 = some (r, u)) (hP : va_P D classes (WM ca a t) H) (hS : va_S A s.heap H locs) (hl : lv_has ls 6 [(0, .ref (a 0)), (1, .int x1), (2, .int x2), (3, .long y3), (5, .int x5)]) : W p l e rm_M_X11_told__0 s m args below meth c H locs 0 0 Q (F0 m 25 ls []) := by
  obtain ⟨hx, hb, hml, hown, hts, hN, hK, hD, hA⟩ := id C
  have hf : (fb_g (¬ (x1 < 0 ∨ 32 ≤ x1.toNatClampNeg)) (fb_l (up_F t 14 (upd (st_F t 14) x1.toNatClampNeg (vp_nar .boolean ((1 : Int32))))) fun t_1 => (fb_g (¬ (x1 < 0 ∨ 32 ≤ x1.toNatClampNeg)) (fb_l (up_F t_1 17 (upd (st_F t_1 17) x1.toNatClampNeg x2)) fun t_2 => (fb_g (¬ (x1 < 0 ∨ 32 ≤ x1.toNatClampNeg)) (fb_l (up_G t_2 2 (vp_updL (st_G t_2 2) x1.toNatClampNeg y3)) fun t_3 => (fb_g (¬ (x1 < 0 ∨ 32 ≤ x1.toNatClampNeg)) (fb_l (up_F t_3 18 (upd (st_F t_3 18) x1.toNatClampNeg x5)) fun t_4 => (if x2 = ((2 : Int32)) then b_M_X11_told__0_59 t_4 x1 else b_M_X11_told__0_71 t_4))))))))) = some (r, u) := hf
  refine lv_aload_n hx hb dX11_told_25 rfl (lv_at hl 0 rfl) ?_
  refine va_get (D := D) (ci := 11) (v := .ref (a 16)) (C := RX11) (T := TX11) (N := 76) hx hb hts inX11 hown hK hP 0 (heM_0 ca a t) rfl 15 (by decide) (hts _ kw_1207) (fun _ h9 => h9) rfl dX11_told_26 ?_
  refine lv_iload_n hx hb dX11_told_29 rfl (lv_at hl 1 rfl) ?_
  refine lv_iconst (v := 1) hx hb dX11_told_30 (by decide) ?_
  obtain ⟨h_31, hf⟩ := fb_if hf
  refine va_zast hx hb hK hP (hD t) hS 16 2 (haM_16 ca a t) rfl h_31 dX11_told_31 (fun H locs hP _ hS => ?_)
  rw [saM_16] at hP
  obtain ⟨t_1, e_31, hf⟩ := fb_ls hf
  rw [← e_31] at hP
  refine lv_aload_n hx hb dX11_told_32 rfl (lv_at hl 0 rfl) ?_
  refine va_get (D := D) (ci := 11) (v := .ref (a 19)) (C := RX11) (T := TX11) (N := 76) hx hb hts inX11 hown hK hP 0 (heM_0 ca a t_1) rfl 18 (by decide) (hts _ kw_1210) (fun _ h9 => h9) rfl dX11_told_33 ?_
  refine lv_iload_n hx hb dX11_told_36 rfl (lv_at hl 1 rfl) ?_
  refine lv_iload_n hx hb dX11_told_37 rfl (lv_at hl 2 rfl) ?_
  obtain ⟨h_38, hf⟩ := fb_if hf
  refine va_iast hx hb hK hP (hD t_1) hS 19 0 (haM_19 ca a t_1) rfl h_38 dX11_told_38 (fun H locs hP _ hS => ?_)
  rw [saM_19] at hP
  obtain ⟨t_2, e_38, hf⟩ := fb_ls hf
  rw [← e_38] at hP
  refine lv_aload_n hx hb dX11_told_39 rfl (lv_at hl 0 rfl) ?_
  refine va_get (D := D) (ci := 11) (v := .ref (a 22)) (C := RX11) (T := TX11) (N := 76) hx hb hts inX11 hown hK hP 0 (heM_0 ca a t_2) rfl 21 (by decide) (hts _ kw_1213) (fun _ h9 => h9) rfl dX11_told_40 ?_
  refine lv_iload_n hx hb dX11_told_43 rfl (lv_at hl 1 rfl) ?_
  refine lv_lload_n hx hb dX11_told_44 rfl (lv_at hl 3 rfl) ?_
  obtain ⟨h_45, hf⟩ := fb_if hf
  refine va_last hx hb hK hP (hD t_2) hS 22 1 (haM_22 ca a t_2) rfl h_45 dX11_told_45 (fun H locs hP _ hS => ?_)
  rw [saM_22] at hP
  obtain ⟨t_3, e_45, hf⟩ := fb_ls hf
  rw [← e_45] at hP
  refine lv_aload_n hx hb dX11_told_46 rfl (lv_at hl 0 rfl) ?_
  refine va_get (D := D) (ci := 11) (v := .ref (a 20)) (C := RX11) (T := TX11) (N := 76) hx hb hts inX11 hown hK hP 0 (heM_0 ca a t_3) rfl 19 (by decide) (hts _ kw_1211) (fun _ h9 => h9) rfl dX11_told_47 ?_
  refine lv_iload_n hx hb dX11_told_50 rfl (lv_at hl 1 rfl) ?_
  refine lv_iload hx hb dX11_told_51 (lv_at hl 4 rfl) ?_
  obtain ⟨h_53, hf⟩ := fb_if hf
  refine va_iast hx hb hK hP (hD t_3) hS 20 0 (haM_20 ca a t_3) rfl h_53 dX11_told_53 (fun H locs hP _ hS => ?_)
  rw [saM_20] at hP
  obtain ⟨t_4, e_53, hf⟩ := fb_ls hf
  rw [← e_53] at hP
  refine lv_iload_n hx hb dX11_told_54 rfl (lv_at hl 2 rfl) ?_
  refine lv_iconst (v := 2) hx hb dX11_told_55 (by decide) ?_
  refine lv_icmp_ne (tgt := 71) hx hb dX11_told_56 (by decide) (fun h_56 => ?_) (fun h_56 => ?_)
  · have hf := fb_f h_56 hf
    exact w_M_X11_told__0_71 C hr hf hP hS (lv_sub hl [] rfl)
  · have hf := fb_t h_56 hf
    exact w_M_X11_told__0_59 C hr hf hP hS (lv_sub hl [0, 1] rfl)
set_option maxRecDepth 20000 in
theorem w_M_X11_told__0_7 {p : Program} {l : Launch} {e : Env} {s : State} {m : MethodId} {args : Array Value} {below : List Frame} {meth : Method} {c : Code} {A : Nat → Prop} {Q : State → Prop} {D : va_G} {ca : Nat → ClassId} {a : Nat → Nat} {u : fw_S} {r : Int32}  (C : CX (WM ca a) D (tyv ca) p s m args c A prog_13_method_42_code 6 RX11) (hr : True → RX (WM ca a) D p l e rm_M_X11_told__0 s m args below meth c A prog_13_method_42_code Q .ireturn [.int r] u) {t : fw_S} {x1 : Int32} {x2 : Int32} {y3 : Int64} {x5 : Int32} {H : Heap} {locs : List Loc} {ls : Array Slot} (hf : b_M_X11_told__0_7  t x1 x2 y3 x5 = some (r, u)) (hP : va_P D classes (WM ca a t) H) (hS : va_S A s.heap H locs) (hl : lv_has ls 6 [(0, .ref (a 0)), (1, .int x1), (2, .int x2), (3, .long y3), (5, .int x5)]) : W p l e rm_M_X11_told__0 s m args below meth c H locs 0 0 Q (F0 m 7 ls []) := by
  obtain ⟨hx, hb, hml, hown, hts, hN, hK, hD, hA⟩ := id C
  have hf : (fb_v (f_M_X11_tellsNothing__0 t) fun t_1 => (fb_v (f_M_X11_tell__0 t_1 x1 x2 y3 x5) fun t_2 => (fb_b (f_M_X11_wave__0 t_2) fun v_4 t_3 => (some (v_4, t_3))))) = some (r, u) := hf
  refine lv_aload_n hx hb dX11_told_7 rfl (lv_at hl 0 rfl) ?_
  obtain ⟨t_1, g_8, hf⟩ := fb_vs hf
  refine fw_V1 (As := []) (rest := []) (n := 0) (q0 := 0) C (c_M_X11_tellsNothing__0 (l := l) (D := D) (ca := ca) (a := a) g_8) kw_1444 kw_1446 kw_102 kw_1447 kw_45 hP hS hl (heM_0 ca a t) rfl rfl rfl (by decide) (by decide +kernel) ⟨Nat.le_of_ble_eq_true rfl, Nat.le_of_ble_eq_true rfl⟩ rfl rfl (Nat.le_of_ble_eq_true rfl) dX11_told_8 (fun H locs hP hS => ?_)
  refine W.eq (g2 := F0 m 11 ls []) rfl ?_
  refine lv_aload_n hx hb dX11_told_11 rfl (lv_at hl 0 rfl) ?_
  refine lv_iload_n hx hb dX11_told_12 rfl (lv_at hl 1 rfl) ?_
  refine lv_iload_n hx hb dX11_told_13 rfl (lv_at hl 2 rfl) ?_
  refine lv_lload_n hx hb dX11_told_14 rfl (lv_at hl 3 rfl) ?_
  refine lv_iload hx hb dX11_told_15 (lv_at hl 4 rfl) ?_
  obtain ⟨t_2, g_17, hf⟩ := fb_vs hf
  refine fw_V1 (As := [.int x1, .int x2, .long y3, .int x5]) (rest := []) (n := 4) (q0 := 0) C (c_M_X11_tell__0 (l := l) (D := D) (ca := ca) (a := a) g_17) kw_1448 kw_1450 kw_102 kw_1451 kw_46 hP hS hl (heM_0 ca a t_1) rfl rfl rfl (by decide) (by decide +kernel) ⟨Nat.le_of_ble_eq_true rfl, Nat.le_of_ble_eq_true rfl⟩ rfl rfl (Nat.le_of_ble_eq_true rfl) dX11_told_17 (fun H locs hP hS => ?_)
  refine W.eq (g2 := F0 m 20 ls []) rfl ?_
  refine lv_aload_n hx hb dX11_told_20 rfl (lv_at hl 0 rfl) ?_
  obtain ⟨v_4, t_3, g_21, hf⟩ := fb_bs hf
  refine fw_V1 (As := []) (rest := []) (n := 0) (q0 := 0) C (c_M_X11_wave__0 (l := l) (D := D) (ca := ca) (a := a) g_21) kw_1452 kw_1454 kw_102 kw_1455 kw_47 hP hS hl (heM_0 ca a t_2) rfl rfl rfl (by decide) (by decide +kernel) ⟨Nat.le_of_ble_eq_true rfl, Nat.le_of_ble_eq_true rfl⟩ rfl rfl (Nat.le_of_ble_eq_true rfl) dX11_told_21 (fun H locs hP hS => ?_)
  refine W.eq (g2 := F0 m 24 ls [.int v_4]) rfl ?_
  obtain ⟨e_24, e2_24⟩ := fb_e hf
  subst e_24; subst e2_24
  exact hr trivial _ _ _ _ hP hS dX11_told_24
set_option maxRecDepth 20000 in
theorem w_M_X11_told__0_0 {p : Program} {l : Launch} {e : Env} {s : State} {m : MethodId} {args : Array Value} {below : List Frame} {meth : Method} {c : Code} {A : Nat → Prop} {Q : State → Prop} {D : va_G} {ca : Nat → ClassId} {a : Nat → Nat} {u : fw_S} {r : Int32}  (C : CX (WM ca a) D (tyv ca) p s m args c A prog_13_method_42_code 6 RX11) (hr : True → RX (WM ca a) D p l e rm_M_X11_told__0 s m args below meth c A prog_13_method_42_code Q .ireturn [.int r] u) {t : fw_S} {x1 : Int32} {x2 : Int32} {y3 : Int64} {x5 : Int32} {H : Heap} {locs : List Loc} {ls : Array Slot} (hf : b_M_X11_told__0_0  t x1 x2 y3 x5 = some (r, u)) (hP : va_P D classes (WM ca a t) H) (hS : va_S A s.heap H locs) (hl : lv_has ls 6 [(0, .ref (a 0)), (1, .int x1), (2, .int x2), (3, .long y3), (5, .int x5)]) : W p l e rm_M_X11_told__0 s m args below meth c H locs 0 0 Q (F0 m 0 ls []) := by
  obtain ⟨hx, hb, hml, hown, hts, hN, hK, hD, hA⟩ := id C
  have hf : (if (st_I t 0) = 0 then b_M_X11_told__0_7 t x1 x2 y3 x5 else b_M_X11_told__0_25 t x1 x2 y3 x5) = some (r, u) := hf
  refine lv_aload_n hx hb dX11_told_0 rfl (lv_at hl 0 rfl) ?_
  refine va_get (D := D) (ci := 11) (v := .int (st_I t 0)) (C := RX11) (T := TX11) (N := 76) hx hb hts inX11 hown hK hP 0 (heM_0 ca a t) rfl 22 (by decide) (hts _ kw_1214) (fun _ h9 => h9) rfl dX11_told_1 ?_
  refine lv_if_ne (tgt := 25) hx hb dX11_told_4 (by decide) (fun h_4 => ?_) (fun h_4 => ?_)
  · have hf := fb_f h_4 hf
    exact w_M_X11_told__0_25 C hr hf hP hS (lv_sub hl [0, 1, 2, 3, 4] rfl)
  · have hf := fb_t h_4 hf
    exact w_M_X11_told__0_7 C hr hf hP hS (lv_sub hl [0, 1, 2, 3, 4] rfl)
set_option maxRecDepth 20000 in
theorem c_M_X11_told__0 {l : Launch} {D : va_G} {ca : Nat → ClassId} {a : Nat → Nat} {t : fw_S} {x1 : Int32} {x2 : Int32} {y3 : Int64} {x5 : Int32} {u : fw_S} {r : Int32} (hf : f_M_X11_told__0 t x1 x2 y3 x5 = some (r, u)) : MC (WM ca a) D (tyv ca) l yX11_told (.code yX11_told prog_13_method_42_code 6 (some .int) :: lw_gd) rm_M_X11_told__0 [.ref (a 0), .int x1, .int x2, .long y3, .int x5] (some (.int r)) t u := by
  refine fw_met (okM ca a) (by decide +kernel) rfl rfl (Nat.le_of_ble_eq_true rfl) ?_
  intro p e s m args below meth c A Q ls C hr hk hP hS hl hQ
  exact w_M_X11_told__0_0 C (fun _ => fw_ri C hr hk hQ) hf hP hS (lv_sub hl [0, 1, 2, 3, 4] rfl)
/-! ReactiveSheetModel.input(IJ)I ['m'] -/
abbrev rm_M_X11_input__0 : Room := { frames := 5, cells := 0, slots := 0, locals := 110 }
def b_M_X11_input__0_19  (t : fw_S) (z0 : Int32) : Option (Int32 × fw_S) := some (z0, t)
def b_M_X11_input__0_11  (t : fw_S) (x1 : Int32) (y2 : Int64) : Option (Int32 × fw_S) := fb_b (f_M_X11_told__0 t x1 ((1 : Int32)) y2 ((0 : Int32))) fun v_2 t_1 => (b_M_X11_input__0_19 t_1 v_2)
def b_M_X11_input__0_7  (t : fw_S)  : Option (Int32 × fw_S) := b_M_X11_input__0_19 t ((-1 : Int32))
def b_M_X11_input__0_0  (t : fw_S) (x1 : Int32) (y2 : Int64) : Option (Int32 × fw_S) := fb_b (f_M_X11_isCell t x1) fun v_2 t_1 => (if v_2 = 0 then b_M_X11_input__0_7 t_1 else b_M_X11_input__0_11 t_1 x1 y2)
def f_M_X11_input__0 (t : fw_S) (x1 : Int32) (y2 : Int64) : Option (Int32 × fw_S) := b_M_X11_input__0_0 t x1 y2
set_option maxRecDepth 20000 in
theorem w_M_X11_input__0_19 {p : Program} {l : Launch} {e : Env} {s : State} {m : MethodId} {args : Array Value} {below : List Frame} {meth : Method} {c : Code} {A : Nat → Prop} {Q : State → Prop} {D : va_G} {ca : Nat → ClassId} {a : Nat → Nat} {u : fw_S} {r : Int32}  (C : CX (WM ca a) D (tyv ca) p s m args c A prog_13_method_43_code 4 RX11) (hr : True → RX (WM ca a) D p l e rm_M_X11_input__0 s m args below meth c A prog_13_method_43_code Q .ireturn [.int r] u) {t : fw_S} {z0 : Int32} {H : Heap} {locs : List Loc} {ls : Array Slot} (hf : b_M_X11_input__0_19  t z0 = some (r, u)) (hP : va_P D classes (WM ca a t) H) (hS : va_S A s.heap H locs) (hl : lv_has ls 4 []) : W p l e rm_M_X11_input__0 s m args below meth c H locs 0 0 Q (F0 m 19 ls [.int z0]) := by
  obtain ⟨hx, hb, hml, hown, hts, hN, hK, hD, hA⟩ := id C
  have hf : (some (z0, t)) = some (r, u) := hf
  obtain ⟨e_19, e2_19⟩ := fb_e hf
  subst e_19; subst e2_19
  exact hr trivial _ _ _ _ hP hS dX11_input_19
set_option maxRecDepth 20000 in
theorem w_M_X11_input__0_11 {p : Program} {l : Launch} {e : Env} {s : State} {m : MethodId} {args : Array Value} {below : List Frame} {meth : Method} {c : Code} {A : Nat → Prop} {Q : State → Prop} {D : va_G} {ca : Nat → ClassId} {a : Nat → Nat} {u : fw_S} {r : Int32}  (C : CX (WM ca a) D (tyv ca) p s m args c A prog_13_method_43_code 4 RX11) (hr : True → RX (WM ca a) D p l e rm_M_X11_input__0 s m args below meth c A prog_13_method_43_code Q .ireturn [.int r] u) {t : fw_S} {x1 : Int32} {y2 : Int64} {H : Heap} {locs : List Loc} {ls : Array Slot} (hf : b_M_X11_input__0_11  t x1 y2 = some (r, u)) (hP : va_P D classes (WM ca a t) H) (hS : va_S A s.heap H locs) (hl : lv_has ls 4 [(0, .ref (a 0)), (1, .int x1), (2, .long y2)]) : W p l e rm_M_X11_input__0 s m args below meth c H locs 0 0 Q (F0 m 11 ls []) := by
  obtain ⟨hx, hb, hml, hown, hts, hN, hK, hD, hA⟩ := id C
  have hf : (fb_b (f_M_X11_told__0 t x1 ((1 : Int32)) y2 ((0 : Int32))) fun v_2 t_1 => (b_M_X11_input__0_19 t_1 v_2)) = some (r, u) := hf
  refine lv_aload_n hx hb dX11_input_11 rfl (lv_at hl 0 rfl) ?_
  refine lv_iload_n hx hb dX11_input_12 rfl (lv_at hl 1 rfl) ?_
  refine lv_iconst (v := 1) hx hb dX11_input_13 (by decide) ?_
  refine lv_lload_n hx hb dX11_input_14 rfl (lv_at hl 2 rfl) ?_
  refine lv_iconst (v := 0) hx hb dX11_input_15 (by decide) ?_
  obtain ⟨v_2, t_1, g_16, hf⟩ := fb_bs hf
  refine fw_V1 (As := [.int x1, .int ((1 : Int32)), .long y2, .int ((0 : Int32))]) (rest := []) (n := 4) (q0 := 0) C (c_M_X11_told__0 (l := l) (D := D) (ca := ca) (a := a) g_16) kw_1440 kw_1442 kw_102 kw_1443 kw_44 hP hS hl (heM_0 ca a t) rfl rfl rfl (by decide) (by decide +kernel) ⟨Nat.le_of_ble_eq_true rfl, Nat.le_of_ble_eq_true rfl⟩ rfl rfl (Nat.le_of_ble_eq_true rfl) dX11_input_16 (fun H locs hP hS => ?_)
  refine W.eq (g2 := F0 m 19 ls [.int v_2]) rfl ?_
  exact w_M_X11_input__0_19 C hr hf hP hS (lv_sub hl [] rfl)
set_option maxRecDepth 20000 in
theorem w_M_X11_input__0_7 {p : Program} {l : Launch} {e : Env} {s : State} {m : MethodId} {args : Array Value} {below : List Frame} {meth : Method} {c : Code} {A : Nat → Prop} {Q : State → Prop} {D : va_G} {ca : Nat → ClassId} {a : Nat → Nat} {u : fw_S} {r : Int32}  (C : CX (WM ca a) D (tyv ca) p s m args c A prog_13_method_43_code 4 RX11) (hr : True → RX (WM ca a) D p l e rm_M_X11_input__0 s m args below meth c A prog_13_method_43_code Q .ireturn [.int r] u) {t : fw_S}  {H : Heap} {locs : List Loc} {ls : Array Slot} (hf : b_M_X11_input__0_7  t  = some (r, u)) (hP : va_P D classes (WM ca a t) H) (hS : va_S A s.heap H locs) (hl : lv_has ls 4 []) : W p l e rm_M_X11_input__0 s m args below meth c H locs 0 0 Q (F0 m 7 ls []) := by
  obtain ⟨hx, hb, hml, hown, hts, hN, hK, hD, hA⟩ := id C
  have hf : (b_M_X11_input__0_19 t ((-1 : Int32))) = some (r, u) := hf
  refine lv_iconst (v := (-1)) hx hb dX11_input_7 (by decide) ?_
  refine lv_goto (tgt := 19) hx hb dX11_input_8 (by decide) ?_
  exact w_M_X11_input__0_19 C hr hf hP hS (lv_sub hl [] rfl)
set_option maxRecDepth 20000 in
theorem w_M_X11_input__0_0 {p : Program} {l : Launch} {e : Env} {s : State} {m : MethodId} {args : Array Value} {below : List Frame} {meth : Method} {c : Code} {A : Nat → Prop} {Q : State → Prop} {D : va_G} {ca : Nat → ClassId} {a : Nat → Nat} {u : fw_S} {r : Int32}  (C : CX (WM ca a) D (tyv ca) p s m args c A prog_13_method_43_code 4 RX11) (hr : True → RX (WM ca a) D p l e rm_M_X11_input__0 s m args below meth c A prog_13_method_43_code Q .ireturn [.int r] u) {t : fw_S} {x1 : Int32} {y2 : Int64} {H : Heap} {locs : List Loc} {ls : Array Slot} (hf : b_M_X11_input__0_0  t x1 y2 = some (r, u)) (hP : va_P D classes (WM ca a t) H) (hS : va_S A s.heap H locs) (hl : lv_has ls 4 [(0, .ref (a 0)), (1, .int x1), (2, .long y2)]) : W p l e rm_M_X11_input__0 s m args below meth c H locs 0 0 Q (F0 m 0 ls []) := by
  obtain ⟨hx, hb, hml, hown, hts, hN, hK, hD, hA⟩ := id C
  have hf : (fb_b (f_M_X11_isCell t x1) fun v_2 t_1 => (if v_2 = 0 then b_M_X11_input__0_7 t_1 else b_M_X11_input__0_11 t_1 x1 y2)) = some (r, u) := hf
  refine lv_iload_n hx hb dX11_input_0 rfl (lv_at hl 1 rfl) ?_
  obtain ⟨v_2, t_1, g_1, hf⟩ := fb_bs hf
  refine fw_S1 (As := [.int x1]) (rest := []) (n := 1) C (c_M_X11_isCell (l := l) (D := D) (ca := ca) (a := a) g_1) kw_1437 kw_1438 kw_102 kw_1439 hP hS hl rfl rfl (by decide) (by decide +kernel) ⟨Nat.le_of_ble_eq_true rfl, Nat.le_of_ble_eq_true rfl⟩ rfl rfl (Nat.le_of_ble_eq_true rfl) dX11_input_1 (fun H locs hP hS => ?_)
  refine W.eq (g2 := F0 m 4 ls [.int v_2]) rfl ?_
  refine lv_if_ne (tgt := 11) hx hb dX11_input_4 (by decide) (fun h_4 => ?_) (fun h_4 => ?_)
  · have hf := fb_f h_4 hf
    exact w_M_X11_input__0_11 C hr hf hP hS (lv_sub hl [0, 1, 2] rfl)
  · have hf := fb_t h_4 hf
    exact w_M_X11_input__0_7 C hr hf hP hS (lv_sub hl [] rfl)
set_option maxRecDepth 20000 in
theorem c_M_X11_input__0 {l : Launch} {D : va_G} {ca : Nat → ClassId} {a : Nat → Nat} {t : fw_S} {x1 : Int32} {y2 : Int64} {u : fw_S} {r : Int32} (hf : f_M_X11_input__0 t x1 y2 = some (r, u)) : MC (WM ca a) D (tyv ca) l yX11_input (.code yX11_input prog_13_method_43_code 4 (some .int) :: lw_gd) rm_M_X11_input__0 [.ref (a 0), .int x1, .long y2] (some (.int r)) t u := by
  refine fw_met (okM ca a) (by decide +kernel) rfl rfl (Nat.le_of_ble_eq_true rfl) ?_
  intro p e s m args below meth c A Q ls C hr hk hP hS hl hQ
  exact w_M_X11_input__0_0 C (fun _ => fw_ri C hr hk hQ) hf hP hS (lv_sub hl [0, 1, 2] rfl)
/-! ReactiveSheetModel.isFigure()Z ['m'] -/
abbrev rm_M_X11_isFigure__0 : Room := { frames := 0, cells := 0, slots := 0, locals := 0 }
def b_M_X11_isFigure__0_44  (t : fw_S) (z0 : Int32) : Option (Int32 × fw_S) := fb_g (z0 = 0 ∨ z0 = 1) (some (z0, t))
def b_M_X11_isFigure__0_43  (t : fw_S)  : Option (Int32 × fw_S) := b_M_X11_isFigure__0_44 t ((0 : Int32))
def b_M_X11_isFigure__0_39  (t : fw_S)  : Option (Int32 × fw_S) := b_M_X11_isFigure__0_44 t ((1 : Int32))
def b_M_X11_isFigure__0_25  (t : fw_S)  : Option (Int32 × fw_S) := fb_g (¬ ((st_I t 7) < 0 ∨ 120 ≤ (st_I t 7).toNatClampNeg)) (if ((57 : Int32)) < (st_F t 29 (st_I t 7).toNatClampNeg) then b_M_X11_isFigure__0_43 t else b_M_X11_isFigure__0_39 t)
def b_M_X11_isFigure__0_11  (t : fw_S)  : Option (Int32 × fw_S) := fb_g (¬ ((st_I t 7) < 0 ∨ 120 ≤ (st_I t 7).toNatClampNeg)) (if (st_F t 29 (st_I t 7).toNatClampNeg) < ((48 : Int32)) then b_M_X11_isFigure__0_43 t else b_M_X11_isFigure__0_25 t)
def b_M_X11_isFigure__0_0  (t : fw_S)  : Option (Int32 × fw_S) := if (st_I t 5) ≤ (st_I t 7) then b_M_X11_isFigure__0_43 t else b_M_X11_isFigure__0_11 t
def f_M_X11_isFigure__0 (t : fw_S)  : Option (Int32 × fw_S) := b_M_X11_isFigure__0_0 t 
set_option maxRecDepth 20000 in
theorem w_M_X11_isFigure__0_44 {p : Program} {l : Launch} {e : Env} {s : State} {m : MethodId} {args : Array Value} {below : List Frame} {meth : Method} {c : Code} {A : Nat → Prop} {Q : State → Prop} {D : va_G} {ca : Nat → ClassId} {a : Nat → Nat} {u : fw_S} {r : Int32}  (C : CX (WM ca a) D (tyv ca) p s m args c A prog_13_method_7_code 1 RX11) (hr : (r = 0 ∨ r = 1) → RX (WM ca a) D p l e rm_M_X11_isFigure__0 s m args below meth c A prog_13_method_7_code Q .ireturn [.int r] u) {t : fw_S} {z0 : Int32} {H : Heap} {locs : List Loc} {ls : Array Slot} (hf : b_M_X11_isFigure__0_44  t z0 = some (r, u)) (hP : va_P D classes (WM ca a t) H) (hS : va_S A s.heap H locs) (hl : lv_has ls 1 []) : W p l e rm_M_X11_isFigure__0 s m args below meth c H locs 0 0 Q (F0 m 44 ls [.int z0]) := by
  obtain ⟨hx, hb, hml, hown, hts, hN, hK, hD, hA⟩ := id C
  have hf : (fb_g (z0 = 0 ∨ z0 = 1) (some (z0, t))) = some (r, u) := hf
  obtain ⟨h_44, hf⟩ := fb_if hf
  obtain ⟨e_44, e2_44⟩ := fb_e hf
  subst e_44; subst e2_44
  exact hr h_44 _ _ _ _ hP hS dX11_isFigure_44
set_option maxRecDepth 20000 in
theorem w_M_X11_isFigure__0_43 {p : Program} {l : Launch} {e : Env} {s : State} {m : MethodId} {args : Array Value} {below : List Frame} {meth : Method} {c : Code} {A : Nat → Prop} {Q : State → Prop} {D : va_G} {ca : Nat → ClassId} {a : Nat → Nat} {u : fw_S} {r : Int32}  (C : CX (WM ca a) D (tyv ca) p s m args c A prog_13_method_7_code 1 RX11) (hr : (r = 0 ∨ r = 1) → RX (WM ca a) D p l e rm_M_X11_isFigure__0 s m args below meth c A prog_13_method_7_code Q .ireturn [.int r] u) {t : fw_S}  {H : Heap} {locs : List Loc} {ls : Array Slot} (hf : b_M_X11_isFigure__0_43  t  = some (r, u)) (hP : va_P D classes (WM ca a t) H) (hS : va_S A s.heap H locs) (hl : lv_has ls 1 []) : W p l e rm_M_X11_isFigure__0 s m args below meth c H locs 0 0 Q (F0 m 43 ls []) := by
  obtain ⟨hx, hb, hml, hown, hts, hN, hK, hD, hA⟩ := id C
  have hf : (b_M_X11_isFigure__0_44 t ((0 : Int32))) = some (r, u) := hf
  refine lv_iconst (v := 0) hx hb dX11_isFigure_43 (by decide) ?_
  exact w_M_X11_isFigure__0_44 C hr hf hP hS (lv_sub hl [] rfl)
set_option maxRecDepth 20000 in
theorem w_M_X11_isFigure__0_39 {p : Program} {l : Launch} {e : Env} {s : State} {m : MethodId} {args : Array Value} {below : List Frame} {meth : Method} {c : Code} {A : Nat → Prop} {Q : State → Prop} {D : va_G} {ca : Nat → ClassId} {a : Nat → Nat} {u : fw_S} {r : Int32}  (C : CX (WM ca a) D (tyv ca) p s m args c A prog_13_method_7_code 1 RX11) (hr : (r = 0 ∨ r = 1) → RX (WM ca a) D p l e rm_M_X11_isFigure__0 s m args below meth c A prog_13_method_7_code Q .ireturn [.int r] u) {t : fw_S}  {H : Heap} {locs : List Loc} {ls : Array Slot} (hf : b_M_X11_isFigure__0_39  t  = some (r, u)) (hP : va_P D classes (WM ca a t) H) (hS : va_S A s.heap H locs) (hl : lv_has ls 1 []) : W p l e rm_M_X11_isFigure__0 s m args below meth c H locs 0 0 Q (F0 m 39 ls []) := by
  obtain ⟨hx, hb, hml, hown, hts, hN, hK, hD, hA⟩ := id C
  have hf : (b_M_X11_isFigure__0_44 t ((1 : Int32))) = some (r, u) := hf
  refine lv_iconst (v := 1) hx hb dX11_isFigure_39 (by decide) ?_
  refine lv_goto (tgt := 44) hx hb dX11_isFigure_40 (by decide) ?_
  exact w_M_X11_isFigure__0_44 C hr hf hP hS (lv_sub hl [] rfl)
set_option maxRecDepth 20000 in
theorem w_M_X11_isFigure__0_25 {p : Program} {l : Launch} {e : Env} {s : State} {m : MethodId} {args : Array Value} {below : List Frame} {meth : Method} {c : Code} {A : Nat → Prop} {Q : State → Prop} {D : va_G} {ca : Nat → ClassId} {a : Nat → Nat} {u : fw_S} {r : Int32}  (C : CX (WM ca a) D (tyv ca) p s m args c A prog_13_method_7_code 1 RX11) (hr : (r = 0 ∨ r = 1) → RX (WM ca a) D p l e rm_M_X11_isFigure__0 s m args below meth c A prog_13_method_7_code Q .ireturn [.int r] u) {t : fw_S}  {H : Heap} {locs : List Loc} {ls : Array Slot} (hf : b_M_X11_isFigure__0_25  t  = some (r, u)) (hP : va_P D classes (WM ca a t) H) (hS : va_S A s.heap H locs) (hl : lv_has ls 1 [(0, .ref (a 0))]) : W p l e rm_M_X11_isFigure__0 s m args below meth c H locs 0 0 Q (F0 m 25 ls []) := by
  obtain ⟨hx, hb, hml, hown, hts, hN, hK, hD, hA⟩ := id C
  have hf : (fb_g (¬ ((st_I t 7) < 0 ∨ 120 ≤ (st_I t 7).toNatClampNeg)) (if ((57 : Int32)) < (st_F t 29 (st_I t 7).toNatClampNeg) then b_M_X11_isFigure__0_43 t else b_M_X11_isFigure__0_39 t)) = some (r, u) := hf
  refine lv_aload_n hx hb dX11_isFigure_25 rfl (lv_at hl 0 rfl) ?_
  refine va_get (D := D) (ci := 11) (v := .ref (a 34)) (C := RX11) (T := TX11) (N := 76) hx hb hts inX11 hown hK hP 0 (heM_0 ca a t) rfl 38 (by decide) (hts _ kw_1230) (fun _ h9 => h9) rfl dX11_isFigure_26 ?_
  refine lv_aload_n hx hb dX11_isFigure_29 rfl (lv_at hl 0 rfl) ?_
  refine va_get (D := D) (ci := 11) (v := .int (st_I t 7)) (C := RX11) (T := TX11) (N := 76) hx hb hts inX11 hown hK hP 0 (heM_0 ca a t) rfl 42 (by decide) (hts _ kw_1234) (fun _ h9 => h9) rfl dX11_isFigure_30 ?_
  obtain ⟨h_33, hf⟩ := fb_if hf
  refine va_iald hx hb hK hP 34 0 (haM_34 ca a t) rfl h_33 dX11_isFigure_33 ?_
  refine lv_bipush (v := 57) hx hb dX11_isFigure_34 (by decide) ?_
  refine lv_icmp_gt (tgt := 43) hx hb dX11_isFigure_36 (by decide) (fun h_36 => ?_) (fun h_36 => ?_)
  · have hf := fb_t h_36 hf
    exact w_M_X11_isFigure__0_43 C hr hf hP hS (lv_sub hl [] rfl)
  · have hf := fb_f h_36 hf
    exact w_M_X11_isFigure__0_39 C hr hf hP hS (lv_sub hl [] rfl)
set_option maxRecDepth 20000 in
theorem w_M_X11_isFigure__0_11 {p : Program} {l : Launch} {e : Env} {s : State} {m : MethodId} {args : Array Value} {below : List Frame} {meth : Method} {c : Code} {A : Nat → Prop} {Q : State → Prop} {D : va_G} {ca : Nat → ClassId} {a : Nat → Nat} {u : fw_S} {r : Int32}  (C : CX (WM ca a) D (tyv ca) p s m args c A prog_13_method_7_code 1 RX11) (hr : (r = 0 ∨ r = 1) → RX (WM ca a) D p l e rm_M_X11_isFigure__0 s m args below meth c A prog_13_method_7_code Q .ireturn [.int r] u) {t : fw_S}  {H : Heap} {locs : List Loc} {ls : Array Slot} (hf : b_M_X11_isFigure__0_11  t  = some (r, u)) (hP : va_P D classes (WM ca a t) H) (hS : va_S A s.heap H locs) (hl : lv_has ls 1 [(0, .ref (a 0))]) : W p l e rm_M_X11_isFigure__0 s m args below meth c H locs 0 0 Q (F0 m 11 ls []) := by
  obtain ⟨hx, hb, hml, hown, hts, hN, hK, hD, hA⟩ := id C
  have hf : (fb_g (¬ ((st_I t 7) < 0 ∨ 120 ≤ (st_I t 7).toNatClampNeg)) (if (st_F t 29 (st_I t 7).toNatClampNeg) < ((48 : Int32)) then b_M_X11_isFigure__0_43 t else b_M_X11_isFigure__0_25 t)) = some (r, u) := hf
  refine lv_aload_n hx hb dX11_isFigure_11 rfl (lv_at hl 0 rfl) ?_
  refine va_get (D := D) (ci := 11) (v := .ref (a 34)) (C := RX11) (T := TX11) (N := 76) hx hb hts inX11 hown hK hP 0 (heM_0 ca a t) rfl 38 (by decide) (hts _ kw_1230) (fun _ h9 => h9) rfl dX11_isFigure_12 ?_
  refine lv_aload_n hx hb dX11_isFigure_15 rfl (lv_at hl 0 rfl) ?_
  refine va_get (D := D) (ci := 11) (v := .int (st_I t 7)) (C := RX11) (T := TX11) (N := 76) hx hb hts inX11 hown hK hP 0 (heM_0 ca a t) rfl 42 (by decide) (hts _ kw_1234) (fun _ h9 => h9) rfl dX11_isFigure_16 ?_
  obtain ⟨h_19, hf⟩ := fb_if hf
  refine va_iald hx hb hK hP 34 0 (haM_34 ca a t) rfl h_19 dX11_isFigure_19 ?_
  refine lv_bipush (v := 48) hx hb dX11_isFigure_20 (by decide) ?_
  refine lv_icmp_lt (tgt := 43) hx hb dX11_isFigure_22 (by decide) (fun h_22 => ?_) (fun h_22 => ?_)
  · have hf := fb_t h_22 hf
    exact w_M_X11_isFigure__0_43 C hr hf hP hS (lv_sub hl [] rfl)
  · have hf := fb_f h_22 hf
    exact w_M_X11_isFigure__0_25 C hr hf hP hS (lv_sub hl [0] rfl)
set_option maxRecDepth 20000 in
theorem w_M_X11_isFigure__0_0 {p : Program} {l : Launch} {e : Env} {s : State} {m : MethodId} {args : Array Value} {below : List Frame} {meth : Method} {c : Code} {A : Nat → Prop} {Q : State → Prop} {D : va_G} {ca : Nat → ClassId} {a : Nat → Nat} {u : fw_S} {r : Int32}  (C : CX (WM ca a) D (tyv ca) p s m args c A prog_13_method_7_code 1 RX11) (hr : (r = 0 ∨ r = 1) → RX (WM ca a) D p l e rm_M_X11_isFigure__0 s m args below meth c A prog_13_method_7_code Q .ireturn [.int r] u) {t : fw_S}  {H : Heap} {locs : List Loc} {ls : Array Slot} (hf : b_M_X11_isFigure__0_0  t  = some (r, u)) (hP : va_P D classes (WM ca a t) H) (hS : va_S A s.heap H locs) (hl : lv_has ls 1 [(0, .ref (a 0))]) : W p l e rm_M_X11_isFigure__0 s m args below meth c H locs 0 0 Q (F0 m 0 ls []) := by
  obtain ⟨hx, hb, hml, hown, hts, hN, hK, hD, hA⟩ := id C
  have hf : (if (st_I t 5) ≤ (st_I t 7) then b_M_X11_isFigure__0_43 t else b_M_X11_isFigure__0_11 t) = some (r, u) := hf
  refine lv_aload_n hx hb dX11_isFigure_0 rfl (lv_at hl 0 rfl) ?_
  refine va_get (D := D) (ci := 11) (v := .int (st_I t 7)) (C := RX11) (T := TX11) (N := 76) hx hb hts inX11 hown hK hP 0 (heM_0 ca a t) rfl 42 (by decide) (hts _ kw_1234) (fun _ h9 => h9) rfl dX11_isFigure_1 ?_
  refine lv_aload_n hx hb dX11_isFigure_4 rfl (lv_at hl 0 rfl) ?_
  refine va_get (D := D) (ci := 11) (v := .int (st_I t 5)) (C := RX11) (T := TX11) (N := 76) hx hb hts inX11 hown hK hP 0 (heM_0 ca a t) rfl 40 (by decide) (hts _ kw_1232) (fun _ h9 => h9) rfl dX11_isFigure_5 ?_
  refine lv_icmp_ge (tgt := 43) hx hb dX11_isFigure_8 (by decide) (fun h_8 => ?_) (fun h_8 => ?_)
  · have hf := fb_t h_8 hf
    exact w_M_X11_isFigure__0_43 C hr hf hP hS (lv_sub hl [] rfl)
  · have hf := fb_f h_8 hf
    exact w_M_X11_isFigure__0_11 C hr hf hP hS (lv_sub hl [0] rfl)
set_option maxRecDepth 20000 in
theorem c_M_X11_isFigure__0 {l : Launch} {D : va_G} {ca : Nat → ClassId} {a : Nat → Nat} {t : fw_S}  {u : fw_S} {r : Int32} (hf : f_M_X11_isFigure__0 t  = some (r, u)) : MC (WM ca a) D (tyv ca) l yX11_isFigure (.code yX11_isFigure prog_13_method_7_code 1 (some .boolean) :: lw_gd) rm_M_X11_isFigure__0 [.ref (a 0)] (some (.int r)) t u := by
  refine fw_met (okM ca a) (by decide +kernel) rfl rfl (Nat.le_of_ble_eq_true rfl) ?_
  intro p e s m args below meth c A Q ls C hr hk hP hS hl hQ
  exact w_M_X11_isFigure__0_0 C (fun hz => fw_rz C hr hk hz hQ) hf hP hS (lv_sub hl [0] rfl)
/-! ReactiveSheetModel.number(III)I ['m'] -/
abbrev rm_M_X11_number__0 : Room := { frames := 1, cells := 0, slots := 0, locals := 20 }
def b_M_X11_number__0_96  (t : fw_S) (x5 : Int32) : Option (Int32 × fw_S) := some (x5, t)
def b_M_X11_number__0_90  (t : fw_S) (x4 : Int32) (x5 : Int32) : Option (Int32 × fw_S) := fb_l (up_I t 8 x4) fun t_1 => (b_M_X11_number__0_96 t_1 x5)
def b_M_X11_number__0_84  (t : fw_S) (x3 : Int32) (x4 : Int32) (x5 : Int32) : Option (Int32 × fw_S) := if x5 ≤ x3 then b_M_X11_number__0_96 t x5 else b_M_X11_number__0_90 t x4 x5
def b_M_X11_number__0_78  (t : fw_S) (x2 : Int32) (x3 : Int32) (x4 : Int32) (x5 : Int32) : Option (Int32 × fw_S) := if x5 < x2 then b_M_X11_number__0_90 t x4 x5 else b_M_X11_number__0_84 t x3 x4 x5
def b_M_X11_number__0_69  (t : fw_S) (x2 : Int32) (x3 : Int32) (x4 : Int32) (x5 : Int32) : Option (Int32 × fw_S) := if (st_I t 7) = x4 then b_M_X11_number__0_90 t x4 x5 else b_M_X11_number__0_78 t x2 x3 x4 x5
def b_M_X11_number__0_36 (k18 : fw_S → Int32 → Int32 → Int32 → Int32 → Int32 → Option (Int32 × fw_S)) (t : fw_S) (x1 : Int32) (x2 : Int32) (x3 : Int32) (x4 : Int32) (x5 : Int32) : Option (Int32 × fw_S) := fb_g (¬ ((st_I t 7) < 0 ∨ 120 ≤ (st_I t 7).toNatClampNeg)) (fb_l (up_I t 7 ((st_I t 7) + ((1 : Int32)))) fun t_1 => (k18 t_1 x1 x2 x3 x4 (((((10 : Int32)) * x5) + (st_F t 29 (st_I t 7).toNatClampNeg)) - ((48 : Int32)))))
def b_M_X11_number__0_25 (k18 : fw_S → Int32 → Int32 → Int32 → Int32 → Int32 → Option (Int32 × fw_S)) (t : fw_S) (x1 : Int32) (x2 : Int32) (x3 : Int32) (x4 : Int32) (x5 : Int32) : Option (Int32 × fw_S) := if (x4 + x1) ≤ (st_I t 7) then b_M_X11_number__0_69 t x2 x3 x4 x5 else b_M_X11_number__0_36 k18 t x1 x2 x3 x4 x5
def b_M_X11_number__0_18  : Nat → (fw_S → Int32 → Int32 → Int32 → Int32 → Int32 → Option (Int32 × fw_S))
  | 0 => fun _ _ _ _ _ _ => none
  | n + 1 => fun t x1 x2 x3 x4 x5 => fb_b (f_M_X11_isFigure__0 t) fun v_2 t_1 => (if v_2 = 0 then b_M_X11_number__0_69 t_1 x2 x3 x4 x5 else b_M_X11_number__0_25 (b_M_X11_number__0_18 n) t_1 x1 x2 x3 x4 x5)
def b_M_X11_number__0_9  (t : fw_S) (x1 : Int32) (x2 : Int32) (x3 : Int32) : Option (Int32 × fw_S) := b_M_X11_number__0_18 3000 t x1 x2 x3 (st_I t 7) ((0 : Int32))
def b_M_X11_number__0_7  (t : fw_S)  : Option (Int32 × fw_S) := some ((0 : Int32), t)
def b_M_X11_number__0_0  (t : fw_S) (x1 : Int32) (x2 : Int32) (x3 : Int32) : Option (Int32 × fw_S) := if (st_I t 8) < 0 then b_M_X11_number__0_9 t x1 x2 x3 else b_M_X11_number__0_7 t
def f_M_X11_number__0 (t : fw_S) (x1 : Int32) (x2 : Int32) (x3 : Int32) : Option (Int32 × fw_S) := b_M_X11_number__0_0 t x1 x2 x3
set_option maxRecDepth 20000 in
theorem w_M_X11_number__0_96 {p : Program} {l : Launch} {e : Env} {s : State} {m : MethodId} {args : Array Value} {below : List Frame} {meth : Method} {c : Code} {A : Nat → Prop} {Q : State → Prop} {D : va_G} {ca : Nat → ClassId} {a : Nat → Nat} {u : fw_S} {r : Int32}  (C : CX (WM ca a) D (tyv ca) p s m args c A prog_13_method_10_code 6 RX11) (hr : True → RX (WM ca a) D p l e rm_M_X11_number__0 s m args below meth c A prog_13_method_10_code Q .ireturn [.int r] u) {t : fw_S} {x5 : Int32} {H : Heap} {locs : List Loc} {ls : Array Slot} (hf : b_M_X11_number__0_96  t x5 = some (r, u)) (hP : va_P D classes (WM ca a t) H) (hS : va_S A s.heap H locs) (hl : lv_has ls 6 [(5, .int x5)]) : W p l e rm_M_X11_number__0 s m args below meth c H locs 0 0 Q (F0 m 96 ls []) := by
  obtain ⟨hx, hb, hml, hown, hts, hN, hK, hD, hA⟩ := id C
  have hf : (some (x5, t)) = some (r, u) := hf
  refine lv_iload hx hb dX11_number_96 (lv_at hl 0 rfl) ?_
  obtain ⟨e_98, e2_98⟩ := fb_e hf
  subst e_98; subst e2_98
  exact hr trivial _ _ _ _ hP hS dX11_number_98
set_option maxRecDepth 20000 in
theorem w_M_X11_number__0_90 {p : Program} {l : Launch} {e : Env} {s : State} {m : MethodId} {args : Array Value} {below : List Frame} {meth : Method} {c : Code} {A : Nat → Prop} {Q : State → Prop} {D : va_G} {ca : Nat → ClassId} {a : Nat → Nat} {u : fw_S} {r : Int32}  (C : CX (WM ca a) D (tyv ca) p s m args c A prog_13_method_10_code 6 RX11) (hr : True → RX (WM ca a) D p l e rm_M_X11_number__0 s m args below meth c A prog_13_method_10_code Q .ireturn [.int r] u) {t : fw_S} {x4 : Int32} {x5 : Int32} {H : Heap} {locs : List Loc} {ls : Array Slot} (hf : b_M_X11_number__0_90  t x4 x5 = some (r, u)) (hP : va_P D classes (WM ca a t) H) (hS : va_S A s.heap H locs) (hl : lv_has ls 6 [(0, .ref (a 0)), (4, .int x4), (5, .int x5)]) : W p l e rm_M_X11_number__0 s m args below meth c H locs 0 0 Q (F0 m 90 ls []) := by
  obtain ⟨hx, hb, hml, hown, hts, hN, hK, hD, hA⟩ := id C
  have hf : (fb_l (up_I t 8 x4) fun t_1 => (b_M_X11_number__0_96 t_1 x5)) = some (r, u) := hf
  refine lv_aload_n hx hb dX11_number_90 rfl (lv_at hl 0 rfl) ?_
  refine lv_iload hx hb dX11_number_91 (lv_at hl 1 rfl) ?_
  refine va_put (D := D) (ci := 11) (v := .int x4) (ty := .int) (C := RX11) (T := TX11) (N := 76) hx hb hts inX11 tyX11 tyX11_ok nmX11 hown hK hP (hD t) hS 0 (heM_0 ca a t) rfl 43 (by decide) (hts _ kw_1235) (fun _ h9 => h9) rfl (by decide +kernel) rfl rfl (Nat.le_of_ble_eq_true rfl) dX11_number_93 (fun H locs hP _ hS => ?_)
  rw [suM_0_43] at hP
  obtain ⟨t_1, e_93, hf⟩ := fb_ls hf
  rw [← e_93] at hP
  exact w_M_X11_number__0_96 C hr hf hP hS (lv_sub hl [2] rfl)
set_option maxRecDepth 20000 in
theorem w_M_X11_number__0_84 {p : Program} {l : Launch} {e : Env} {s : State} {m : MethodId} {args : Array Value} {below : List Frame} {meth : Method} {c : Code} {A : Nat → Prop} {Q : State → Prop} {D : va_G} {ca : Nat → ClassId} {a : Nat → Nat} {u : fw_S} {r : Int32}  (C : CX (WM ca a) D (tyv ca) p s m args c A prog_13_method_10_code 6 RX11) (hr : True → RX (WM ca a) D p l e rm_M_X11_number__0 s m args below meth c A prog_13_method_10_code Q .ireturn [.int r] u) {t : fw_S} {x3 : Int32} {x4 : Int32} {x5 : Int32} {H : Heap} {locs : List Loc} {ls : Array Slot} (hf : b_M_X11_number__0_84  t x3 x4 x5 = some (r, u)) (hP : va_P D classes (WM ca a t) H) (hS : va_S A s.heap H locs) (hl : lv_has ls 6 [(0, .ref (a 0)), (3, .int x3), (4, .int x4), (5, .int x5)]) : W p l e rm_M_X11_number__0 s m args below meth c H locs 0 0 Q (F0 m 84 ls []) := by
  obtain ⟨hx, hb, hml, hown, hts, hN, hK, hD, hA⟩ := id C
  have hf : (if x5 ≤ x3 then b_M_X11_number__0_96 t x5 else b_M_X11_number__0_90 t x4 x5) = some (r, u) := hf
  refine lv_iload hx hb dX11_number_84 (lv_at hl 3 rfl) ?_
  refine lv_iload_n hx hb dX11_number_86 rfl (lv_at hl 1 rfl) ?_
  refine lv_icmp_le (tgt := 96) hx hb dX11_number_87 (by decide) (fun h_87 => ?_) (fun h_87 => ?_)
  · have hf := fb_t h_87 hf
    exact w_M_X11_number__0_96 C hr hf hP hS (lv_sub hl [3] rfl)
  · have hf := fb_f h_87 hf
    exact w_M_X11_number__0_90 C hr hf hP hS (lv_sub hl [0, 2, 3] rfl)
set_option maxRecDepth 20000 in
theorem w_M_X11_number__0_78 {p : Program} {l : Launch} {e : Env} {s : State} {m : MethodId} {args : Array Value} {below : List Frame} {meth : Method} {c : Code} {A : Nat → Prop} {Q : State → Prop} {D : va_G} {ca : Nat → ClassId} {a : Nat → Nat} {u : fw_S} {r : Int32}  (C : CX (WM ca a) D (tyv ca) p s m args c A prog_13_method_10_code 6 RX11) (hr : True → RX (WM ca a) D p l e rm_M_X11_number__0 s m args below meth c A prog_13_method_10_code Q .ireturn [.int r] u) {t : fw_S} {x2 : Int32} {x3 : Int32} {x4 : Int32} {x5 : Int32} {H : Heap} {locs : List Loc} {ls : Array Slot} (hf : b_M_X11_number__0_78  t x2 x3 x4 x5 = some (r, u)) (hP : va_P D classes (WM ca a t) H) (hS : va_S A s.heap H locs) (hl : lv_has ls 6 [(0, .ref (a 0)), (2, .int x2), (3, .int x3), (4, .int x4), (5, .int x5)]) : W p l e rm_M_X11_number__0 s m args below meth c H locs 0 0 Q (F0 m 78 ls []) := by
  obtain ⟨hx, hb, hml, hown, hts, hN, hK, hD, hA⟩ := id C
  have hf : (if x5 < x2 then b_M_X11_number__0_90 t x4 x5 else b_M_X11_number__0_84 t x3 x4 x5) = some (r, u) := hf
  refine lv_iload hx hb dX11_number_78 (lv_at hl 4 rfl) ?_
  refine lv_iload_n hx hb dX11_number_80 rfl (lv_at hl 1 rfl) ?_
  refine lv_icmp_lt (tgt := 90) hx hb dX11_number_81 (by decide) (fun h_81 => ?_) (fun h_81 => ?_)
  · have hf := fb_t h_81 hf
    exact w_M_X11_number__0_90 C hr hf hP hS (lv_sub hl [0, 3, 4] rfl)
  · have hf := fb_f h_81 hf
    exact w_M_X11_number__0_84 C hr hf hP hS (lv_sub hl [0, 2, 3, 4] rfl)
set_option maxRecDepth 20000 in
theorem w_M_X11_number__0_69 {p : Program} {l : Launch} {e : Env} {s : State} {m : MethodId} {args : Array Value} {below : List Frame} {meth : Method} {c : Code} {A : Nat → Prop} {Q : State → Prop} {D : va_G} {ca : Nat → ClassId} {a : Nat → Nat} {u : fw_S} {r : Int32}  (C : CX (WM ca a) D (tyv ca) p s m args c A prog_13_method_10_code 6 RX11) (hr : True → RX (WM ca a) D p l e rm_M_X11_number__0 s m args below meth c A prog_13_method_10_code Q .ireturn [.int r] u) {t : fw_S} {x2 : Int32} {x3 : Int32} {x4 : Int32} {x5 : Int32} {H : Heap} {locs : List Loc} {ls : Array Slot} (hf : b_M_X11_number__0_69  t x2 x3 x4 x5 = some (r, u)) (hP : va_P D classes (WM ca a t) H) (hS : va_S A s.heap H locs) (hl : lv_has ls 6 [(0, .ref (a 0)), (2, .int x2), (3, .int x3), (4, .int x4), (5, .int x5)]) : W p l e rm_M_X11_number__0 s m args below meth c H locs 0 0 Q (F0 m 69 ls []) := by
  obtain ⟨hx, hb, hml, hown, hts, hN, hK, hD, hA⟩ := id C
  have hf : (if (st_I t 7) = x4 then b_M_X11_number__0_90 t x4 x5 else b_M_X11_number__0_78 t x2 x3 x4 x5) = some (r, u) := hf
  refine lv_aload_n hx hb dX11_number_69 rfl (lv_at hl 0 rfl) ?_
  refine va_get (D := D) (ci := 11) (v := .int (st_I t 7)) (C := RX11) (T := TX11) (N := 76) hx hb hts inX11 hown hK hP 0 (heM_0 ca a t) rfl 42 (by decide) (hts _ kw_1234) (fun _ h9 => h9) rfl dX11_number_70 ?_
  refine lv_iload hx hb dX11_number_73 (lv_at hl 3 rfl) ?_
  refine lv_icmp_eq (tgt := 90) hx hb dX11_number_75 (by decide) (fun h_75 => ?_) (fun h_75 => ?_)
  · have hf := fb_t h_75 hf
    exact w_M_X11_number__0_90 C hr hf hP hS (lv_sub hl [0, 3, 4] rfl)
  · have hf := fb_f h_75 hf
    exact w_M_X11_number__0_78 C hr hf hP hS (lv_sub hl [0, 1, 2, 3, 4] rfl)
set_option maxRecDepth 20000 in
theorem w_M_X11_number__0_36 {p : Program} {l : Launch} {e : Env} {s : State} {m : MethodId} {args : Array Value} {below : List Frame} {meth : Method} {c : Code} {A : Nat → Prop} {Q : State → Prop} {D : va_G} {ca : Nat → ClassId} {a : Nat → Nat} {u : fw_S} {r : Int32} {k18 : fw_S → Int32 → Int32 → Int32 → Int32 → Int32 → Option (Int32 × fw_S)} (C : CX (WM ca a) D (tyv ca) p s m args c A prog_13_method_10_code 6 RX11) (hr : True → RX (WM ca a) D p l e rm_M_X11_number__0 s m args below meth c A prog_13_method_10_code Q .ireturn [.int r] u) (hk18 : ∀ (t : fw_S) (x1 : Int32) (x2 : Int32) (x3 : Int32) (x4 : Int32) (x5 : Int32) (H : Heap) (locs : List Loc) (ls : Array Slot), k18 t x1 x2 x3 x4 x5 = some (r, u) → va_P D classes (WM ca a t) H → va_S A s.heap H locs → lv_has ls 6 [(0, .ref (a 0)), (1, .int x1), (2, .int x2), (3, .int x3), (4, .int x4), (5, .int x5)] → W p l e rm_M_X11_number__0 s m args below meth c H locs 0 0 Q (F0 m 18 ls [])) {t : fw_S} {x1 : Int32} {x2 : Int32} {x3 : Int32} {x4 : Int32} {x5 : Int32} {H : Heap} {locs : List Loc} {ls : Array Slot} (hf : b_M_X11_number__0_36 k18 t x1 x2 x3 x4 x5 = some (r, u)) (hP : va_P D classes (WM ca a t) H) (hS : va_S A s.heap H locs) (hl : lv_has ls 6 [(0, .ref (a 0)), (1, .int x1), (2, .int x2), (3, .int x3), (4, .int x4), (5, .int x5)]) : W p l e rm_M_X11_number__0 s m args below meth c H locs 0 0 Q (F0 m 36 ls []) := by
  obtain ⟨hx, hb, hml, hown, hts, hN, hK, hD, hA⟩ := id C
  have hf : (fb_g (¬ ((st_I t 7) < 0 ∨ 120 ≤ (st_I t 7).toNatClampNeg)) (fb_l (up_I t 7 ((st_I t 7) + ((1 : Int32)))) fun t_1 => (k18 t_1 x1 x2 x3 x4 (((((10 : Int32)) * x5) + (st_F t 29 (st_I t 7).toNatClampNeg)) - ((48 : Int32)))))) = some (r, u) := hf
  refine lv_bipush (v := 10) hx hb dX11_number_36 (by decide) ?_
  refine lv_iload hx hb dX11_number_38 (lv_at hl 5 rfl) ?_
  refine lv_imul hx hb dX11_number_40 ?_
  refine lv_aload_n hx hb dX11_number_41 rfl (lv_at hl 0 rfl) ?_
  refine va_get (D := D) (ci := 11) (v := .ref (a 34)) (C := RX11) (T := TX11) (N := 76) hx hb hts inX11 hown hK hP 0 (heM_0 ca a t) rfl 38 (by decide) (hts _ kw_1230) (fun _ h9 => h9) rfl dX11_number_42 ?_
  refine lv_aload_n hx hb dX11_number_45 rfl (lv_at hl 0 rfl) ?_
  refine va_get (D := D) (ci := 11) (v := .int (st_I t 7)) (C := RX11) (T := TX11) (N := 76) hx hb hts inX11 hown hK hP 0 (heM_0 ca a t) rfl 42 (by decide) (hts _ kw_1234) (fun _ h9 => h9) rfl dX11_number_46 ?_
  obtain ⟨h_49, hf⟩ := fb_if hf
  refine va_iald hx hb hK hP 34 0 (haM_34 ca a t) rfl h_49 dX11_number_49 ?_
  refine lv_iadd hx hb dX11_number_50 ?_
  refine lv_bipush (v := 48) hx hb dX11_number_51 (by decide) ?_
  refine lv_isub hx hb dX11_number_53 ?_
  refine lv_istore (lv' := [(5, .int (((((10 : Int32)) * x5) + (st_F t 29 (st_I t 7).toNatClampNeg)) - ((48 : Int32)))), (0, .ref (a 0)), (1, .int x1), (2, .int x2), (3, .int x3), (4, .int x4)]) hx hb dX11_number_54 hl (by decide) rfl (fun ls hl => ?_)
  refine lv_aload_n hx hb dX11_number_56 rfl (lv_at hl 1 rfl) ?_
  refine lv_dup hx hb dX11_number_57 rfl ?_
  refine va_get (D := D) (ci := 11) (v := .int (st_I t 7)) (C := RX11) (T := TX11) (N := 76) hx hb hts inX11 hown hK hP 0 (heM_0 ca a t) rfl 42 (by decide) (hts _ kw_1234) (fun _ h9 => h9) rfl dX11_number_58 ?_
  refine lv_iconst (v := 1) hx hb dX11_number_61 (by decide) ?_
  refine lv_iadd hx hb dX11_number_62 ?_
  refine va_put (D := D) (ci := 11) (v := .int ((st_I t 7) + ((1 : Int32)))) (ty := .int) (C := RX11) (T := TX11) (N := 76) hx hb hts inX11 tyX11 tyX11_ok nmX11 hown hK hP (hD t) hS 0 (heM_0 ca a t) rfl 42 (by decide) (hts _ kw_1234) (fun _ h9 => h9) rfl (by decide +kernel) rfl rfl (Nat.le_of_ble_eq_true rfl) dX11_number_63 (fun H locs hP _ hS => ?_)
  rw [suM_0_42] at hP
  obtain ⟨t_1, e_63, hf⟩ := fb_ls hf
  rw [← e_63] at hP
  refine lv_goto (tgt := 18) hx hb dX11_number_66 (by decide) ?_
  exact hk18 t_1 x1 x2 x3 x4 (((((10 : Int32)) * x5) + (st_F t 29 (st_I t 7).toNatClampNeg)) - ((48 : Int32))) _ _ _ hf hP hS (lv_sub hl [1, 2, 3, 4, 5, 0] rfl)
set_option maxRecDepth 20000 in
theorem w_M_X11_number__0_25 {p : Program} {l : Launch} {e : Env} {s : State} {m : MethodId} {args : Array Value} {below : List Frame} {meth : Method} {c : Code} {A : Nat → Prop} {Q : State → Prop} {D : va_G} {ca : Nat → ClassId} {a : Nat → Nat} {u : fw_S} {r : Int32} {k18 : fw_S → Int32 → Int32 → Int32 → Int32 → Int32 → Option (Int32 × fw_S)} (C : CX (WM ca a) D (tyv ca) p s m args c A prog_13_method_10_code 6 RX11) (hr : True → RX (WM ca a) D p l e rm_M_X11_number__0 s m args below meth c A prog_13_method_10_code Q .ireturn [.int r] u) (hk18 : ∀ (t : fw_S) (x1 : Int32) (x2 : Int32) (x3 : Int32) (x4 : Int32) (x5 : Int32) (H : Heap) (locs : List Loc) (ls : Array Slot), k18 t x1 x2 x3 x4 x5 = some (r, u) → va_P D classes (WM ca a t) H → va_S A s.heap H locs → lv_has ls 6 [(0, .ref (a 0)), (1, .int x1), (2, .int x2), (3, .int x3), (4, .int x4), (5, .int x5)] → W p l e rm_M_X11_number__0 s m args below meth c H locs 0 0 Q (F0 m 18 ls [])) {t : fw_S} {x1 : Int32} {x2 : Int32} {x3 : Int32} {x4 : Int32} {x5 : Int32} {H : Heap} {locs : List Loc} {ls : Array Slot} (hf : b_M_X11_number__0_25 k18 t x1 x2 x3 x4 x5 = some (r, u)) (hP : va_P D classes (WM ca a t) H) (hS : va_S A s.heap H locs) (hl : lv_has ls 6 [(0, .ref (a 0)), (1, .int x1), (2, .int x2), (3, .int x3), (4, .int x4), (5, .int x5)]) : W p l e rm_M_X11_number__0 s m args below meth c H locs 0 0 Q (F0 m 25 ls []) := by
  obtain ⟨hx, hb, hml, hown, hts, hN, hK, hD, hA⟩ := id C
  have hf : (if (x4 + x1) ≤ (st_I t 7) then b_M_X11_number__0_69 t x2 x3 x4 x5 else b_M_X11_number__0_36 k18 t x1 x2 x3 x4 x5) = some (r, u) := hf
  refine lv_aload_n hx hb dX11_number_25 rfl (lv_at hl 0 rfl) ?_
  refine va_get (D := D) (ci := 11) (v := .int (st_I t 7)) (C := RX11) (T := TX11) (N := 76) hx hb hts inX11 hown hK hP 0 (heM_0 ca a t) rfl 42 (by decide) (hts _ kw_1234) (fun _ h9 => h9) rfl dX11_number_26 ?_
  refine lv_iload hx hb dX11_number_29 (lv_at hl 4 rfl) ?_
  refine lv_iload_n hx hb dX11_number_31 rfl (lv_at hl 1 rfl) ?_
  refine lv_iadd hx hb dX11_number_32 ?_
  refine lv_icmp_ge (tgt := 69) hx hb dX11_number_33 (by decide) (fun h_33 => ?_) (fun h_33 => ?_)
  · have hf := fb_t h_33 hf
    exact w_M_X11_number__0_69 C hr hf hP hS (lv_sub hl [0, 2, 3, 4, 5] rfl)
  · have hf := fb_f h_33 hf
    exact w_M_X11_number__0_36 C hr hk18 hf hP hS (lv_sub hl [0, 1, 2, 3, 4, 5] rfl)
set_option maxRecDepth 20000 in
theorem w_M_X11_number__0_18 {p : Program} {l : Launch} {e : Env} {s : State} {m : MethodId} {args : Array Value} {below : List Frame} {meth : Method} {c : Code} {A : Nat → Prop} {Q : State → Prop} {D : va_G} {ca : Nat → ClassId} {a : Nat → Nat} {u : fw_S} {r : Int32}  (C : CX (WM ca a) D (tyv ca) p s m args c A prog_13_method_10_code 6 RX11) (hr : True → RX (WM ca a) D p l e rm_M_X11_number__0 s m args below meth c A prog_13_method_10_code Q .ireturn [.int r] u) : ∀ (n : Nat) (t : fw_S) (x1 : Int32) (x2 : Int32) (x3 : Int32) (x4 : Int32) (x5 : Int32) (H : Heap) (locs : List Loc) (ls : Array Slot), b_M_X11_number__0_18  n t x1 x2 x3 x4 x5 = some (r, u) → va_P D classes (WM ca a t) H → va_S A s.heap H locs → lv_has ls 6 [(0, .ref (a 0)), (1, .int x1), (2, .int x2), (3, .int x3), (4, .int x4), (5, .int x5)] → W p l e rm_M_X11_number__0 s m args below meth c H locs 0 0 Q (F0 m 18 ls []) := by
  obtain ⟨hx, hb, hml, hown, hts, hN, hK, hD, hA⟩ := id C
  intro n
  induction n with
  | zero => intro t x1 x2 x3 x4 x5 H locs ls hf; cases hf
  | succ n hk18 =>
    intro t x1 x2 x3 x4 x5 H locs ls hf hP hS hl
    have hf : (fb_b (f_M_X11_isFigure__0 t) fun v_2 t_1 => (if v_2 = 0 then b_M_X11_number__0_69 t_1 x2 x3 x4 x5 else b_M_X11_number__0_25 (b_M_X11_number__0_18 n) t_1 x1 x2 x3 x4 x5)) = some (r, u) := hf
    refine lv_aload_n hx hb dX11_number_18 rfl (lv_at hl 0 rfl) ?_
    obtain ⟨v_2, t_1, g_19, hf⟩ := fb_bs hf
    refine fw_V1 (As := []) (rest := []) (n := 0) (q0 := 0) C (c_M_X11_isFigure__0 (l := l) (D := D) (ca := ca) (a := a) g_19) kw_1567 kw_1569 kw_102 kw_1570 kw_71 hP hS hl (heM_0 ca a t) rfl rfl rfl (by decide) (by decide +kernel) ⟨Nat.le_of_ble_eq_true rfl, Nat.le_of_ble_eq_true rfl⟩ rfl rfl (Nat.le_of_ble_eq_true rfl) dX11_number_19 (fun H locs hP hS => ?_)
    refine W.eq (g2 := F0 m 22 ls [.int v_2]) rfl ?_
    refine lv_if_eq (tgt := 69) hx hb dX11_number_22 (by decide) (fun h_22 => ?_) (fun h_22 => ?_)
    · have hf := fb_t h_22 hf
      exact w_M_X11_number__0_69 C hr hf hP hS (lv_sub hl [0, 2, 3, 4, 5] rfl)
    · have hf := fb_f h_22 hf
      exact w_M_X11_number__0_25 C hr hk18 hf hP hS (lv_sub hl [0, 1, 2, 3, 4, 5] rfl)
set_option maxRecDepth 20000 in
theorem w_M_X11_number__0_9 {p : Program} {l : Launch} {e : Env} {s : State} {m : MethodId} {args : Array Value} {below : List Frame} {meth : Method} {c : Code} {A : Nat → Prop} {Q : State → Prop} {D : va_G} {ca : Nat → ClassId} {a : Nat → Nat} {u : fw_S} {r : Int32}  (C : CX (WM ca a) D (tyv ca) p s m args c A prog_13_method_10_code 6 RX11) (hr : True → RX (WM ca a) D p l e rm_M_X11_number__0 s m args below meth c A prog_13_method_10_code Q .ireturn [.int r] u) {t : fw_S} {x1 : Int32} {x2 : Int32} {x3 : Int32} {H : Heap} {locs : List Loc} {ls : Array Slot} (hf : b_M_X11_number__0_9  t x1 x2 x3 = some (r, u)) (hP : va_P D classes (WM ca a t) H) (hS : va_S A s.heap H locs) (hl : lv_has ls 6 [(0, .ref (a 0)), (1, .int x1), (2, .int x2), (3, .int x3)]) : W p l e rm_M_X11_number__0 s m args below meth c H locs 0 0 Q (F0 m 9 ls []) := by
  obtain ⟨hx, hb, hml, hown, hts, hN, hK, hD, hA⟩ := id C
  have hf : (b_M_X11_number__0_18 3000 t x1 x2 x3 (st_I t 7) ((0 : Int32))) = some (r, u) := hf
  refine lv_aload_n hx hb dX11_number_9 rfl (lv_at hl 0 rfl) ?_
  refine va_get (D := D) (ci := 11) (v := .int (st_I t 7)) (C := RX11) (T := TX11) (N := 76) hx hb hts inX11 hown hK hP 0 (heM_0 ca a t) rfl 42 (by decide) (hts _ kw_1234) (fun _ h9 => h9) rfl dX11_number_10 ?_
  refine lv_istore (lv' := [(4, .int (st_I t 7)), (0, .ref (a 0)), (1, .int x1), (2, .int x2), (3, .int x3)]) hx hb dX11_number_13 hl (by decide) rfl (fun ls hl => ?_)
  refine lv_iconst (v := 0) hx hb dX11_number_15 (by decide) ?_
  refine lv_istore (lv' := [(5, .int ((0 : Int32))), (4, .int (st_I t 7)), (0, .ref (a 0)), (1, .int x1), (2, .int x2), (3, .int x3)]) hx hb dX11_number_16 hl (by decide) rfl (fun ls hl => ?_)
  exact w_M_X11_number__0_18 C hr 3000 t x1 x2 x3 (st_I t 7) ((0 : Int32)) _ _ _ hf hP hS (lv_sub hl [2, 3, 4, 5, 1, 0] rfl)
set_option maxRecDepth 20000 in
theorem w_M_X11_number__0_7 {p : Program} {l : Launch} {e : Env} {s : State} {m : MethodId} {args : Array Value} {below : List Frame} {meth : Method} {c : Code} {A : Nat → Prop} {Q : State → Prop} {D : va_G} {ca : Nat → ClassId} {a : Nat → Nat} {u : fw_S} {r : Int32}  (C : CX (WM ca a) D (tyv ca) p s m args c A prog_13_method_10_code 6 RX11) (hr : True → RX (WM ca a) D p l e rm_M_X11_number__0 s m args below meth c A prog_13_method_10_code Q .ireturn [.int r] u) {t : fw_S}  {H : Heap} {locs : List Loc} {ls : Array Slot} (hf : b_M_X11_number__0_7  t  = some (r, u)) (hP : va_P D classes (WM ca a t) H) (hS : va_S A s.heap H locs) (hl : lv_has ls 6 []) : W p l e rm_M_X11_number__0 s m args below meth c H locs 0 0 Q (F0 m 7 ls []) := by
  obtain ⟨hx, hb, hml, hown, hts, hN, hK, hD, hA⟩ := id C
  have hf : (some ((0 : Int32), t)) = some (r, u) := hf
  refine lv_iconst (v := 0) hx hb dX11_number_7 (by decide) ?_
  obtain ⟨e_8, e2_8⟩ := fb_e hf
  subst e_8; subst e2_8
  exact hr trivial _ _ _ _ hP hS dX11_number_8
set_option maxRecDepth 20000 in
theorem w_M_X11_number__0_0 {p : Program} {l : Launch} {e : Env} {s : State} {m : MethodId} {args : Array Value} {below : List Frame} {meth : Method} {c : Code} {A : Nat → Prop} {Q : State → Prop} {D : va_G} {ca : Nat → ClassId} {a : Nat → Nat} {u : fw_S} {r : Int32}  (C : CX (WM ca a) D (tyv ca) p s m args c A prog_13_method_10_code 6 RX11) (hr : True → RX (WM ca a) D p l e rm_M_X11_number__0 s m args below meth c A prog_13_method_10_code Q .ireturn [.int r] u) {t : fw_S} {x1 : Int32} {x2 : Int32} {x3 : Int32} {H : Heap} {locs : List Loc} {ls : Array Slot} (hf : b_M_X11_number__0_0  t x1 x2 x3 = some (r, u)) (hP : va_P D classes (WM ca a t) H) (hS : va_S A s.heap H locs) (hl : lv_has ls 6 [(0, .ref (a 0)), (1, .int x1), (2, .int x2), (3, .int x3)]) : W p l e rm_M_X11_number__0 s m args below meth c H locs 0 0 Q (F0 m 0 ls []) := by
  obtain ⟨hx, hb, hml, hown, hts, hN, hK, hD, hA⟩ := id C
  have hf : (if (st_I t 8) < 0 then b_M_X11_number__0_9 t x1 x2 x3 else b_M_X11_number__0_7 t) = some (r, u) := hf
  refine lv_aload_n hx hb dX11_number_0 rfl (lv_at hl 0 rfl) ?_
  refine va_get (D := D) (ci := 11) (v := .int (st_I t 8)) (C := RX11) (T := TX11) (N := 76) hx hb hts inX11 hown hK hP 0 (heM_0 ca a t) rfl 43 (by decide) (hts _ kw_1235) (fun _ h9 => h9) rfl dX11_number_1 ?_
  refine lv_if_lt (tgt := 9) hx hb dX11_number_4 (by decide) (fun h_4 => ?_) (fun h_4 => ?_)
  · have hf := fb_t h_4 hf
    exact w_M_X11_number__0_9 C hr hf hP hS (lv_sub hl [0, 1, 2, 3] rfl)
  · have hf := fb_f h_4 hf
    exact w_M_X11_number__0_7 C hr hf hP hS (lv_sub hl [] rfl)
set_option maxRecDepth 20000 in
theorem c_M_X11_number__0 {l : Launch} {D : va_G} {ca : Nat → ClassId} {a : Nat → Nat} {t : fw_S} {x1 : Int32} {x2 : Int32} {x3 : Int32} {u : fw_S} {r : Int32} (hf : f_M_X11_number__0 t x1 x2 x3 = some (r, u)) : MC (WM ca a) D (tyv ca) l yX11_number (.code yX11_number prog_13_method_10_code 6 (some .int) :: lw_gd) rm_M_X11_number__0 [.ref (a 0), .int x1, .int x2, .int x3] (some (.int r)) t u := by
  refine fw_met (okM ca a) (by decide +kernel) rfl rfl (Nat.le_of_ble_eq_true rfl) ?_
  intro p e s m args below meth c A Q ls C hr hk hP hS hl hQ
  exact w_M_X11_number__0_0 C (fun _ => fw_ri C hr hk hQ) hf hP hS (lv_sub hl [0, 1, 2, 3] rfl)
/-! ReactiveSheetModel.node(IIII)I ['m'] -/
abbrev rm_M_X11_node__0 : Room := { frames := 0, cells := 0, slots := 0, locals := 0 }
def b_M_X11_node__0_9  (t : fw_S) (x1 : Int32) (x2 : Int32) (x3 : Int32) (x4 : Int32) : Option (Int32 × fw_S) := fb_g (¬ (((st_I t 10) + (st_I t 11)) < 0 ∨ 16384 ≤ ((st_I t 10) + (st_I t 11)).toNatClampNeg)) (fb_l (up_F t 9 (upd (st_F t 9) ((st_I t 10) + (st_I t 11)).toNatClampNeg x1)) fun t_1 => (fb_g (¬ (((st_I t_1 10) + (st_I t_1 11)) < 0 ∨ 16384 ≤ ((st_I t_1 10) + (st_I t_1 11)).toNatClampNeg)) (fb_l (up_F t_1 10 (upd (st_F t_1 10) ((st_I t_1 10) + (st_I t_1 11)).toNatClampNeg x2)) fun t_2 => (fb_g (¬ (((st_I t_2 10) + (st_I t_2 11)) < 0 ∨ 16384 ≤ ((st_I t_2 10) + (st_I t_2 11)).toNatClampNeg)) (fb_l (up_F t_2 11 (upd (st_F t_2 11) ((st_I t_2 10) + (st_I t_2 11)).toNatClampNeg x3)) fun t_3 => (fb_g (¬ (((st_I t_3 10) + (st_I t_3 11)) < 0 ∨ 16384 ≤ ((st_I t_3 10) + (st_I t_3 11)).toNatClampNeg)) (fb_l (up_F t_3 12 (upd (st_F t_3 12) ((st_I t_3 10) + (st_I t_3 11)).toNatClampNeg x4)) fun t_4 => (fb_l (up_I t_4 11 ((st_I t_4 11) + ((1 : Int32)))) fun t_5 => (some ((st_I t_5 11) - ((1 : Int32)), t_5))))))))))
def b_M_X11_node__0_7  (t : fw_S)  : Option (Int32 × fw_S) := some ((0 : Int32), t)
def b_M_X11_node__0_0  (t : fw_S) (x1 : Int32) (x2 : Int32) (x3 : Int32) (x4 : Int32) : Option (Int32 × fw_S) := if (st_I t 8) < 0 then b_M_X11_node__0_9 t x1 x2 x3 x4 else b_M_X11_node__0_7 t
def f_M_X11_node__0 (t : fw_S) (x1 : Int32) (x2 : Int32) (x3 : Int32) (x4 : Int32) : Option (Int32 × fw_S) := b_M_X11_node__0_0 t x1 x2 x3 x4
set_option maxRecDepth 20000 in
theorem w_M_X11_node__0_9 {p : Program} {l : Launch} {e : Env} {s : State} {m : MethodId} {args : Array Value} {below : List Frame} {meth : Method} {c : Code} {A : Nat → Prop} {Q : State → Prop} {D : va_G} {ca : Nat → ClassId} {a : Nat → Nat} {u : fw_S} {r : Int32}  (C : CX (WM ca a) D (tyv ca) p s m args c A prog_13_method_11_code 5 RX11) (hr : True → RX (WM ca a) D p l e rm_M_X11_node__0 s m args below meth c A prog_13_method_11_code Q .ireturn [.int r] u) {t : fw_S} {x1 : Int32} {x2 : Int32} {x3 : Int32} {x4 : Int32} {H : Heap} {locs : List Loc} {ls : Array Slot} (hf : b_M_X11_node__0_9  t x1 x2 x3 x4 = some (r, u)) (hP : va_P D classes (WM ca a t) H) (hS : va_S A s.heap H locs) (hl : lv_has ls 5 [(0, .ref (a 0)), (1, .int x1), (2, .int x2), (3, .int x3), (4, .int x4)]) : W p l e rm_M_X11_node__0 s m args below meth c H locs 0 0 Q (F0 m 9 ls []) := by
  obtain ⟨hx, hb, hml, hown, hts, hN, hK, hD, hA⟩ := id C
  have hf : (fb_g (¬ (((st_I t 10) + (st_I t 11)) < 0 ∨ 16384 ≤ ((st_I t 10) + (st_I t 11)).toNatClampNeg)) (fb_l (up_F t 9 (upd (st_F t 9) ((st_I t 10) + (st_I t 11)).toNatClampNeg x1)) fun t_1 => (fb_g (¬ (((st_I t_1 10) + (st_I t_1 11)) < 0 ∨ 16384 ≤ ((st_I t_1 10) + (st_I t_1 11)).toNatClampNeg)) (fb_l (up_F t_1 10 (upd (st_F t_1 10) ((st_I t_1 10) + (st_I t_1 11)).toNatClampNeg x2)) fun t_2 => (fb_g (¬ (((st_I t_2 10) + (st_I t_2 11)) < 0 ∨ 16384 ≤ ((st_I t_2 10) + (st_I t_2 11)).toNatClampNeg)) (fb_l (up_F t_2 11 (upd (st_F t_2 11) ((st_I t_2 10) + (st_I t_2 11)).toNatClampNeg x3)) fun t_3 => (fb_g (¬ (((st_I t_3 10) + (st_I t_3 11)) < 0 ∨ 16384 ≤ ((st_I t_3 10) + (st_I t_3 11)).toNatClampNeg)) (fb_l (up_F t_3 12 (upd (st_F t_3 12) ((st_I t_3 10) + (st_I t_3 11)).toNatClampNeg x4)) fun t_4 => (fb_l (up_I t_4 11 ((st_I t_4 11) + ((1 : Int32)))) fun t_5 => (some ((st_I t_5 11) - ((1 : Int32)), t_5))))))))))) = some (r, u) := hf
  refine lv_aload_n hx hb dX11_node_9 rfl (lv_at hl 0 rfl) ?_
  refine va_get (D := D) (ci := 11) (v := .ref (a 11)) (C := RX11) (T := TX11) (N := 76) hx hb hts inX11 hown hK hP 0 (heM_0 ca a t) rfl 10 (by decide) (hts _ kw_1202) (fun _ h9 => h9) rfl dX11_node_10 ?_
  refine lv_aload_n hx hb dX11_node_13 rfl (lv_at hl 0 rfl) ?_
  refine va_get (D := D) (ci := 11) (v := .int (st_I t 10)) (C := RX11) (T := TX11) (N := 76) hx hb hts inX11 hown hK hP 0 (heM_0 ca a t) rfl 45 (by decide) (hts _ kw_1237) (fun _ h9 => h9) rfl dX11_node_14 ?_
  refine lv_aload_n hx hb dX11_node_17 rfl (lv_at hl 0 rfl) ?_
  refine va_get (D := D) (ci := 11) (v := .int (st_I t 11)) (C := RX11) (T := TX11) (N := 76) hx hb hts inX11 hown hK hP 0 (heM_0 ca a t) rfl 46 (by decide) (hts _ kw_1238) (fun _ h9 => h9) rfl dX11_node_18 ?_
  refine lv_iadd hx hb dX11_node_21 ?_
  refine lv_iload_n hx hb dX11_node_22 rfl (lv_at hl 1 rfl) ?_
  obtain ⟨h_23, hf⟩ := fb_if hf
  refine va_iast hx hb hK hP (hD t) hS 11 0 (haM_11 ca a t) rfl h_23 dX11_node_23 (fun H locs hP _ hS => ?_)
  rw [saM_11] at hP
  obtain ⟨t_1, e_23, hf⟩ := fb_ls hf
  rw [← e_23] at hP
  refine lv_aload_n hx hb dX11_node_24 rfl (lv_at hl 0 rfl) ?_
  refine va_get (D := D) (ci := 11) (v := .ref (a 12)) (C := RX11) (T := TX11) (N := 76) hx hb hts inX11 hown hK hP 0 (heM_0 ca a t_1) rfl 11 (by decide) (hts _ kw_1203) (fun _ h9 => h9) rfl dX11_node_25 ?_
  refine lv_aload_n hx hb dX11_node_28 rfl (lv_at hl 0 rfl) ?_
  refine va_get (D := D) (ci := 11) (v := .int (st_I t_1 10)) (C := RX11) (T := TX11) (N := 76) hx hb hts inX11 hown hK hP 0 (heM_0 ca a t_1) rfl 45 (by decide) (hts _ kw_1237) (fun _ h9 => h9) rfl dX11_node_29 ?_
  refine lv_aload_n hx hb dX11_node_32 rfl (lv_at hl 0 rfl) ?_
  refine va_get (D := D) (ci := 11) (v := .int (st_I t_1 11)) (C := RX11) (T := TX11) (N := 76) hx hb hts inX11 hown hK hP 0 (heM_0 ca a t_1) rfl 46 (by decide) (hts _ kw_1238) (fun _ h9 => h9) rfl dX11_node_33 ?_
  refine lv_iadd hx hb dX11_node_36 ?_
  refine lv_iload_n hx hb dX11_node_37 rfl (lv_at hl 2 rfl) ?_
  obtain ⟨h_38, hf⟩ := fb_if hf
  refine va_iast hx hb hK hP (hD t_1) hS 12 0 (haM_12 ca a t_1) rfl h_38 dX11_node_38 (fun H locs hP _ hS => ?_)
  rw [saM_12] at hP
  obtain ⟨t_2, e_38, hf⟩ := fb_ls hf
  rw [← e_38] at hP
  refine lv_aload_n hx hb dX11_node_39 rfl (lv_at hl 0 rfl) ?_
  refine va_get (D := D) (ci := 11) (v := .ref (a 13)) (C := RX11) (T := TX11) (N := 76) hx hb hts inX11 hown hK hP 0 (heM_0 ca a t_2) rfl 12 (by decide) (hts _ kw_1204) (fun _ h9 => h9) rfl dX11_node_40 ?_
  refine lv_aload_n hx hb dX11_node_43 rfl (lv_at hl 0 rfl) ?_
  refine va_get (D := D) (ci := 11) (v := .int (st_I t_2 10)) (C := RX11) (T := TX11) (N := 76) hx hb hts inX11 hown hK hP 0 (heM_0 ca a t_2) rfl 45 (by decide) (hts _ kw_1237) (fun _ h9 => h9) rfl dX11_node_44 ?_
  refine lv_aload_n hx hb dX11_node_47 rfl (lv_at hl 0 rfl) ?_
  refine va_get (D := D) (ci := 11) (v := .int (st_I t_2 11)) (C := RX11) (T := TX11) (N := 76) hx hb hts inX11 hown hK hP 0 (heM_0 ca a t_2) rfl 46 (by decide) (hts _ kw_1238) (fun _ h9 => h9) rfl dX11_node_48 ?_
  refine lv_iadd hx hb dX11_node_51 ?_
  refine lv_iload_n hx hb dX11_node_52 rfl (lv_at hl 3 rfl) ?_
  obtain ⟨h_53, hf⟩ := fb_if hf
  refine va_iast hx hb hK hP (hD t_2) hS 13 0 (haM_13 ca a t_2) rfl h_53 dX11_node_53 (fun H locs hP _ hS => ?_)
  rw [saM_13] at hP
  obtain ⟨t_3, e_53, hf⟩ := fb_ls hf
  rw [← e_53] at hP
  refine lv_aload_n hx hb dX11_node_54 rfl (lv_at hl 0 rfl) ?_
  refine va_get (D := D) (ci := 11) (v := .ref (a 14)) (C := RX11) (T := TX11) (N := 76) hx hb hts inX11 hown hK hP 0 (heM_0 ca a t_3) rfl 13 (by decide) (hts _ kw_1205) (fun _ h9 => h9) rfl dX11_node_55 ?_
  refine lv_aload_n hx hb dX11_node_58 rfl (lv_at hl 0 rfl) ?_
  refine va_get (D := D) (ci := 11) (v := .int (st_I t_3 10)) (C := RX11) (T := TX11) (N := 76) hx hb hts inX11 hown hK hP 0 (heM_0 ca a t_3) rfl 45 (by decide) (hts _ kw_1237) (fun _ h9 => h9) rfl dX11_node_59 ?_
  refine lv_aload_n hx hb dX11_node_62 rfl (lv_at hl 0 rfl) ?_
  refine va_get (D := D) (ci := 11) (v := .int (st_I t_3 11)) (C := RX11) (T := TX11) (N := 76) hx hb hts inX11 hown hK hP 0 (heM_0 ca a t_3) rfl 46 (by decide) (hts _ kw_1238) (fun _ h9 => h9) rfl dX11_node_63 ?_
  refine lv_iadd hx hb dX11_node_66 ?_
  refine lv_iload hx hb dX11_node_67 (lv_at hl 4 rfl) ?_
  obtain ⟨h_69, hf⟩ := fb_if hf
  refine va_iast hx hb hK hP (hD t_3) hS 14 0 (haM_14 ca a t_3) rfl h_69 dX11_node_69 (fun H locs hP _ hS => ?_)
  rw [saM_14] at hP
  obtain ⟨t_4, e_69, hf⟩ := fb_ls hf
  rw [← e_69] at hP
  refine lv_aload_n hx hb dX11_node_70 rfl (lv_at hl 0 rfl) ?_
  refine lv_dup hx hb dX11_node_71 rfl ?_
  refine va_get (D := D) (ci := 11) (v := .int (st_I t_4 11)) (C := RX11) (T := TX11) (N := 76) hx hb hts inX11 hown hK hP 0 (heM_0 ca a t_4) rfl 46 (by decide) (hts _ kw_1238) (fun _ h9 => h9) rfl dX11_node_72 ?_
  refine lv_iconst (v := 1) hx hb dX11_node_75 (by decide) ?_
  refine lv_iadd hx hb dX11_node_76 ?_
  refine va_put (D := D) (ci := 11) (v := .int ((st_I t_4 11) + ((1 : Int32)))) (ty := .int) (C := RX11) (T := TX11) (N := 76) hx hb hts inX11 tyX11 tyX11_ok nmX11 hown hK hP (hD t_4) hS 0 (heM_0 ca a t_4) rfl 46 (by decide) (hts _ kw_1238) (fun _ h9 => h9) rfl (by decide +kernel) rfl rfl (Nat.le_of_ble_eq_true rfl) dX11_node_77 (fun H locs hP _ hS => ?_)
  rw [suM_0_46] at hP
  obtain ⟨t_5, e_77, hf⟩ := fb_ls hf
  rw [← e_77] at hP
  refine lv_aload_n hx hb dX11_node_80 rfl (lv_at hl 0 rfl) ?_
  refine va_get (D := D) (ci := 11) (v := .int (st_I t_5 11)) (C := RX11) (T := TX11) (N := 76) hx hb hts inX11 hown hK hP 0 (heM_0 ca a t_5) rfl 46 (by decide) (hts _ kw_1238) (fun _ h9 => h9) rfl dX11_node_81 ?_
  refine lv_iconst (v := 1) hx hb dX11_node_84 (by decide) ?_
  refine lv_isub hx hb dX11_node_85 ?_
  obtain ⟨e_86, e2_86⟩ := fb_e hf
  subst e_86; subst e2_86
  exact hr trivial _ _ _ _ hP hS dX11_node_86
set_option maxRecDepth 20000 in
theorem w_M_X11_node__0_7 {p : Program} {l : Launch} {e : Env} {s : State} {m : MethodId} {args : Array Value} {below : List Frame} {meth : Method} {c : Code} {A : Nat → Prop} {Q : State → Prop} {D : va_G} {ca : Nat → ClassId} {a : Nat → Nat} {u : fw_S} {r : Int32}  (C : CX (WM ca a) D (tyv ca) p s m args c A prog_13_method_11_code 5 RX11) (hr : True → RX (WM ca a) D p l e rm_M_X11_node__0 s m args below meth c A prog_13_method_11_code Q .ireturn [.int r] u) {t : fw_S}  {H : Heap} {locs : List Loc} {ls : Array Slot} (hf : b_M_X11_node__0_7  t  = some (r, u)) (hP : va_P D classes (WM ca a t) H) (hS : va_S A s.heap H locs) (hl : lv_has ls 5 []) : W p l e rm_M_X11_node__0 s m args below meth c H locs 0 0 Q (F0 m 7 ls []) := by
  obtain ⟨hx, hb, hml, hown, hts, hN, hK, hD, hA⟩ := id C
  have hf : (some ((0 : Int32), t)) = some (r, u) := hf
  refine lv_iconst (v := 0) hx hb dX11_node_7 (by decide) ?_
  obtain ⟨e_8, e2_8⟩ := fb_e hf
  subst e_8; subst e2_8
  exact hr trivial _ _ _ _ hP hS dX11_node_8
set_option maxRecDepth 20000 in
theorem w_M_X11_node__0_0 {p : Program} {l : Launch} {e : Env} {s : State} {m : MethodId} {args : Array Value} {below : List Frame} {meth : Method} {c : Code} {A : Nat → Prop} {Q : State → Prop} {D : va_G} {ca : Nat → ClassId} {a : Nat → Nat} {u : fw_S} {r : Int32}  (C : CX (WM ca a) D (tyv ca) p s m args c A prog_13_method_11_code 5 RX11) (hr : True → RX (WM ca a) D p l e rm_M_X11_node__0 s m args below meth c A prog_13_method_11_code Q .ireturn [.int r] u) {t : fw_S} {x1 : Int32} {x2 : Int32} {x3 : Int32} {x4 : Int32} {H : Heap} {locs : List Loc} {ls : Array Slot} (hf : b_M_X11_node__0_0  t x1 x2 x3 x4 = some (r, u)) (hP : va_P D classes (WM ca a t) H) (hS : va_S A s.heap H locs) (hl : lv_has ls 5 [(0, .ref (a 0)), (1, .int x1), (2, .int x2), (3, .int x3), (4, .int x4)]) : W p l e rm_M_X11_node__0 s m args below meth c H locs 0 0 Q (F0 m 0 ls []) := by
  obtain ⟨hx, hb, hml, hown, hts, hN, hK, hD, hA⟩ := id C
  have hf : (if (st_I t 8) < 0 then b_M_X11_node__0_9 t x1 x2 x3 x4 else b_M_X11_node__0_7 t) = some (r, u) := hf
  refine lv_aload_n hx hb dX11_node_0 rfl (lv_at hl 0 rfl) ?_
  refine va_get (D := D) (ci := 11) (v := .int (st_I t 8)) (C := RX11) (T := TX11) (N := 76) hx hb hts inX11 hown hK hP 0 (heM_0 ca a t) rfl 43 (by decide) (hts _ kw_1235) (fun _ h9 => h9) rfl dX11_node_1 ?_
  refine lv_if_lt (tgt := 9) hx hb dX11_node_4 (by decide) (fun h_4 => ?_) (fun h_4 => ?_)
  · have hf := fb_t h_4 hf
    exact w_M_X11_node__0_9 C hr hf hP hS (lv_sub hl [0, 1, 2, 3, 4] rfl)
  · have hf := fb_f h_4 hf
    exact w_M_X11_node__0_7 C hr hf hP hS (lv_sub hl [] rfl)
set_option maxRecDepth 20000 in
theorem c_M_X11_node__0 {l : Launch} {D : va_G} {ca : Nat → ClassId} {a : Nat → Nat} {t : fw_S} {x1 : Int32} {x2 : Int32} {x3 : Int32} {x4 : Int32} {u : fw_S} {r : Int32} (hf : f_M_X11_node__0 t x1 x2 x3 x4 = some (r, u)) : MC (WM ca a) D (tyv ca) l yX11_node (.code yX11_node prog_13_method_11_code 5 (some .int) :: lw_gd) rm_M_X11_node__0 [.ref (a 0), .int x1, .int x2, .int x3, .int x4] (some (.int r)) t u := by
  refine fw_met (okM ca a) (by decide +kernel) rfl rfl (Nat.le_of_ble_eq_true rfl) ?_
  intro p e s m args below meth c A Q ls C hr hk hP hS hl hQ
  exact w_M_X11_node__0_0 C (fun _ => fw_ri C hr hk hQ) hf hP hS (lv_sub hl [0, 1, 2, 3, 4] rfl)
/-! ReactiveSheetModel.isAt(I)Z ['m'] -/
abbrev rm_M_X11_isAt__0 : Room := { frames := 0, cells := 0, slots := 0, locals := 0 }
def b_M_X11_isAt__0_36  (t : fw_S) (z0 : Int32) : Option (Int32 × fw_S) := fb_g (z0 = 0 ∨ z0 = 1) (some (z0, t))
def b_M_X11_isAt__0_35  (t : fw_S)  : Option (Int32 × fw_S) := b_M_X11_isAt__0_36 t ((0 : Int32))
def b_M_X11_isAt__0_31  (t : fw_S)  : Option (Int32 × fw_S) := b_M_X11_isAt__0_36 t ((1 : Int32))
def b_M_X11_isAt__0_18  (t : fw_S) (x1 : Int32) : Option (Int32 × fw_S) := fb_g (¬ ((st_I t 7) < 0 ∨ 120 ≤ (st_I t 7).toNatClampNeg)) (if (st_F t 29 (st_I t 7).toNatClampNeg) = x1 then b_M_X11_isAt__0_31 t else b_M_X11_isAt__0_35 t)
def b_M_X11_isAt__0_7  (t : fw_S) (x1 : Int32) : Option (Int32 × fw_S) := if (st_I t 5) ≤ (st_I t 7) then b_M_X11_isAt__0_35 t else b_M_X11_isAt__0_18 t x1
def b_M_X11_isAt__0_0  (t : fw_S) (x1 : Int32) : Option (Int32 × fw_S) := if 0 ≤ (st_I t 8) then b_M_X11_isAt__0_35 t else b_M_X11_isAt__0_7 t x1
def f_M_X11_isAt__0 (t : fw_S) (x1 : Int32) : Option (Int32 × fw_S) := b_M_X11_isAt__0_0 t x1
set_option maxRecDepth 20000 in
theorem w_M_X11_isAt__0_36 {p : Program} {l : Launch} {e : Env} {s : State} {m : MethodId} {args : Array Value} {below : List Frame} {meth : Method} {c : Code} {A : Nat → Prop} {Q : State → Prop} {D : va_G} {ca : Nat → ClassId} {a : Nat → Nat} {u : fw_S} {r : Int32}  (C : CX (WM ca a) D (tyv ca) p s m args c A prog_13_method_6_code 2 RX11) (hr : (r = 0 ∨ r = 1) → RX (WM ca a) D p l e rm_M_X11_isAt__0 s m args below meth c A prog_13_method_6_code Q .ireturn [.int r] u) {t : fw_S} {z0 : Int32} {H : Heap} {locs : List Loc} {ls : Array Slot} (hf : b_M_X11_isAt__0_36  t z0 = some (r, u)) (hP : va_P D classes (WM ca a t) H) (hS : va_S A s.heap H locs) (hl : lv_has ls 2 []) : W p l e rm_M_X11_isAt__0 s m args below meth c H locs 0 0 Q (F0 m 36 ls [.int z0]) := by
  obtain ⟨hx, hb, hml, hown, hts, hN, hK, hD, hA⟩ := id C
  have hf : (fb_g (z0 = 0 ∨ z0 = 1) (some (z0, t))) = some (r, u) := hf
  obtain ⟨h_36, hf⟩ := fb_if hf
  obtain ⟨e_36, e2_36⟩ := fb_e hf
  subst e_36; subst e2_36
  exact hr h_36 _ _ _ _ hP hS dX11_isAt_36
set_option maxRecDepth 20000 in
theorem w_M_X11_isAt__0_35 {p : Program} {l : Launch} {e : Env} {s : State} {m : MethodId} {args : Array Value} {below : List Frame} {meth : Method} {c : Code} {A : Nat → Prop} {Q : State → Prop} {D : va_G} {ca : Nat → ClassId} {a : Nat → Nat} {u : fw_S} {r : Int32}  (C : CX (WM ca a) D (tyv ca) p s m args c A prog_13_method_6_code 2 RX11) (hr : (r = 0 ∨ r = 1) → RX (WM ca a) D p l e rm_M_X11_isAt__0 s m args below meth c A prog_13_method_6_code Q .ireturn [.int r] u) {t : fw_S}  {H : Heap} {locs : List Loc} {ls : Array Slot} (hf : b_M_X11_isAt__0_35  t  = some (r, u)) (hP : va_P D classes (WM ca a t) H) (hS : va_S A s.heap H locs) (hl : lv_has ls 2 []) : W p l e rm_M_X11_isAt__0 s m args below meth c H locs 0 0 Q (F0 m 35 ls []) := by
  obtain ⟨hx, hb, hml, hown, hts, hN, hK, hD, hA⟩ := id C
  have hf : (b_M_X11_isAt__0_36 t ((0 : Int32))) = some (r, u) := hf
  refine lv_iconst (v := 0) hx hb dX11_isAt_35 (by decide) ?_
  exact w_M_X11_isAt__0_36 C hr hf hP hS (lv_sub hl [] rfl)
set_option maxRecDepth 20000 in
theorem w_M_X11_isAt__0_31 {p : Program} {l : Launch} {e : Env} {s : State} {m : MethodId} {args : Array Value} {below : List Frame} {meth : Method} {c : Code} {A : Nat → Prop} {Q : State → Prop} {D : va_G} {ca : Nat → ClassId} {a : Nat → Nat} {u : fw_S} {r : Int32}  (C : CX (WM ca a) D (tyv ca) p s m args c A prog_13_method_6_code 2 RX11) (hr : (r = 0 ∨ r = 1) → RX (WM ca a) D p l e rm_M_X11_isAt__0 s m args below meth c A prog_13_method_6_code Q .ireturn [.int r] u) {t : fw_S}  {H : Heap} {locs : List Loc} {ls : Array Slot} (hf : b_M_X11_isAt__0_31  t  = some (r, u)) (hP : va_P D classes (WM ca a t) H) (hS : va_S A s.heap H locs) (hl : lv_has ls 2 []) : W p l e rm_M_X11_isAt__0 s m args below meth c H locs 0 0 Q (F0 m 31 ls []) := by
  obtain ⟨hx, hb, hml, hown, hts, hN, hK, hD, hA⟩ := id C
  have hf : (b_M_X11_isAt__0_36 t ((1 : Int32))) = some (r, u) := hf
  refine lv_iconst (v := 1) hx hb dX11_isAt_31 (by decide) ?_
  refine lv_goto (tgt := 36) hx hb dX11_isAt_32 (by decide) ?_
  exact w_M_X11_isAt__0_36 C hr hf hP hS (lv_sub hl [] rfl)
set_option maxRecDepth 20000 in
theorem w_M_X11_isAt__0_18 {p : Program} {l : Launch} {e : Env} {s : State} {m : MethodId} {args : Array Value} {below : List Frame} {meth : Method} {c : Code} {A : Nat → Prop} {Q : State → Prop} {D : va_G} {ca : Nat → ClassId} {a : Nat → Nat} {u : fw_S} {r : Int32}  (C : CX (WM ca a) D (tyv ca) p s m args c A prog_13_method_6_code 2 RX11) (hr : (r = 0 ∨ r = 1) → RX (WM ca a) D p l e rm_M_X11_isAt__0 s m args below meth c A prog_13_method_6_code Q .ireturn [.int r] u) {t : fw_S} {x1 : Int32} {H : Heap} {locs : List Loc} {ls : Array Slot} (hf : b_M_X11_isAt__0_18  t x1 = some (r, u)) (hP : va_P D classes (WM ca a t) H) (hS : va_S A s.heap H locs) (hl : lv_has ls 2 [(0, .ref (a 0)), (1, .int x1)]) : W p l e rm_M_X11_isAt__0 s m args below meth c H locs 0 0 Q (F0 m 18 ls []) := by
  obtain ⟨hx, hb, hml, hown, hts, hN, hK, hD, hA⟩ := id C
  have hf : (fb_g (¬ ((st_I t 7) < 0 ∨ 120 ≤ (st_I t 7).toNatClampNeg)) (if (st_F t 29 (st_I t 7).toNatClampNeg) = x1 then b_M_X11_isAt__0_31 t else b_M_X11_isAt__0_35 t)) = some (r, u) := hf
  refine lv_aload_n hx hb dX11_isAt_18 rfl (lv_at hl 0 rfl) ?_
  refine va_get (D := D) (ci := 11) (v := .ref (a 34)) (C := RX11) (T := TX11) (N := 76) hx hb hts inX11 hown hK hP 0 (heM_0 ca a t) rfl 38 (by decide) (hts _ kw_1230) (fun _ h9 => h9) rfl dX11_isAt_19 ?_
  refine lv_aload_n hx hb dX11_isAt_22 rfl (lv_at hl 0 rfl) ?_
  refine va_get (D := D) (ci := 11) (v := .int (st_I t 7)) (C := RX11) (T := TX11) (N := 76) hx hb hts inX11 hown hK hP 0 (heM_0 ca a t) rfl 42 (by decide) (hts _ kw_1234) (fun _ h9 => h9) rfl dX11_isAt_23 ?_
  obtain ⟨h_26, hf⟩ := fb_if hf
  refine va_iald hx hb hK hP 34 0 (haM_34 ca a t) rfl h_26 dX11_isAt_26 ?_
  refine lv_iload_n hx hb dX11_isAt_27 rfl (lv_at hl 1 rfl) ?_
  refine lv_icmp_ne (tgt := 35) hx hb dX11_isAt_28 (by decide) (fun h_28 => ?_) (fun h_28 => ?_)
  · have hf := fb_f h_28 hf
    exact w_M_X11_isAt__0_35 C hr hf hP hS (lv_sub hl [] rfl)
  · have hf := fb_t h_28 hf
    exact w_M_X11_isAt__0_31 C hr hf hP hS (lv_sub hl [] rfl)
set_option maxRecDepth 20000 in
theorem w_M_X11_isAt__0_7 {p : Program} {l : Launch} {e : Env} {s : State} {m : MethodId} {args : Array Value} {below : List Frame} {meth : Method} {c : Code} {A : Nat → Prop} {Q : State → Prop} {D : va_G} {ca : Nat → ClassId} {a : Nat → Nat} {u : fw_S} {r : Int32}  (C : CX (WM ca a) D (tyv ca) p s m args c A prog_13_method_6_code 2 RX11) (hr : (r = 0 ∨ r = 1) → RX (WM ca a) D p l e rm_M_X11_isAt__0 s m args below meth c A prog_13_method_6_code Q .ireturn [.int r] u) {t : fw_S} {x1 : Int32} {H : Heap} {locs : List Loc} {ls : Array Slot} (hf : b_M_X11_isAt__0_7  t x1 = some (r, u)) (hP : va_P D classes (WM ca a t) H) (hS : va_S A s.heap H locs) (hl : lv_has ls 2 [(0, .ref (a 0)), (1, .int x1)]) : W p l e rm_M_X11_isAt__0 s m args below meth c H locs 0 0 Q (F0 m 7 ls []) := by
  obtain ⟨hx, hb, hml, hown, hts, hN, hK, hD, hA⟩ := id C
  have hf : (if (st_I t 5) ≤ (st_I t 7) then b_M_X11_isAt__0_35 t else b_M_X11_isAt__0_18 t x1) = some (r, u) := hf
  refine lv_aload_n hx hb dX11_isAt_7 rfl (lv_at hl 0 rfl) ?_
  refine va_get (D := D) (ci := 11) (v := .int (st_I t 7)) (C := RX11) (T := TX11) (N := 76) hx hb hts inX11 hown hK hP 0 (heM_0 ca a t) rfl 42 (by decide) (hts _ kw_1234) (fun _ h9 => h9) rfl dX11_isAt_8 ?_
  refine lv_aload_n hx hb dX11_isAt_11 rfl (lv_at hl 0 rfl) ?_
  refine va_get (D := D) (ci := 11) (v := .int (st_I t 5)) (C := RX11) (T := TX11) (N := 76) hx hb hts inX11 hown hK hP 0 (heM_0 ca a t) rfl 40 (by decide) (hts _ kw_1232) (fun _ h9 => h9) rfl dX11_isAt_12 ?_
  refine lv_icmp_ge (tgt := 35) hx hb dX11_isAt_15 (by decide) (fun h_15 => ?_) (fun h_15 => ?_)
  · have hf := fb_t h_15 hf
    exact w_M_X11_isAt__0_35 C hr hf hP hS (lv_sub hl [] rfl)
  · have hf := fb_f h_15 hf
    exact w_M_X11_isAt__0_18 C hr hf hP hS (lv_sub hl [0, 1] rfl)
set_option maxRecDepth 20000 in
theorem w_M_X11_isAt__0_0 {p : Program} {l : Launch} {e : Env} {s : State} {m : MethodId} {args : Array Value} {below : List Frame} {meth : Method} {c : Code} {A : Nat → Prop} {Q : State → Prop} {D : va_G} {ca : Nat → ClassId} {a : Nat → Nat} {u : fw_S} {r : Int32}  (C : CX (WM ca a) D (tyv ca) p s m args c A prog_13_method_6_code 2 RX11) (hr : (r = 0 ∨ r = 1) → RX (WM ca a) D p l e rm_M_X11_isAt__0 s m args below meth c A prog_13_method_6_code Q .ireturn [.int r] u) {t : fw_S} {x1 : Int32} {H : Heap} {locs : List Loc} {ls : Array Slot} (hf : b_M_X11_isAt__0_0  t x1 = some (r, u)) (hP : va_P D classes (WM ca a t) H) (hS : va_S A s.heap H locs) (hl : lv_has ls 2 [(0, .ref (a 0)), (1, .int x1)]) : W p l e rm_M_X11_isAt__0 s m args below meth c H locs 0 0 Q (F0 m 0 ls []) := by
  obtain ⟨hx, hb, hml, hown, hts, hN, hK, hD, hA⟩ := id C
  have hf : (if 0 ≤ (st_I t 8) then b_M_X11_isAt__0_35 t else b_M_X11_isAt__0_7 t x1) = some (r, u) := hf
  refine lv_aload_n hx hb dX11_isAt_0 rfl (lv_at hl 0 rfl) ?_
  refine va_get (D := D) (ci := 11) (v := .int (st_I t 8)) (C := RX11) (T := TX11) (N := 76) hx hb hts inX11 hown hK hP 0 (heM_0 ca a t) rfl 43 (by decide) (hts _ kw_1235) (fun _ h9 => h9) rfl dX11_isAt_1 ?_
  refine lv_if_ge (tgt := 35) hx hb dX11_isAt_4 (by decide) (fun h_4 => ?_) (fun h_4 => ?_)
  · have hf := fb_t h_4 hf
    exact w_M_X11_isAt__0_35 C hr hf hP hS (lv_sub hl [] rfl)
  · have hf := fb_f h_4 hf
    exact w_M_X11_isAt__0_7 C hr hf hP hS (lv_sub hl [0, 1] rfl)
set_option maxRecDepth 20000 in
theorem c_M_X11_isAt__0 {l : Launch} {D : va_G} {ca : Nat → ClassId} {a : Nat → Nat} {t : fw_S} {x1 : Int32} {u : fw_S} {r : Int32} (hf : f_M_X11_isAt__0 t x1 = some (r, u)) : MC (WM ca a) D (tyv ca) l yX11_isAt (.code yX11_isAt prog_13_method_6_code 2 (some .boolean) :: lw_gd) rm_M_X11_isAt__0 [.ref (a 0), .int x1] (some (.int r)) t u := by
  refine fw_met (okM ca a) (by decide +kernel) rfl rfl (Nat.le_of_ble_eq_true rfl) ?_
  intro p e s m args below meth c A Q ls C hr hk hP hS hl hQ
  exact w_M_X11_isAt__0_0 C (fun hz => fw_rz C hr hk hz hQ) hf hP hS (lv_sub hl [0, 1] rfl)
/-! ReactiveSheetModel.takes(I)Z ['m'] -/
abbrev rm_M_X11_takes__0 : Room := { frames := 1, cells := 0, slots := 0, locals := 21 }
def b_M_X11_takes__0_10  (t : fw_S)  : Option (Int32 × fw_S) := fb_l (up_I t 7 ((st_I t 7) + ((1 : Int32)))) fun t_1 => (fb_g (((1 : Int32)) = 0 ∨ ((1 : Int32)) = 1) (some ((1 : Int32), t_1)))
def b_M_X11_takes__0_8  (t : fw_S)  : Option (Int32 × fw_S) := fb_g (((0 : Int32)) = 0 ∨ ((0 : Int32)) = 1) (some ((0 : Int32), t))
def b_M_X11_takes__0_0  (t : fw_S) (x1 : Int32) : Option (Int32 × fw_S) := fb_b (f_M_X11_isAt__0 t x1) fun v_2 t_1 => (if v_2 = 0 then b_M_X11_takes__0_8 t_1 else b_M_X11_takes__0_10 t_1)
def f_M_X11_takes__0 (t : fw_S) (x1 : Int32) : Option (Int32 × fw_S) := b_M_X11_takes__0_0 t x1
set_option maxRecDepth 20000 in
theorem w_M_X11_takes__0_10 {p : Program} {l : Launch} {e : Env} {s : State} {m : MethodId} {args : Array Value} {below : List Frame} {meth : Method} {c : Code} {A : Nat → Prop} {Q : State → Prop} {D : va_G} {ca : Nat → ClassId} {a : Nat → Nat} {u : fw_S} {r : Int32}  (C : CX (WM ca a) D (tyv ca) p s m args c A prog_13_method_8_code 2 RX11) (hr : (r = 0 ∨ r = 1) → RX (WM ca a) D p l e rm_M_X11_takes__0 s m args below meth c A prog_13_method_8_code Q .ireturn [.int r] u) {t : fw_S}  {H : Heap} {locs : List Loc} {ls : Array Slot} (hf : b_M_X11_takes__0_10  t  = some (r, u)) (hP : va_P D classes (WM ca a t) H) (hS : va_S A s.heap H locs) (hl : lv_has ls 2 [(0, .ref (a 0))]) : W p l e rm_M_X11_takes__0 s m args below meth c H locs 0 0 Q (F0 m 10 ls []) := by
  obtain ⟨hx, hb, hml, hown, hts, hN, hK, hD, hA⟩ := id C
  have hf : (fb_l (up_I t 7 ((st_I t 7) + ((1 : Int32)))) fun t_1 => (fb_g (((1 : Int32)) = 0 ∨ ((1 : Int32)) = 1) (some ((1 : Int32), t_1)))) = some (r, u) := hf
  refine lv_aload_n hx hb dX11_takes_10 rfl (lv_at hl 0 rfl) ?_
  refine lv_dup hx hb dX11_takes_11 rfl ?_
  refine va_get (D := D) (ci := 11) (v := .int (st_I t 7)) (C := RX11) (T := TX11) (N := 76) hx hb hts inX11 hown hK hP 0 (heM_0 ca a t) rfl 42 (by decide) (hts _ kw_1234) (fun _ h9 => h9) rfl dX11_takes_12 ?_
  refine lv_iconst (v := 1) hx hb dX11_takes_15 (by decide) ?_
  refine lv_iadd hx hb dX11_takes_16 ?_
  refine va_put (D := D) (ci := 11) (v := .int ((st_I t 7) + ((1 : Int32)))) (ty := .int) (C := RX11) (T := TX11) (N := 76) hx hb hts inX11 tyX11 tyX11_ok nmX11 hown hK hP (hD t) hS 0 (heM_0 ca a t) rfl 42 (by decide) (hts _ kw_1234) (fun _ h9 => h9) rfl (by decide +kernel) rfl rfl (Nat.le_of_ble_eq_true rfl) dX11_takes_17 (fun H locs hP _ hS => ?_)
  rw [suM_0_42] at hP
  obtain ⟨t_1, e_17, hf⟩ := fb_ls hf
  rw [← e_17] at hP
  refine lv_iconst (v := 1) hx hb dX11_takes_20 (by decide) ?_
  obtain ⟨h_21, hf⟩ := fb_if hf
  obtain ⟨e_21, e2_21⟩ := fb_e hf
  subst e_21; subst e2_21
  exact hr h_21 _ _ _ _ hP hS dX11_takes_21
set_option maxRecDepth 20000 in
theorem w_M_X11_takes__0_8 {p : Program} {l : Launch} {e : Env} {s : State} {m : MethodId} {args : Array Value} {below : List Frame} {meth : Method} {c : Code} {A : Nat → Prop} {Q : State → Prop} {D : va_G} {ca : Nat → ClassId} {a : Nat → Nat} {u : fw_S} {r : Int32}  (C : CX (WM ca a) D (tyv ca) p s m args c A prog_13_method_8_code 2 RX11) (hr : (r = 0 ∨ r = 1) → RX (WM ca a) D p l e rm_M_X11_takes__0 s m args below meth c A prog_13_method_8_code Q .ireturn [.int r] u) {t : fw_S}  {H : Heap} {locs : List Loc} {ls : Array Slot} (hf : b_M_X11_takes__0_8  t  = some (r, u)) (hP : va_P D classes (WM ca a t) H) (hS : va_S A s.heap H locs) (hl : lv_has ls 2 []) : W p l e rm_M_X11_takes__0 s m args below meth c H locs 0 0 Q (F0 m 8 ls []) := by
  obtain ⟨hx, hb, hml, hown, hts, hN, hK, hD, hA⟩ := id C
  have hf : (fb_g (((0 : Int32)) = 0 ∨ ((0 : Int32)) = 1) (some ((0 : Int32), t))) = some (r, u) := hf
  refine lv_iconst (v := 0) hx hb dX11_takes_8 (by decide) ?_
  obtain ⟨h_9, hf⟩ := fb_if hf
  obtain ⟨e_9, e2_9⟩ := fb_e hf
  subst e_9; subst e2_9
  exact hr h_9 _ _ _ _ hP hS dX11_takes_9
set_option maxRecDepth 20000 in
theorem w_M_X11_takes__0_0 {p : Program} {l : Launch} {e : Env} {s : State} {m : MethodId} {args : Array Value} {below : List Frame} {meth : Method} {c : Code} {A : Nat → Prop} {Q : State → Prop} {D : va_G} {ca : Nat → ClassId} {a : Nat → Nat} {u : fw_S} {r : Int32}  (C : CX (WM ca a) D (tyv ca) p s m args c A prog_13_method_8_code 2 RX11) (hr : (r = 0 ∨ r = 1) → RX (WM ca a) D p l e rm_M_X11_takes__0 s m args below meth c A prog_13_method_8_code Q .ireturn [.int r] u) {t : fw_S} {x1 : Int32} {H : Heap} {locs : List Loc} {ls : Array Slot} (hf : b_M_X11_takes__0_0  t x1 = some (r, u)) (hP : va_P D classes (WM ca a t) H) (hS : va_S A s.heap H locs) (hl : lv_has ls 2 [(0, .ref (a 0)), (1, .int x1)]) : W p l e rm_M_X11_takes__0 s m args below meth c H locs 0 0 Q (F0 m 0 ls []) := by
  obtain ⟨hx, hb, hml, hown, hts, hN, hK, hD, hA⟩ := id C
  have hf : (fb_b (f_M_X11_isAt__0 t x1) fun v_2 t_1 => (if v_2 = 0 then b_M_X11_takes__0_8 t_1 else b_M_X11_takes__0_10 t_1)) = some (r, u) := hf
  refine lv_aload_n hx hb dX11_takes_0 rfl (lv_at hl 0 rfl) ?_
  refine lv_iload_n hx hb dX11_takes_1 rfl (lv_at hl 1 rfl) ?_
  obtain ⟨v_2, t_1, g_2, hf⟩ := fb_bs hf
  refine fw_V1 (As := [.int x1]) (rest := []) (n := 1) (q0 := 0) C (c_M_X11_isAt__0 (l := l) (D := D) (ca := ca) (a := a) g_2) kw_1584 kw_1586 kw_102 kw_1587 kw_75 hP hS hl (heM_0 ca a t) rfl rfl rfl (by decide) (by decide +kernel) ⟨Nat.le_of_ble_eq_true rfl, Nat.le_of_ble_eq_true rfl⟩ rfl rfl (Nat.le_of_ble_eq_true rfl) dX11_takes_2 (fun H locs hP hS => ?_)
  refine W.eq (g2 := F0 m 5 ls [.int v_2]) rfl ?_
  refine lv_if_ne (tgt := 10) hx hb dX11_takes_5 (by decide) (fun h_5 => ?_) (fun h_5 => ?_)
  · have hf := fb_f h_5 hf
    exact w_M_X11_takes__0_10 C hr hf hP hS (lv_sub hl [0] rfl)
  · have hf := fb_t h_5 hf
    exact w_M_X11_takes__0_8 C hr hf hP hS (lv_sub hl [] rfl)
set_option maxRecDepth 20000 in
theorem c_M_X11_takes__0 {l : Launch} {D : va_G} {ca : Nat → ClassId} {a : Nat → Nat} {t : fw_S} {x1 : Int32} {u : fw_S} {r : Int32} (hf : f_M_X11_takes__0 t x1 = some (r, u)) : MC (WM ca a) D (tyv ca) l yX11_takes (.code yX11_takes prog_13_method_8_code 2 (some .boolean) :: lw_gd) rm_M_X11_takes__0 [.ref (a 0), .int x1] (some (.int r)) t u := by
  refine fw_met (okM ca a) (by decide +kernel) rfl rfl (Nat.le_of_ble_eq_true rfl) ?_
  intro p e s m args below meth c A Q ls C hr hk hP hS hl hQ
  exact w_M_X11_takes__0_0 C (fun hz => fw_rz C hr hk hz hQ) hf hP hS (lv_sub hl [0, 1] rfl)
/-! ReactiveSheetModel.need(I)V ['m'] -/
abbrev rm_M_X11_need__0 : Room := { frames := 2, cells := 0, slots := 0, locals := 42 }
def b_M_X11_need__0_23  (t : fw_S)  : Option fw_S := some t
def b_M_X11_need__0_15  (t : fw_S)  : Option fw_S := fb_l (up_I t 8 (st_I t 7)) fun t_1 => (b_M_X11_need__0_23 t_1)
def b_M_X11_need__0_7  (t : fw_S) (x1 : Int32) : Option fw_S := fb_b (f_M_X11_takes__0 t x1) fun v_2 t_1 => (if v_2 = 0 then b_M_X11_need__0_15 t_1 else b_M_X11_need__0_23 t_1)
def b_M_X11_need__0_0  (t : fw_S) (x1 : Int32) : Option fw_S := if 0 ≤ (st_I t 8) then b_M_X11_need__0_23 t else b_M_X11_need__0_7 t x1
def f_M_X11_need__0 (t : fw_S) (x1 : Int32) : Option fw_S := b_M_X11_need__0_0 t x1
set_option maxRecDepth 20000 in
theorem w_M_X11_need__0_23 {p : Program} {l : Launch} {e : Env} {s : State} {m : MethodId} {args : Array Value} {below : List Frame} {meth : Method} {c : Code} {A : Nat → Prop} {Q : State → Prop} {D : va_G} {ca : Nat → ClassId} {a : Nat → Nat} {u : fw_S}  (C : CX (WM ca a) D (tyv ca) p s m args c A prog_13_method_9_code 2 RX11) (hr : True → RX (WM ca a) D p l e rm_M_X11_need__0 s m args below meth c A prog_13_method_9_code Q .return_ [] u) {t : fw_S}  {H : Heap} {locs : List Loc} {ls : Array Slot} (hf : b_M_X11_need__0_23  t  = some u) (hP : va_P D classes (WM ca a t) H) (hS : va_S A s.heap H locs) (hl : lv_has ls 2 []) : W p l e rm_M_X11_need__0 s m args below meth c H locs 0 0 Q (F0 m 23 ls []) := by
  obtain ⟨hx, hb, hml, hown, hts, hN, hK, hD, hA⟩ := id C
  have hf : (some t) = some u := hf
  have e_23 := fb_ev hf
  subst e_23
  exact hr trivial _ _ _ _ hP hS dX11_need_23
set_option maxRecDepth 20000 in
theorem w_M_X11_need__0_15 {p : Program} {l : Launch} {e : Env} {s : State} {m : MethodId} {args : Array Value} {below : List Frame} {meth : Method} {c : Code} {A : Nat → Prop} {Q : State → Prop} {D : va_G} {ca : Nat → ClassId} {a : Nat → Nat} {u : fw_S}  (C : CX (WM ca a) D (tyv ca) p s m args c A prog_13_method_9_code 2 RX11) (hr : True → RX (WM ca a) D p l e rm_M_X11_need__0 s m args below meth c A prog_13_method_9_code Q .return_ [] u) {t : fw_S}  {H : Heap} {locs : List Loc} {ls : Array Slot} (hf : b_M_X11_need__0_15  t  = some u) (hP : va_P D classes (WM ca a t) H) (hS : va_S A s.heap H locs) (hl : lv_has ls 2 [(0, .ref (a 0))]) : W p l e rm_M_X11_need__0 s m args below meth c H locs 0 0 Q (F0 m 15 ls []) := by
  obtain ⟨hx, hb, hml, hown, hts, hN, hK, hD, hA⟩ := id C
  have hf : (fb_l (up_I t 8 (st_I t 7)) fun t_1 => (b_M_X11_need__0_23 t_1)) = some u := hf
  refine lv_aload_n hx hb dX11_need_15 rfl (lv_at hl 0 rfl) ?_
  refine lv_aload_n hx hb dX11_need_16 rfl (lv_at hl 0 rfl) ?_
  refine va_get (D := D) (ci := 11) (v := .int (st_I t 7)) (C := RX11) (T := TX11) (N := 76) hx hb hts inX11 hown hK hP 0 (heM_0 ca a t) rfl 42 (by decide) (hts _ kw_1234) (fun _ h9 => h9) rfl dX11_need_17 ?_
  refine va_put (D := D) (ci := 11) (v := .int (st_I t 7)) (ty := .int) (C := RX11) (T := TX11) (N := 76) hx hb hts inX11 tyX11 tyX11_ok nmX11 hown hK hP (hD t) hS 0 (heM_0 ca a t) rfl 43 (by decide) (hts _ kw_1235) (fun _ h9 => h9) rfl (by decide +kernel) rfl rfl (Nat.le_of_ble_eq_true rfl) dX11_need_20 (fun H locs hP _ hS => ?_)
  rw [suM_0_43] at hP
  obtain ⟨t_1, e_20, hf⟩ := fb_ls hf
  rw [← e_20] at hP
  exact w_M_X11_need__0_23 C hr hf hP hS (lv_sub hl [] rfl)
set_option maxRecDepth 20000 in
theorem w_M_X11_need__0_7 {p : Program} {l : Launch} {e : Env} {s : State} {m : MethodId} {args : Array Value} {below : List Frame} {meth : Method} {c : Code} {A : Nat → Prop} {Q : State → Prop} {D : va_G} {ca : Nat → ClassId} {a : Nat → Nat} {u : fw_S}  (C : CX (WM ca a) D (tyv ca) p s m args c A prog_13_method_9_code 2 RX11) (hr : True → RX (WM ca a) D p l e rm_M_X11_need__0 s m args below meth c A prog_13_method_9_code Q .return_ [] u) {t : fw_S} {x1 : Int32} {H : Heap} {locs : List Loc} {ls : Array Slot} (hf : b_M_X11_need__0_7  t x1 = some u) (hP : va_P D classes (WM ca a t) H) (hS : va_S A s.heap H locs) (hl : lv_has ls 2 [(0, .ref (a 0)), (1, .int x1)]) : W p l e rm_M_X11_need__0 s m args below meth c H locs 0 0 Q (F0 m 7 ls []) := by
  obtain ⟨hx, hb, hml, hown, hts, hN, hK, hD, hA⟩ := id C
  have hf : (fb_b (f_M_X11_takes__0 t x1) fun v_2 t_1 => (if v_2 = 0 then b_M_X11_need__0_15 t_1 else b_M_X11_need__0_23 t_1)) = some u := hf
  refine lv_aload_n hx hb dX11_need_7 rfl (lv_at hl 0 rfl) ?_
  refine lv_iload_n hx hb dX11_need_8 rfl (lv_at hl 1 rfl) ?_
  obtain ⟨v_2, t_1, g_9, hf⟩ := fb_bs hf
  refine fw_V1 (As := [.int x1]) (rest := []) (n := 1) (q0 := 0) C (c_M_X11_takes__0 (l := l) (D := D) (ca := ca) (a := a) g_9) kw_1580 kw_1582 kw_102 kw_1583 kw_74 hP hS hl (heM_0 ca a t) rfl rfl rfl (by decide) (by decide +kernel) ⟨Nat.le_of_ble_eq_true rfl, Nat.le_of_ble_eq_true rfl⟩ rfl rfl (Nat.le_of_ble_eq_true rfl) dX11_need_9 (fun H locs hP hS => ?_)
  refine W.eq (g2 := F0 m 12 ls [.int v_2]) rfl ?_
  refine lv_if_ne (tgt := 23) hx hb dX11_need_12 (by decide) (fun h_12 => ?_) (fun h_12 => ?_)
  · have hf := fb_f h_12 hf
    exact w_M_X11_need__0_23 C hr hf hP hS (lv_sub hl [] rfl)
  · have hf := fb_t h_12 hf
    exact w_M_X11_need__0_15 C hr hf hP hS (lv_sub hl [0] rfl)
set_option maxRecDepth 20000 in
theorem w_M_X11_need__0_0 {p : Program} {l : Launch} {e : Env} {s : State} {m : MethodId} {args : Array Value} {below : List Frame} {meth : Method} {c : Code} {A : Nat → Prop} {Q : State → Prop} {D : va_G} {ca : Nat → ClassId} {a : Nat → Nat} {u : fw_S}  (C : CX (WM ca a) D (tyv ca) p s m args c A prog_13_method_9_code 2 RX11) (hr : True → RX (WM ca a) D p l e rm_M_X11_need__0 s m args below meth c A prog_13_method_9_code Q .return_ [] u) {t : fw_S} {x1 : Int32} {H : Heap} {locs : List Loc} {ls : Array Slot} (hf : b_M_X11_need__0_0  t x1 = some u) (hP : va_P D classes (WM ca a t) H) (hS : va_S A s.heap H locs) (hl : lv_has ls 2 [(0, .ref (a 0)), (1, .int x1)]) : W p l e rm_M_X11_need__0 s m args below meth c H locs 0 0 Q (F0 m 0 ls []) := by
  obtain ⟨hx, hb, hml, hown, hts, hN, hK, hD, hA⟩ := id C
  have hf : (if 0 ≤ (st_I t 8) then b_M_X11_need__0_23 t else b_M_X11_need__0_7 t x1) = some u := hf
  refine lv_aload_n hx hb dX11_need_0 rfl (lv_at hl 0 rfl) ?_
  refine va_get (D := D) (ci := 11) (v := .int (st_I t 8)) (C := RX11) (T := TX11) (N := 76) hx hb hts inX11 hown hK hP 0 (heM_0 ca a t) rfl 43 (by decide) (hts _ kw_1235) (fun _ h9 => h9) rfl dX11_need_1 ?_
  refine lv_if_ge (tgt := 23) hx hb dX11_need_4 (by decide) (fun h_4 => ?_) (fun h_4 => ?_)
  · have hf := fb_t h_4 hf
    exact w_M_X11_need__0_23 C hr hf hP hS (lv_sub hl [] rfl)
  · have hf := fb_f h_4 hf
    exact w_M_X11_need__0_7 C hr hf hP hS (lv_sub hl [0, 1] rfl)
set_option maxRecDepth 20000 in
theorem c_M_X11_need__0 {l : Launch} {D : va_G} {ca : Nat → ClassId} {a : Nat → Nat} {t : fw_S} {x1 : Int32} {u : fw_S} (hf : f_M_X11_need__0 t x1 = some u) : MC (WM ca a) D (tyv ca) l yX11_need (.code yX11_need prog_13_method_9_code 2 none :: lw_gd) rm_M_X11_need__0 [.ref (a 0), .int x1] none t u := by
  refine fw_met (okM ca a) (by decide +kernel) rfl rfl (Nat.le_of_ble_eq_true rfl) ?_
  intro p e s m args below meth c A Q ls C hr hk hP hS hl hQ
  exact w_M_X11_need__0_0 C (fun _ => fw_rv C hr hk hQ) hf hP hS (lv_sub hl [0, 1] rfl)
/-! ReactiveSheetModel.readF()I ['m'] -/
abbrev rm_M_X11_readF__0 : Room := { frames := 3, cells := 0, slots := 0, locals := 63 }
def b_M_X11_readF__0_237  (t : fw_S) (x1 : Int32) : Option (Int32 × fw_S) := fb_v (f_M_X11_need__0 t ((40 : Int32))) fun t_1 => (none)
def b_M_X11_readF__0_289  (t : fw_S) (x1 : Int32) : Option (Int32 × fw_S) := none
def b_M_X11_readF__0_231  (t : fw_S) (x1 : Int32) : Option (Int32 × fw_S) := if x1 = ((103 : Int32)) then b_M_X11_readF__0_237 t x1 else b_M_X11_readF__0_289 t x1
def b_M_X11_readF__0_225  (t : fw_S) (x1 : Int32) : Option (Int32 × fw_S) := if x1 = ((108 : Int32)) then b_M_X11_readF__0_237 t x1 else b_M_X11_readF__0_231 t x1
def b_M_X11_readF__0_211  (t : fw_S)  : Option (Int32 × fw_S) := none
def b_M_X11_readF__0_183  (t : fw_S) (x1 : Int32) : Option (Int32 × fw_S) := fb_l (up_I t 7 ((st_I t 7) + ((1 : Int32)))) fun t_1 => (fb_l (up_I t_1 9 ((st_I t_1 9) + ((1 : Int32)))) fun t_2 => (if x1 = ((40 : Int32)) then b_M_X11_readF__0_211 t_2 else b_M_X11_readF__0_225 t_2 x1))
def b_M_X11_readF__0_173  (t : fw_S)  : Option (Int32 × fw_S) := fb_l (up_I t 8 (st_I t 7)) fun t_1 => (some ((0 : Int32), t_1))
def b_M_X11_readF__0_165  (t : fw_S) (x1 : Int32) : Option (Int32 × fw_S) := if (st_I t 9) = ((3 : Int32)) then b_M_X11_readF__0_173 t else b_M_X11_readF__0_183 t x1
def b_M_X11_readF__0_159  (t : fw_S) (x1 : Int32) : Option (Int32 × fw_S) := if x1 = ((103 : Int32)) then b_M_X11_readF__0_165 t x1 else b_M_X11_readF__0_173 t
def b_M_X11_readF__0_153  (t : fw_S) (x1 : Int32) : Option (Int32 × fw_S) := if x1 = ((108 : Int32)) then b_M_X11_readF__0_165 t x1 else b_M_X11_readF__0_159 t x1
def b_M_X11_readF__0_147  (t : fw_S) (x1 : Int32) : Option (Int32 × fw_S) := if x1 = ((33 : Int32)) then b_M_X11_readF__0_165 t x1 else b_M_X11_readF__0_153 t x1
def b_M_X11_readF__0_141  (t : fw_S) (x1 : Int32) : Option (Int32 × fw_S) := if x1 = ((64 : Int32)) then b_M_X11_readF__0_165 t x1 else b_M_X11_readF__0_147 t x1
def b_M_X11_readF__0_135  (t : fw_S) (x1 : Int32) : Option (Int32 × fw_S) := if x1 = ((45 : Int32)) then b_M_X11_readF__0_165 t x1 else b_M_X11_readF__0_141 t x1
def b_M_X11_readF__0_128  (t : fw_S) (z0 : Int32) : Option (Int32 × fw_S) := if z0 = ((40 : Int32)) then b_M_X11_readF__0_165 t z0 else b_M_X11_readF__0_135 t z0
def b_M_X11_readF__0_127  (t : fw_S)  : Option (Int32 × fw_S) := b_M_X11_readF__0_128 t ((0 : Int32))
def b_M_X11_readF__0_115  (t : fw_S)  : Option (Int32 × fw_S) := fb_g (¬ ((st_I t 7) < 0 ∨ 120 ≤ (st_I t 7).toNatClampNeg)) (b_M_X11_readF__0_128 t (st_F t 29 (st_I t 7).toNatClampNeg))
def b_M_X11_readF__0_104  (t : fw_S)  : Option (Int32 × fw_S) := if (st_I t 5) ≤ (st_I t 7) then b_M_X11_readF__0_127 t else b_M_X11_readF__0_115 t
def b_M_X11_readF__0_71  (t : fw_S)  : Option (Int32 × fw_S) := fb_b (f_M_X11_number__0 t ((2 : Int32)) ((0 : Int32)) ((31 : Int32))) fun v_2 t_1 => (fb_v (f_M_X11_need__0 t_1 ((45 : Int32))) fun t_3 => (fb_b (f_M_X11_number__0 t_3 ((2 : Int32)) v_2 ((31 : Int32))) fun v_5 t_4 => (fb_b (f_M_X11_node__0 t_4 ((3 : Int32)) v_2 v_5 ((0 : Int32))) fun v_7 t_6 => (some (v_7, t_6)))))
def b_M_X11_readF__0_62  (t : fw_S)  : Option (Int32 × fw_S) := fb_b (f_M_X11_takes__0 t ((115 : Int32))) fun v_2 t_1 => (if v_2 = 0 then b_M_X11_readF__0_104 t_1 else b_M_X11_readF__0_71 t_1)
def b_M_X11_readF__0_44  (t : fw_S)  : Option (Int32 × fw_S) := fb_b (f_M_X11_number__0 t ((2 : Int32)) ((0 : Int32)) ((31 : Int32))) fun v_2 t_1 => (fb_b (f_M_X11_node__0 t_1 ((2 : Int32)) v_2 ((0 : Int32)) ((0 : Int32))) fun v_4 t_3 => (some (v_4, t_3)))
def b_M_X11_readF__0_35  (t : fw_S)  : Option (Int32 × fw_S) := fb_b (f_M_X11_takes__0 t ((35 : Int32))) fun v_2 t_1 => (if v_2 = 0 then b_M_X11_readF__0_62 t_1 else b_M_X11_readF__0_44 t_1)
def b_M_X11_readF__0_16  (t : fw_S)  : Option (Int32 × fw_S) := fb_b (f_M_X11_number__0 t ((9 : Int32)) ((0 : Int32)) ((999999999 : Int32))) fun v_2 t_1 => (fb_b (f_M_X11_node__0 t_1 ((1 : Int32)) v_2 ((0 : Int32)) ((0 : Int32))) fun v_4 t_3 => (some (v_4, t_3)))
def b_M_X11_readF__0_9  (t : fw_S)  : Option (Int32 × fw_S) := fb_b (f_M_X11_isFigure__0 t) fun v_2 t_1 => (if v_2 = 0 then b_M_X11_readF__0_35 t_1 else b_M_X11_readF__0_16 t_1)
def b_M_X11_readF__0_7  (t : fw_S)  : Option (Int32 × fw_S) := some ((0 : Int32), t)
def b_M_X11_readF__0_0  (t : fw_S)  : Option (Int32 × fw_S) := if (st_I t 8) < 0 then b_M_X11_readF__0_9 t else b_M_X11_readF__0_7 t
def f_M_X11_readF__0 (t : fw_S)  : Option (Int32 × fw_S) := b_M_X11_readF__0_0 t 
set_option maxRecDepth 20000 in
theorem w_M_X11_readF__0_237 {p : Program} {l : Launch} {e : Env} {s : State} {m : MethodId} {args : Array Value} {below : List Frame} {meth : Method} {c : Code} {A : Nat → Prop} {Q : State → Prop} {D : va_G} {ca : Nat → ClassId} {a : Nat → Nat} {u : fw_S} {r : Int32}  (C : CX (WM ca a) D (tyv ca) p s m args c A prog_13_method_16_code 4 RX11) (hr : True → RX (WM ca a) D p l e rm_M_X11_readF__0 s m args below meth c A prog_13_method_16_code Q .ireturn [.int r] u) {t : fw_S} {x1 : Int32} {H : Heap} {locs : List Loc} {ls : Array Slot} (hf : b_M_X11_readF__0_237  t x1 = some (r, u)) (hP : va_P D classes (WM ca a t) H) (hS : va_S A s.heap H locs) (hl : lv_has ls 4 [(0, .ref (a 0)), (1, .int x1)]) : W p l e rm_M_X11_readF__0 s m args below meth c H locs 0 0 Q (F0 m 237 ls []) := by
  obtain ⟨hx, hb, hml, hown, hts, hN, hK, hD, hA⟩ := id C
  have hf : (fb_v (f_M_X11_need__0 t ((40 : Int32))) fun t_1 => (none)) = some (r, u) := hf
  refine lv_aload_n hx hb dX11_readF_237 rfl (lv_at hl 0 rfl) ?_
  refine lv_bipush (v := 40) hx hb dX11_readF_238 (by decide) ?_
  obtain ⟨t_1, g_240, hf⟩ := fb_vs hf
  refine fw_V1 (As := [.int ((40 : Int32))]) (rest := []) (n := 1) (q0 := 0) C (c_M_X11_need__0 (l := l) (D := D) (ca := ca) (a := a) g_240) kw_1588 kw_1590 kw_102 kw_1591 kw_76 hP hS hl (heM_0 ca a t) rfl rfl rfl (by decide) (by decide +kernel) ⟨Nat.le_of_ble_eq_true rfl, Nat.le_of_ble_eq_true rfl⟩ rfl rfl (Nat.le_of_ble_eq_true rfl) dX11_readF_240 (fun H locs hP hS => ?_)
  refine W.eq (g2 := F0 m 243 ls []) rfl ?_
  refine lv_aload_n hx hb dX11_readF_243 rfl (lv_at hl 0 rfl) ?_
  cases hf
set_option maxRecDepth 20000 in
theorem w_M_X11_readF__0_289 {p : Program} {l : Launch} {e : Env} {s : State} {m : MethodId} {args : Array Value} {below : List Frame} {meth : Method} {c : Code} {A : Nat → Prop} {Q : State → Prop} {D : va_G} {ca : Nat → ClassId} {a : Nat → Nat} {u : fw_S} {r : Int32}  (C : CX (WM ca a) D (tyv ca) p s m args c A prog_13_method_16_code 4 RX11) (hr : True → RX (WM ca a) D p l e rm_M_X11_readF__0 s m args below meth c A prog_13_method_16_code Q .ireturn [.int r] u) {t : fw_S} {x1 : Int32} {H : Heap} {locs : List Loc} {ls : Array Slot} (hf : b_M_X11_readF__0_289  t x1 = some (r, u)) (hP : va_P D classes (WM ca a t) H) (hS : va_S A s.heap H locs) (hl : lv_has ls 4 [(0, .ref (a 0)), (1, .int x1)]) : W p l e rm_M_X11_readF__0 s m args below meth c H locs 0 0 Q (F0 m 289 ls []) := by
  obtain ⟨hx, hb, hml, hown, hts, hN, hK, hD, hA⟩ := id C
  have hf : (none) = some (r, u) := hf
  refine lv_aload_n hx hb dX11_readF_289 rfl (lv_at hl 0 rfl) ?_
  cases hf
set_option maxRecDepth 20000 in
theorem w_M_X11_readF__0_231 {p : Program} {l : Launch} {e : Env} {s : State} {m : MethodId} {args : Array Value} {below : List Frame} {meth : Method} {c : Code} {A : Nat → Prop} {Q : State → Prop} {D : va_G} {ca : Nat → ClassId} {a : Nat → Nat} {u : fw_S} {r : Int32}  (C : CX (WM ca a) D (tyv ca) p s m args c A prog_13_method_16_code 4 RX11) (hr : True → RX (WM ca a) D p l e rm_M_X11_readF__0 s m args below meth c A prog_13_method_16_code Q .ireturn [.int r] u) {t : fw_S} {x1 : Int32} {H : Heap} {locs : List Loc} {ls : Array Slot} (hf : b_M_X11_readF__0_231  t x1 = some (r, u)) (hP : va_P D classes (WM ca a t) H) (hS : va_S A s.heap H locs) (hl : lv_has ls 4 [(0, .ref (a 0)), (1, .int x1)]) : W p l e rm_M_X11_readF__0 s m args below meth c H locs 0 0 Q (F0 m 231 ls []) := by
  obtain ⟨hx, hb, hml, hown, hts, hN, hK, hD, hA⟩ := id C
  have hf : (if x1 = ((103 : Int32)) then b_M_X11_readF__0_237 t x1 else b_M_X11_readF__0_289 t x1) = some (r, u) := hf
  refine lv_iload_n hx hb dX11_readF_231 rfl (lv_at hl 1 rfl) ?_
  refine lv_bipush (v := 103) hx hb dX11_readF_232 (by decide) ?_
  refine lv_icmp_ne (tgt := 289) hx hb dX11_readF_234 (by decide) (fun h_234 => ?_) (fun h_234 => ?_)
  · have hf := fb_f h_234 hf
    exact w_M_X11_readF__0_289 C hr hf hP hS (lv_sub hl [0, 1] rfl)
  · have hf := fb_t h_234 hf
    exact w_M_X11_readF__0_237 C hr hf hP hS (lv_sub hl [0, 1] rfl)
set_option maxRecDepth 20000 in
theorem w_M_X11_readF__0_225 {p : Program} {l : Launch} {e : Env} {s : State} {m : MethodId} {args : Array Value} {below : List Frame} {meth : Method} {c : Code} {A : Nat → Prop} {Q : State → Prop} {D : va_G} {ca : Nat → ClassId} {a : Nat → Nat} {u : fw_S} {r : Int32}  (C : CX (WM ca a) D (tyv ca) p s m args c A prog_13_method_16_code 4 RX11) (hr : True → RX (WM ca a) D p l e rm_M_X11_readF__0 s m args below meth c A prog_13_method_16_code Q .ireturn [.int r] u) {t : fw_S} {x1 : Int32} {H : Heap} {locs : List Loc} {ls : Array Slot} (hf : b_M_X11_readF__0_225  t x1 = some (r, u)) (hP : va_P D classes (WM ca a t) H) (hS : va_S A s.heap H locs) (hl : lv_has ls 4 [(0, .ref (a 0)), (1, .int x1)]) : W p l e rm_M_X11_readF__0 s m args below meth c H locs 0 0 Q (F0 m 225 ls []) := by
  obtain ⟨hx, hb, hml, hown, hts, hN, hK, hD, hA⟩ := id C
  have hf : (if x1 = ((108 : Int32)) then b_M_X11_readF__0_237 t x1 else b_M_X11_readF__0_231 t x1) = some (r, u) := hf
  refine lv_iload_n hx hb dX11_readF_225 rfl (lv_at hl 1 rfl) ?_
  refine lv_bipush (v := 108) hx hb dX11_readF_226 (by decide) ?_
  refine lv_icmp_eq (tgt := 237) hx hb dX11_readF_228 (by decide) (fun h_228 => ?_) (fun h_228 => ?_)
  · have hf := fb_t h_228 hf
    exact w_M_X11_readF__0_237 C hr hf hP hS (lv_sub hl [0, 1] rfl)
  · have hf := fb_f h_228 hf
    exact w_M_X11_readF__0_231 C hr hf hP hS (lv_sub hl [0, 1] rfl)
set_option maxRecDepth 20000 in
theorem w_M_X11_readF__0_211 {p : Program} {l : Launch} {e : Env} {s : State} {m : MethodId} {args : Array Value} {below : List Frame} {meth : Method} {c : Code} {A : Nat → Prop} {Q : State → Prop} {D : va_G} {ca : Nat → ClassId} {a : Nat → Nat} {u : fw_S} {r : Int32}  (C : CX (WM ca a) D (tyv ca) p s m args c A prog_13_method_16_code 4 RX11) (hr : True → RX (WM ca a) D p l e rm_M_X11_readF__0 s m args below meth c A prog_13_method_16_code Q .ireturn [.int r] u) {t : fw_S}  {H : Heap} {locs : List Loc} {ls : Array Slot} (hf : b_M_X11_readF__0_211  t  = some (r, u)) (hP : va_P D classes (WM ca a t) H) (hS : va_S A s.heap H locs) (hl : lv_has ls 4 [(0, .ref (a 0))]) : W p l e rm_M_X11_readF__0 s m args below meth c H locs 0 0 Q (F0 m 211 ls []) := by
  obtain ⟨hx, hb, hml, hown, hts, hN, hK, hD, hA⟩ := id C
  have hf : (none) = some (r, u) := hf
  refine lv_aload_n hx hb dX11_readF_211 rfl (lv_at hl 0 rfl) ?_
  cases hf
set_option maxRecDepth 20000 in
theorem w_M_X11_readF__0_183 {p : Program} {l : Launch} {e : Env} {s : State} {m : MethodId} {args : Array Value} {below : List Frame} {meth : Method} {c : Code} {A : Nat → Prop} {Q : State → Prop} {D : va_G} {ca : Nat → ClassId} {a : Nat → Nat} {u : fw_S} {r : Int32}  (C : CX (WM ca a) D (tyv ca) p s m args c A prog_13_method_16_code 4 RX11) (hr : True → RX (WM ca a) D p l e rm_M_X11_readF__0 s m args below meth c A prog_13_method_16_code Q .ireturn [.int r] u) {t : fw_S} {x1 : Int32} {H : Heap} {locs : List Loc} {ls : Array Slot} (hf : b_M_X11_readF__0_183  t x1 = some (r, u)) (hP : va_P D classes (WM ca a t) H) (hS : va_S A s.heap H locs) (hl : lv_has ls 4 [(0, .ref (a 0)), (1, .int x1)]) : W p l e rm_M_X11_readF__0 s m args below meth c H locs 0 0 Q (F0 m 183 ls []) := by
  obtain ⟨hx, hb, hml, hown, hts, hN, hK, hD, hA⟩ := id C
  have hf : (fb_l (up_I t 7 ((st_I t 7) + ((1 : Int32)))) fun t_1 => (fb_l (up_I t_1 9 ((st_I t_1 9) + ((1 : Int32)))) fun t_2 => (if x1 = ((40 : Int32)) then b_M_X11_readF__0_211 t_2 else b_M_X11_readF__0_225 t_2 x1))) = some (r, u) := hf
  refine lv_aload_n hx hb dX11_readF_183 rfl (lv_at hl 0 rfl) ?_
  refine lv_dup hx hb dX11_readF_184 rfl ?_
  refine va_get (D := D) (ci := 11) (v := .int (st_I t 7)) (C := RX11) (T := TX11) (N := 76) hx hb hts inX11 hown hK hP 0 (heM_0 ca a t) rfl 42 (by decide) (hts _ kw_1234) (fun _ h9 => h9) rfl dX11_readF_185 ?_
  refine lv_iconst (v := 1) hx hb dX11_readF_188 (by decide) ?_
  refine lv_iadd hx hb dX11_readF_189 ?_
  refine va_put (D := D) (ci := 11) (v := .int ((st_I t 7) + ((1 : Int32)))) (ty := .int) (C := RX11) (T := TX11) (N := 76) hx hb hts inX11 tyX11 tyX11_ok nmX11 hown hK hP (hD t) hS 0 (heM_0 ca a t) rfl 42 (by decide) (hts _ kw_1234) (fun _ h9 => h9) rfl (by decide +kernel) rfl rfl (Nat.le_of_ble_eq_true rfl) dX11_readF_190 (fun H locs hP _ hS => ?_)
  rw [suM_0_42] at hP
  obtain ⟨t_1, e_190, hf⟩ := fb_ls hf
  rw [← e_190] at hP
  refine lv_aload_n hx hb dX11_readF_193 rfl (lv_at hl 0 rfl) ?_
  refine lv_dup hx hb dX11_readF_194 rfl ?_
  refine va_get (D := D) (ci := 11) (v := .int (st_I t_1 9)) (C := RX11) (T := TX11) (N := 76) hx hb hts inX11 hown hK hP 0 (heM_0 ca a t_1) rfl 44 (by decide) (hts _ kw_1236) (fun _ h9 => h9) rfl dX11_readF_195 ?_
  refine lv_iconst (v := 1) hx hb dX11_readF_198 (by decide) ?_
  refine lv_iadd hx hb dX11_readF_199 ?_
  refine va_put (D := D) (ci := 11) (v := .int ((st_I t_1 9) + ((1 : Int32)))) (ty := .int) (C := RX11) (T := TX11) (N := 76) hx hb hts inX11 tyX11 tyX11_ok nmX11 hown hK hP (hD t_1) hS 0 (heM_0 ca a t_1) rfl 44 (by decide) (hts _ kw_1236) (fun _ h9 => h9) rfl (by decide +kernel) rfl rfl (Nat.le_of_ble_eq_true rfl) dX11_readF_200 (fun H locs hP _ hS => ?_)
  rw [suM_0_44] at hP
  obtain ⟨t_2, e_200, hf⟩ := fb_ls hf
  rw [← e_200] at hP
  refine lv_iconst (v := 0) hx hb dX11_readF_203 (by decide) ?_
  refine lv_istore_n (lv' := [(3, .int ((0 : Int32))), (0, .ref (a 0)), (1, .int x1)]) hx hb dX11_readF_204 rfl hl (by decide) rfl (fun ls hl => ?_)
  refine lv_iload_n hx hb dX11_readF_205 rfl (lv_at hl 2 rfl) ?_
  refine lv_bipush (v := 40) hx hb dX11_readF_206 (by decide) ?_
  refine lv_icmp_ne (tgt := 225) hx hb dX11_readF_208 (by decide) (fun h_208 => ?_) (fun h_208 => ?_)
  · have hf := fb_f h_208 hf
    exact w_M_X11_readF__0_225 C hr hf hP hS (lv_sub hl [1, 2] rfl)
  · have hf := fb_t h_208 hf
    exact w_M_X11_readF__0_211 C hr hf hP hS (lv_sub hl [1] rfl)
set_option maxRecDepth 20000 in
theorem w_M_X11_readF__0_173 {p : Program} {l : Launch} {e : Env} {s : State} {m : MethodId} {args : Array Value} {below : List Frame} {meth : Method} {c : Code} {A : Nat → Prop} {Q : State → Prop} {D : va_G} {ca : Nat → ClassId} {a : Nat → Nat} {u : fw_S} {r : Int32}  (C : CX (WM ca a) D (tyv ca) p s m args c A prog_13_method_16_code 4 RX11) (hr : True → RX (WM ca a) D p l e rm_M_X11_readF__0 s m args below meth c A prog_13_method_16_code Q .ireturn [.int r] u) {t : fw_S}  {H : Heap} {locs : List Loc} {ls : Array Slot} (hf : b_M_X11_readF__0_173  t  = some (r, u)) (hP : va_P D classes (WM ca a t) H) (hS : va_S A s.heap H locs) (hl : lv_has ls 4 [(0, .ref (a 0))]) : W p l e rm_M_X11_readF__0 s m args below meth c H locs 0 0 Q (F0 m 173 ls []) := by
  obtain ⟨hx, hb, hml, hown, hts, hN, hK, hD, hA⟩ := id C
  have hf : (fb_l (up_I t 8 (st_I t 7)) fun t_1 => (some ((0 : Int32), t_1))) = some (r, u) := hf
  refine lv_aload_n hx hb dX11_readF_173 rfl (lv_at hl 0 rfl) ?_
  refine lv_aload_n hx hb dX11_readF_174 rfl (lv_at hl 0 rfl) ?_
  refine va_get (D := D) (ci := 11) (v := .int (st_I t 7)) (C := RX11) (T := TX11) (N := 76) hx hb hts inX11 hown hK hP 0 (heM_0 ca a t) rfl 42 (by decide) (hts _ kw_1234) (fun _ h9 => h9) rfl dX11_readF_175 ?_
  refine va_put (D := D) (ci := 11) (v := .int (st_I t 7)) (ty := .int) (C := RX11) (T := TX11) (N := 76) hx hb hts inX11 tyX11 tyX11_ok nmX11 hown hK hP (hD t) hS 0 (heM_0 ca a t) rfl 43 (by decide) (hts _ kw_1235) (fun _ h9 => h9) rfl (by decide +kernel) rfl rfl (Nat.le_of_ble_eq_true rfl) dX11_readF_178 (fun H locs hP _ hS => ?_)
  rw [suM_0_43] at hP
  obtain ⟨t_1, e_178, hf⟩ := fb_ls hf
  rw [← e_178] at hP
  refine lv_iconst (v := 0) hx hb dX11_readF_181 (by decide) ?_
  obtain ⟨e_182, e2_182⟩ := fb_e hf
  subst e_182; subst e2_182
  exact hr trivial _ _ _ _ hP hS dX11_readF_182
set_option maxRecDepth 20000 in
theorem w_M_X11_readF__0_165 {p : Program} {l : Launch} {e : Env} {s : State} {m : MethodId} {args : Array Value} {below : List Frame} {meth : Method} {c : Code} {A : Nat → Prop} {Q : State → Prop} {D : va_G} {ca : Nat → ClassId} {a : Nat → Nat} {u : fw_S} {r : Int32}  (C : CX (WM ca a) D (tyv ca) p s m args c A prog_13_method_16_code 4 RX11) (hr : True → RX (WM ca a) D p l e rm_M_X11_readF__0 s m args below meth c A prog_13_method_16_code Q .ireturn [.int r] u) {t : fw_S} {x1 : Int32} {H : Heap} {locs : List Loc} {ls : Array Slot} (hf : b_M_X11_readF__0_165  t x1 = some (r, u)) (hP : va_P D classes (WM ca a t) H) (hS : va_S A s.heap H locs) (hl : lv_has ls 4 [(0, .ref (a 0)), (1, .int x1)]) : W p l e rm_M_X11_readF__0 s m args below meth c H locs 0 0 Q (F0 m 165 ls []) := by
  obtain ⟨hx, hb, hml, hown, hts, hN, hK, hD, hA⟩ := id C
  have hf : (if (st_I t 9) = ((3 : Int32)) then b_M_X11_readF__0_173 t else b_M_X11_readF__0_183 t x1) = some (r, u) := hf
  refine lv_aload_n hx hb dX11_readF_165 rfl (lv_at hl 0 rfl) ?_
  refine va_get (D := D) (ci := 11) (v := .int (st_I t 9)) (C := RX11) (T := TX11) (N := 76) hx hb hts inX11 hown hK hP 0 (heM_0 ca a t) rfl 44 (by decide) (hts _ kw_1236) (fun _ h9 => h9) rfl dX11_readF_166 ?_
  refine lv_iconst (v := 3) hx hb dX11_readF_169 (by decide) ?_
  refine lv_icmp_ne (tgt := 183) hx hb dX11_readF_170 (by decide) (fun h_170 => ?_) (fun h_170 => ?_)
  · have hf := fb_f h_170 hf
    exact w_M_X11_readF__0_183 C hr hf hP hS (lv_sub hl [0, 1] rfl)
  · have hf := fb_t h_170 hf
    exact w_M_X11_readF__0_173 C hr hf hP hS (lv_sub hl [0] rfl)
set_option maxRecDepth 20000 in
theorem w_M_X11_readF__0_159 {p : Program} {l : Launch} {e : Env} {s : State} {m : MethodId} {args : Array Value} {below : List Frame} {meth : Method} {c : Code} {A : Nat → Prop} {Q : State → Prop} {D : va_G} {ca : Nat → ClassId} {a : Nat → Nat} {u : fw_S} {r : Int32}  (C : CX (WM ca a) D (tyv ca) p s m args c A prog_13_method_16_code 4 RX11) (hr : True → RX (WM ca a) D p l e rm_M_X11_readF__0 s m args below meth c A prog_13_method_16_code Q .ireturn [.int r] u) {t : fw_S} {x1 : Int32} {H : Heap} {locs : List Loc} {ls : Array Slot} (hf : b_M_X11_readF__0_159  t x1 = some (r, u)) (hP : va_P D classes (WM ca a t) H) (hS : va_S A s.heap H locs) (hl : lv_has ls 4 [(0, .ref (a 0)), (1, .int x1)]) : W p l e rm_M_X11_readF__0 s m args below meth c H locs 0 0 Q (F0 m 159 ls []) := by
  obtain ⟨hx, hb, hml, hown, hts, hN, hK, hD, hA⟩ := id C
  have hf : (if x1 = ((103 : Int32)) then b_M_X11_readF__0_165 t x1 else b_M_X11_readF__0_173 t) = some (r, u) := hf
  refine lv_iload_n hx hb dX11_readF_159 rfl (lv_at hl 1 rfl) ?_
  refine lv_bipush (v := 103) hx hb dX11_readF_160 (by decide) ?_
  refine lv_icmp_ne (tgt := 173) hx hb dX11_readF_162 (by decide) (fun h_162 => ?_) (fun h_162 => ?_)
  · have hf := fb_f h_162 hf
    exact w_M_X11_readF__0_173 C hr hf hP hS (lv_sub hl [0] rfl)
  · have hf := fb_t h_162 hf
    exact w_M_X11_readF__0_165 C hr hf hP hS (lv_sub hl [0, 1] rfl)
set_option maxRecDepth 20000 in
theorem w_M_X11_readF__0_153 {p : Program} {l : Launch} {e : Env} {s : State} {m : MethodId} {args : Array Value} {below : List Frame} {meth : Method} {c : Code} {A : Nat → Prop} {Q : State → Prop} {D : va_G} {ca : Nat → ClassId} {a : Nat → Nat} {u : fw_S} {r : Int32}  (C : CX (WM ca a) D (tyv ca) p s m args c A prog_13_method_16_code 4 RX11) (hr : True → RX (WM ca a) D p l e rm_M_X11_readF__0 s m args below meth c A prog_13_method_16_code Q .ireturn [.int r] u) {t : fw_S} {x1 : Int32} {H : Heap} {locs : List Loc} {ls : Array Slot} (hf : b_M_X11_readF__0_153  t x1 = some (r, u)) (hP : va_P D classes (WM ca a t) H) (hS : va_S A s.heap H locs) (hl : lv_has ls 4 [(0, .ref (a 0)), (1, .int x1)]) : W p l e rm_M_X11_readF__0 s m args below meth c H locs 0 0 Q (F0 m 153 ls []) := by
  obtain ⟨hx, hb, hml, hown, hts, hN, hK, hD, hA⟩ := id C
  have hf : (if x1 = ((108 : Int32)) then b_M_X11_readF__0_165 t x1 else b_M_X11_readF__0_159 t x1) = some (r, u) := hf
  refine lv_iload_n hx hb dX11_readF_153 rfl (lv_at hl 1 rfl) ?_
  refine lv_bipush (v := 108) hx hb dX11_readF_154 (by decide) ?_
  refine lv_icmp_eq (tgt := 165) hx hb dX11_readF_156 (by decide) (fun h_156 => ?_) (fun h_156 => ?_)
  · have hf := fb_t h_156 hf
    exact w_M_X11_readF__0_165 C hr hf hP hS (lv_sub hl [0, 1] rfl)
  · have hf := fb_f h_156 hf
    exact w_M_X11_readF__0_159 C hr hf hP hS (lv_sub hl [0, 1] rfl)
set_option maxRecDepth 20000 in
theorem w_M_X11_readF__0_147 {p : Program} {l : Launch} {e : Env} {s : State} {m : MethodId} {args : Array Value} {below : List Frame} {meth : Method} {c : Code} {A : Nat → Prop} {Q : State → Prop} {D : va_G} {ca : Nat → ClassId} {a : Nat → Nat} {u : fw_S} {r : Int32}  (C : CX (WM ca a) D (tyv ca) p s m args c A prog_13_method_16_code 4 RX11) (hr : True → RX (WM ca a) D p l e rm_M_X11_readF__0 s m args below meth c A prog_13_method_16_code Q .ireturn [.int r] u) {t : fw_S} {x1 : Int32} {H : Heap} {locs : List Loc} {ls : Array Slot} (hf : b_M_X11_readF__0_147  t x1 = some (r, u)) (hP : va_P D classes (WM ca a t) H) (hS : va_S A s.heap H locs) (hl : lv_has ls 4 [(0, .ref (a 0)), (1, .int x1)]) : W p l e rm_M_X11_readF__0 s m args below meth c H locs 0 0 Q (F0 m 147 ls []) := by
  obtain ⟨hx, hb, hml, hown, hts, hN, hK, hD, hA⟩ := id C
  have hf : (if x1 = ((33 : Int32)) then b_M_X11_readF__0_165 t x1 else b_M_X11_readF__0_153 t x1) = some (r, u) := hf
  refine lv_iload_n hx hb dX11_readF_147 rfl (lv_at hl 1 rfl) ?_
  refine lv_bipush (v := 33) hx hb dX11_readF_148 (by decide) ?_
  refine lv_icmp_eq (tgt := 165) hx hb dX11_readF_150 (by decide) (fun h_150 => ?_) (fun h_150 => ?_)
  · have hf := fb_t h_150 hf
    exact w_M_X11_readF__0_165 C hr hf hP hS (lv_sub hl [0, 1] rfl)
  · have hf := fb_f h_150 hf
    exact w_M_X11_readF__0_153 C hr hf hP hS (lv_sub hl [0, 1] rfl)
set_option maxRecDepth 20000 in
theorem w_M_X11_readF__0_141 {p : Program} {l : Launch} {e : Env} {s : State} {m : MethodId} {args : Array Value} {below : List Frame} {meth : Method} {c : Code} {A : Nat → Prop} {Q : State → Prop} {D : va_G} {ca : Nat → ClassId} {a : Nat → Nat} {u : fw_S} {r : Int32}  (C : CX (WM ca a) D (tyv ca) p s m args c A prog_13_method_16_code 4 RX11) (hr : True → RX (WM ca a) D p l e rm_M_X11_readF__0 s m args below meth c A prog_13_method_16_code Q .ireturn [.int r] u) {t : fw_S} {x1 : Int32} {H : Heap} {locs : List Loc} {ls : Array Slot} (hf : b_M_X11_readF__0_141  t x1 = some (r, u)) (hP : va_P D classes (WM ca a t) H) (hS : va_S A s.heap H locs) (hl : lv_has ls 4 [(0, .ref (a 0)), (1, .int x1)]) : W p l e rm_M_X11_readF__0 s m args below meth c H locs 0 0 Q (F0 m 141 ls []) := by
  obtain ⟨hx, hb, hml, hown, hts, hN, hK, hD, hA⟩ := id C
  have hf : (if x1 = ((64 : Int32)) then b_M_X11_readF__0_165 t x1 else b_M_X11_readF__0_147 t x1) = some (r, u) := hf
  refine lv_iload_n hx hb dX11_readF_141 rfl (lv_at hl 1 rfl) ?_
  refine lv_bipush (v := 64) hx hb dX11_readF_142 (by decide) ?_
  refine lv_icmp_eq (tgt := 165) hx hb dX11_readF_144 (by decide) (fun h_144 => ?_) (fun h_144 => ?_)
  · have hf := fb_t h_144 hf
    exact w_M_X11_readF__0_165 C hr hf hP hS (lv_sub hl [0, 1] rfl)
  · have hf := fb_f h_144 hf
    exact w_M_X11_readF__0_147 C hr hf hP hS (lv_sub hl [0, 1] rfl)
set_option maxRecDepth 20000 in
theorem w_M_X11_readF__0_135 {p : Program} {l : Launch} {e : Env} {s : State} {m : MethodId} {args : Array Value} {below : List Frame} {meth : Method} {c : Code} {A : Nat → Prop} {Q : State → Prop} {D : va_G} {ca : Nat → ClassId} {a : Nat → Nat} {u : fw_S} {r : Int32}  (C : CX (WM ca a) D (tyv ca) p s m args c A prog_13_method_16_code 4 RX11) (hr : True → RX (WM ca a) D p l e rm_M_X11_readF__0 s m args below meth c A prog_13_method_16_code Q .ireturn [.int r] u) {t : fw_S} {x1 : Int32} {H : Heap} {locs : List Loc} {ls : Array Slot} (hf : b_M_X11_readF__0_135  t x1 = some (r, u)) (hP : va_P D classes (WM ca a t) H) (hS : va_S A s.heap H locs) (hl : lv_has ls 4 [(0, .ref (a 0)), (1, .int x1)]) : W p l e rm_M_X11_readF__0 s m args below meth c H locs 0 0 Q (F0 m 135 ls []) := by
  obtain ⟨hx, hb, hml, hown, hts, hN, hK, hD, hA⟩ := id C
  have hf : (if x1 = ((45 : Int32)) then b_M_X11_readF__0_165 t x1 else b_M_X11_readF__0_141 t x1) = some (r, u) := hf
  refine lv_iload_n hx hb dX11_readF_135 rfl (lv_at hl 1 rfl) ?_
  refine lv_bipush (v := 45) hx hb dX11_readF_136 (by decide) ?_
  refine lv_icmp_eq (tgt := 165) hx hb dX11_readF_138 (by decide) (fun h_138 => ?_) (fun h_138 => ?_)
  · have hf := fb_t h_138 hf
    exact w_M_X11_readF__0_165 C hr hf hP hS (lv_sub hl [0, 1] rfl)
  · have hf := fb_f h_138 hf
    exact w_M_X11_readF__0_141 C hr hf hP hS (lv_sub hl [0, 1] rfl)
set_option maxRecDepth 20000 in
theorem w_M_X11_readF__0_128 {p : Program} {l : Launch} {e : Env} {s : State} {m : MethodId} {args : Array Value} {below : List Frame} {meth : Method} {c : Code} {A : Nat → Prop} {Q : State → Prop} {D : va_G} {ca : Nat → ClassId} {a : Nat → Nat} {u : fw_S} {r : Int32}  (C : CX (WM ca a) D (tyv ca) p s m args c A prog_13_method_16_code 4 RX11) (hr : True → RX (WM ca a) D p l e rm_M_X11_readF__0 s m args below meth c A prog_13_method_16_code Q .ireturn [.int r] u) {t : fw_S} {z0 : Int32} {H : Heap} {locs : List Loc} {ls : Array Slot} (hf : b_M_X11_readF__0_128  t z0 = some (r, u)) (hP : va_P D classes (WM ca a t) H) (hS : va_S A s.heap H locs) (hl : lv_has ls 4 [(0, .ref (a 0))]) : W p l e rm_M_X11_readF__0 s m args below meth c H locs 0 0 Q (F0 m 128 ls [.int z0]) := by
  obtain ⟨hx, hb, hml, hown, hts, hN, hK, hD, hA⟩ := id C
  have hf : (if z0 = ((40 : Int32)) then b_M_X11_readF__0_165 t z0 else b_M_X11_readF__0_135 t z0) = some (r, u) := hf
  refine lv_istore_n (lv' := [(1, .int z0), (0, .ref (a 0))]) hx hb dX11_readF_128 rfl hl (by decide) rfl (fun ls hl => ?_)
  refine lv_iload_n hx hb dX11_readF_129 rfl (lv_at hl 0 rfl) ?_
  refine lv_bipush (v := 40) hx hb dX11_readF_130 (by decide) ?_
  refine lv_icmp_eq (tgt := 165) hx hb dX11_readF_132 (by decide) (fun h_132 => ?_) (fun h_132 => ?_)
  · have hf := fb_t h_132 hf
    exact w_M_X11_readF__0_165 C hr hf hP hS (lv_sub hl [1, 0] rfl)
  · have hf := fb_f h_132 hf
    exact w_M_X11_readF__0_135 C hr hf hP hS (lv_sub hl [1, 0] rfl)
set_option maxRecDepth 20000 in
theorem w_M_X11_readF__0_127 {p : Program} {l : Launch} {e : Env} {s : State} {m : MethodId} {args : Array Value} {below : List Frame} {meth : Method} {c : Code} {A : Nat → Prop} {Q : State → Prop} {D : va_G} {ca : Nat → ClassId} {a : Nat → Nat} {u : fw_S} {r : Int32}  (C : CX (WM ca a) D (tyv ca) p s m args c A prog_13_method_16_code 4 RX11) (hr : True → RX (WM ca a) D p l e rm_M_X11_readF__0 s m args below meth c A prog_13_method_16_code Q .ireturn [.int r] u) {t : fw_S}  {H : Heap} {locs : List Loc} {ls : Array Slot} (hf : b_M_X11_readF__0_127  t  = some (r, u)) (hP : va_P D classes (WM ca a t) H) (hS : va_S A s.heap H locs) (hl : lv_has ls 4 [(0, .ref (a 0))]) : W p l e rm_M_X11_readF__0 s m args below meth c H locs 0 0 Q (F0 m 127 ls []) := by
  obtain ⟨hx, hb, hml, hown, hts, hN, hK, hD, hA⟩ := id C
  have hf : (b_M_X11_readF__0_128 t ((0 : Int32))) = some (r, u) := hf
  refine lv_iconst (v := 0) hx hb dX11_readF_127 (by decide) ?_
  exact w_M_X11_readF__0_128 C hr hf hP hS (lv_sub hl [0] rfl)
set_option maxRecDepth 20000 in
theorem w_M_X11_readF__0_115 {p : Program} {l : Launch} {e : Env} {s : State} {m : MethodId} {args : Array Value} {below : List Frame} {meth : Method} {c : Code} {A : Nat → Prop} {Q : State → Prop} {D : va_G} {ca : Nat → ClassId} {a : Nat → Nat} {u : fw_S} {r : Int32}  (C : CX (WM ca a) D (tyv ca) p s m args c A prog_13_method_16_code 4 RX11) (hr : True → RX (WM ca a) D p l e rm_M_X11_readF__0 s m args below meth c A prog_13_method_16_code Q .ireturn [.int r] u) {t : fw_S}  {H : Heap} {locs : List Loc} {ls : Array Slot} (hf : b_M_X11_readF__0_115  t  = some (r, u)) (hP : va_P D classes (WM ca a t) H) (hS : va_S A s.heap H locs) (hl : lv_has ls 4 [(0, .ref (a 0))]) : W p l e rm_M_X11_readF__0 s m args below meth c H locs 0 0 Q (F0 m 115 ls []) := by
  obtain ⟨hx, hb, hml, hown, hts, hN, hK, hD, hA⟩ := id C
  have hf : (fb_g (¬ ((st_I t 7) < 0 ∨ 120 ≤ (st_I t 7).toNatClampNeg)) (b_M_X11_readF__0_128 t (st_F t 29 (st_I t 7).toNatClampNeg))) = some (r, u) := hf
  refine lv_aload_n hx hb dX11_readF_115 rfl (lv_at hl 0 rfl) ?_
  refine va_get (D := D) (ci := 11) (v := .ref (a 34)) (C := RX11) (T := TX11) (N := 76) hx hb hts inX11 hown hK hP 0 (heM_0 ca a t) rfl 38 (by decide) (hts _ kw_1230) (fun _ h9 => h9) rfl dX11_readF_116 ?_
  refine lv_aload_n hx hb dX11_readF_119 rfl (lv_at hl 0 rfl) ?_
  refine va_get (D := D) (ci := 11) (v := .int (st_I t 7)) (C := RX11) (T := TX11) (N := 76) hx hb hts inX11 hown hK hP 0 (heM_0 ca a t) rfl 42 (by decide) (hts _ kw_1234) (fun _ h9 => h9) rfl dX11_readF_120 ?_
  obtain ⟨h_123, hf⟩ := fb_if hf
  refine va_iald hx hb hK hP 34 0 (haM_34 ca a t) rfl h_123 dX11_readF_123 ?_
  refine lv_goto (tgt := 128) hx hb dX11_readF_124 (by decide) ?_
  exact w_M_X11_readF__0_128 C hr hf hP hS (lv_sub hl [0] rfl)
set_option maxRecDepth 20000 in
theorem w_M_X11_readF__0_104 {p : Program} {l : Launch} {e : Env} {s : State} {m : MethodId} {args : Array Value} {below : List Frame} {meth : Method} {c : Code} {A : Nat → Prop} {Q : State → Prop} {D : va_G} {ca : Nat → ClassId} {a : Nat → Nat} {u : fw_S} {r : Int32}  (C : CX (WM ca a) D (tyv ca) p s m args c A prog_13_method_16_code 4 RX11) (hr : True → RX (WM ca a) D p l e rm_M_X11_readF__0 s m args below meth c A prog_13_method_16_code Q .ireturn [.int r] u) {t : fw_S}  {H : Heap} {locs : List Loc} {ls : Array Slot} (hf : b_M_X11_readF__0_104  t  = some (r, u)) (hP : va_P D classes (WM ca a t) H) (hS : va_S A s.heap H locs) (hl : lv_has ls 4 [(0, .ref (a 0))]) : W p l e rm_M_X11_readF__0 s m args below meth c H locs 0 0 Q (F0 m 104 ls []) := by
  obtain ⟨hx, hb, hml, hown, hts, hN, hK, hD, hA⟩ := id C
  have hf : (if (st_I t 5) ≤ (st_I t 7) then b_M_X11_readF__0_127 t else b_M_X11_readF__0_115 t) = some (r, u) := hf
  refine lv_aload_n hx hb dX11_readF_104 rfl (lv_at hl 0 rfl) ?_
  refine va_get (D := D) (ci := 11) (v := .int (st_I t 7)) (C := RX11) (T := TX11) (N := 76) hx hb hts inX11 hown hK hP 0 (heM_0 ca a t) rfl 42 (by decide) (hts _ kw_1234) (fun _ h9 => h9) rfl dX11_readF_105 ?_
  refine lv_aload_n hx hb dX11_readF_108 rfl (lv_at hl 0 rfl) ?_
  refine va_get (D := D) (ci := 11) (v := .int (st_I t 5)) (C := RX11) (T := TX11) (N := 76) hx hb hts inX11 hown hK hP 0 (heM_0 ca a t) rfl 40 (by decide) (hts _ kw_1232) (fun _ h9 => h9) rfl dX11_readF_109 ?_
  refine lv_icmp_ge (tgt := 127) hx hb dX11_readF_112 (by decide) (fun h_112 => ?_) (fun h_112 => ?_)
  · have hf := fb_t h_112 hf
    exact w_M_X11_readF__0_127 C hr hf hP hS (lv_sub hl [0] rfl)
  · have hf := fb_f h_112 hf
    exact w_M_X11_readF__0_115 C hr hf hP hS (lv_sub hl [0] rfl)
set_option maxRecDepth 20000 in
theorem w_M_X11_readF__0_71 {p : Program} {l : Launch} {e : Env} {s : State} {m : MethodId} {args : Array Value} {below : List Frame} {meth : Method} {c : Code} {A : Nat → Prop} {Q : State → Prop} {D : va_G} {ca : Nat → ClassId} {a : Nat → Nat} {u : fw_S} {r : Int32}  (C : CX (WM ca a) D (tyv ca) p s m args c A prog_13_method_16_code 4 RX11) (hr : True → RX (WM ca a) D p l e rm_M_X11_readF__0 s m args below meth c A prog_13_method_16_code Q .ireturn [.int r] u) {t : fw_S}  {H : Heap} {locs : List Loc} {ls : Array Slot} (hf : b_M_X11_readF__0_71  t  = some (r, u)) (hP : va_P D classes (WM ca a t) H) (hS : va_S A s.heap H locs) (hl : lv_has ls 4 [(0, .ref (a 0))]) : W p l e rm_M_X11_readF__0 s m args below meth c H locs 0 0 Q (F0 m 71 ls []) := by
  obtain ⟨hx, hb, hml, hown, hts, hN, hK, hD, hA⟩ := id C
  have hf : (fb_b (f_M_X11_number__0 t ((2 : Int32)) ((0 : Int32)) ((31 : Int32))) fun v_2 t_1 => (fb_v (f_M_X11_need__0 t_1 ((45 : Int32))) fun t_3 => (fb_b (f_M_X11_number__0 t_3 ((2 : Int32)) v_2 ((31 : Int32))) fun v_5 t_4 => (fb_b (f_M_X11_node__0 t_4 ((3 : Int32)) v_2 v_5 ((0 : Int32))) fun v_7 t_6 => (some (v_7, t_6)))))) = some (r, u) := hf
  refine lv_aload_n hx hb dX11_readF_71 rfl (lv_at hl 0 rfl) ?_
  refine lv_iconst (v := 2) hx hb dX11_readF_72 (by decide) ?_
  refine lv_iconst (v := 0) hx hb dX11_readF_73 (by decide) ?_
  refine lv_bipush (v := 31) hx hb dX11_readF_74 (by decide) ?_
  obtain ⟨v_2, t_1, g_76, hf⟩ := fb_bs hf
  refine fw_V1 (As := [.int ((2 : Int32)), .int ((0 : Int32)), .int ((31 : Int32))]) (rest := []) (n := 3) (q0 := 0) C (c_M_X11_number__0 (l := l) (D := D) (ca := ca) (a := a) g_76) kw_1572 kw_1574 kw_102 kw_1575 kw_72 hP hS hl (heM_0 ca a t) rfl rfl rfl (by decide) (by decide +kernel) ⟨Nat.le_of_ble_eq_true rfl, Nat.le_of_ble_eq_true rfl⟩ rfl rfl (Nat.le_of_ble_eq_true rfl) dX11_readF_76 (fun H locs hP hS => ?_)
  refine W.eq (g2 := F0 m 79 ls [.int v_2]) rfl ?_
  refine lv_istore_n (lv' := [(1, .int v_2), (0, .ref (a 0))]) hx hb dX11_readF_79 rfl hl (by decide) rfl (fun ls hl => ?_)
  refine lv_aload_n hx hb dX11_readF_80 rfl (lv_at hl 1 rfl) ?_
  refine lv_bipush (v := 45) hx hb dX11_readF_81 (by decide) ?_
  obtain ⟨t_3, g_83, hf⟩ := fb_vs hf
  refine fw_V1 (As := [.int ((45 : Int32))]) (rest := []) (n := 1) (q0 := 0) C (c_M_X11_need__0 (l := l) (D := D) (ca := ca) (a := a) g_83) kw_1588 kw_1590 kw_102 kw_1591 kw_76 hP hS hl (heM_0 ca a t_1) rfl rfl rfl (by decide) (by decide +kernel) ⟨Nat.le_of_ble_eq_true rfl, Nat.le_of_ble_eq_true rfl⟩ rfl rfl (Nat.le_of_ble_eq_true rfl) dX11_readF_83 (fun H locs hP hS => ?_)
  refine W.eq (g2 := F0 m 86 ls []) rfl ?_
  refine lv_aload_n hx hb dX11_readF_86 rfl (lv_at hl 1 rfl) ?_
  refine lv_iconst (v := 2) hx hb dX11_readF_87 (by decide) ?_
  refine lv_iload_n hx hb dX11_readF_88 rfl (lv_at hl 0 rfl) ?_
  refine lv_bipush (v := 31) hx hb dX11_readF_89 (by decide) ?_
  obtain ⟨v_5, t_4, g_91, hf⟩ := fb_bs hf
  refine fw_V1 (As := [.int ((2 : Int32)), .int v_2, .int ((31 : Int32))]) (rest := []) (n := 3) (q0 := 0) C (c_M_X11_number__0 (l := l) (D := D) (ca := ca) (a := a) g_91) kw_1572 kw_1574 kw_102 kw_1575 kw_72 hP hS hl (heM_0 ca a t_3) rfl rfl rfl (by decide) (by decide +kernel) ⟨Nat.le_of_ble_eq_true rfl, Nat.le_of_ble_eq_true rfl⟩ rfl rfl (Nat.le_of_ble_eq_true rfl) dX11_readF_91 (fun H locs hP hS => ?_)
  refine W.eq (g2 := F0 m 94 ls [.int v_5]) rfl ?_
  refine lv_istore_n (lv' := [(2, .int v_5), (1, .int v_2), (0, .ref (a 0))]) hx hb dX11_readF_94 rfl hl (by decide) rfl (fun ls hl => ?_)
  refine lv_aload_n hx hb dX11_readF_95 rfl (lv_at hl 2 rfl) ?_
  refine lv_iconst (v := 3) hx hb dX11_readF_96 (by decide) ?_
  refine lv_iload_n hx hb dX11_readF_97 rfl (lv_at hl 1 rfl) ?_
  refine lv_iload_n hx hb dX11_readF_98 rfl (lv_at hl 0 rfl) ?_
  refine lv_iconst (v := 0) hx hb dX11_readF_99 (by decide) ?_
  obtain ⟨v_7, t_6, g_100, hf⟩ := fb_bs hf
  refine fw_V1 (As := [.int ((3 : Int32)), .int v_2, .int v_5, .int ((0 : Int32))]) (rest := []) (n := 4) (q0 := 0) C (c_M_X11_node__0 (l := l) (D := D) (ca := ca) (a := a) g_100) kw_1576 kw_1578 kw_102 kw_1579 kw_73 hP hS hl (heM_0 ca a t_4) rfl rfl rfl (by decide) (by decide +kernel) ⟨Nat.le_of_ble_eq_true rfl, Nat.le_of_ble_eq_true rfl⟩ rfl rfl (Nat.le_of_ble_eq_true rfl) dX11_readF_100 (fun H locs hP hS => ?_)
  refine W.eq (g2 := F0 m 103 ls [.int v_7]) rfl ?_
  obtain ⟨e_103, e2_103⟩ := fb_e hf
  subst e_103; subst e2_103
  exact hr trivial _ _ _ _ hP hS dX11_readF_103
set_option maxRecDepth 20000 in
theorem w_M_X11_readF__0_62 {p : Program} {l : Launch} {e : Env} {s : State} {m : MethodId} {args : Array Value} {below : List Frame} {meth : Method} {c : Code} {A : Nat → Prop} {Q : State → Prop} {D : va_G} {ca : Nat → ClassId} {a : Nat → Nat} {u : fw_S} {r : Int32}  (C : CX (WM ca a) D (tyv ca) p s m args c A prog_13_method_16_code 4 RX11) (hr : True → RX (WM ca a) D p l e rm_M_X11_readF__0 s m args below meth c A prog_13_method_16_code Q .ireturn [.int r] u) {t : fw_S}  {H : Heap} {locs : List Loc} {ls : Array Slot} (hf : b_M_X11_readF__0_62  t  = some (r, u)) (hP : va_P D classes (WM ca a t) H) (hS : va_S A s.heap H locs) (hl : lv_has ls 4 [(0, .ref (a 0))]) : W p l e rm_M_X11_readF__0 s m args below meth c H locs 0 0 Q (F0 m 62 ls []) := by
  obtain ⟨hx, hb, hml, hown, hts, hN, hK, hD, hA⟩ := id C
  have hf : (fb_b (f_M_X11_takes__0 t ((115 : Int32))) fun v_2 t_1 => (if v_2 = 0 then b_M_X11_readF__0_104 t_1 else b_M_X11_readF__0_71 t_1)) = some (r, u) := hf
  refine lv_aload_n hx hb dX11_readF_62 rfl (lv_at hl 0 rfl) ?_
  refine lv_bipush (v := 115) hx hb dX11_readF_63 (by decide) ?_
  obtain ⟨v_2, t_1, g_65, hf⟩ := fb_bs hf
  refine fw_V1 (As := [.int ((115 : Int32))]) (rest := []) (n := 1) (q0 := 0) C (c_M_X11_takes__0 (l := l) (D := D) (ca := ca) (a := a) g_65) kw_1580 kw_1582 kw_102 kw_1583 kw_74 hP hS hl (heM_0 ca a t) rfl rfl rfl (by decide) (by decide +kernel) ⟨Nat.le_of_ble_eq_true rfl, Nat.le_of_ble_eq_true rfl⟩ rfl rfl (Nat.le_of_ble_eq_true rfl) dX11_readF_65 (fun H locs hP hS => ?_)
  refine W.eq (g2 := F0 m 68 ls [.int v_2]) rfl ?_
  refine lv_if_eq (tgt := 104) hx hb dX11_readF_68 (by decide) (fun h_68 => ?_) (fun h_68 => ?_)
  · have hf := fb_t h_68 hf
    exact w_M_X11_readF__0_104 C hr hf hP hS (lv_sub hl [0] rfl)
  · have hf := fb_f h_68 hf
    exact w_M_X11_readF__0_71 C hr hf hP hS (lv_sub hl [0] rfl)
set_option maxRecDepth 20000 in
theorem w_M_X11_readF__0_44 {p : Program} {l : Launch} {e : Env} {s : State} {m : MethodId} {args : Array Value} {below : List Frame} {meth : Method} {c : Code} {A : Nat → Prop} {Q : State → Prop} {D : va_G} {ca : Nat → ClassId} {a : Nat → Nat} {u : fw_S} {r : Int32}  (C : CX (WM ca a) D (tyv ca) p s m args c A prog_13_method_16_code 4 RX11) (hr : True → RX (WM ca a) D p l e rm_M_X11_readF__0 s m args below meth c A prog_13_method_16_code Q .ireturn [.int r] u) {t : fw_S}  {H : Heap} {locs : List Loc} {ls : Array Slot} (hf : b_M_X11_readF__0_44  t  = some (r, u)) (hP : va_P D classes (WM ca a t) H) (hS : va_S A s.heap H locs) (hl : lv_has ls 4 [(0, .ref (a 0))]) : W p l e rm_M_X11_readF__0 s m args below meth c H locs 0 0 Q (F0 m 44 ls []) := by
  obtain ⟨hx, hb, hml, hown, hts, hN, hK, hD, hA⟩ := id C
  have hf : (fb_b (f_M_X11_number__0 t ((2 : Int32)) ((0 : Int32)) ((31 : Int32))) fun v_2 t_1 => (fb_b (f_M_X11_node__0 t_1 ((2 : Int32)) v_2 ((0 : Int32)) ((0 : Int32))) fun v_4 t_3 => (some (v_4, t_3)))) = some (r, u) := hf
  refine lv_aload_n hx hb dX11_readF_44 rfl (lv_at hl 0 rfl) ?_
  refine lv_iconst (v := 2) hx hb dX11_readF_45 (by decide) ?_
  refine lv_iconst (v := 0) hx hb dX11_readF_46 (by decide) ?_
  refine lv_bipush (v := 31) hx hb dX11_readF_47 (by decide) ?_
  obtain ⟨v_2, t_1, g_49, hf⟩ := fb_bs hf
  refine fw_V1 (As := [.int ((2 : Int32)), .int ((0 : Int32)), .int ((31 : Int32))]) (rest := []) (n := 3) (q0 := 0) C (c_M_X11_number__0 (l := l) (D := D) (ca := ca) (a := a) g_49) kw_1572 kw_1574 kw_102 kw_1575 kw_72 hP hS hl (heM_0 ca a t) rfl rfl rfl (by decide) (by decide +kernel) ⟨Nat.le_of_ble_eq_true rfl, Nat.le_of_ble_eq_true rfl⟩ rfl rfl (Nat.le_of_ble_eq_true rfl) dX11_readF_49 (fun H locs hP hS => ?_)
  refine W.eq (g2 := F0 m 52 ls [.int v_2]) rfl ?_
  refine lv_istore_n (lv' := [(1, .int v_2), (0, .ref (a 0))]) hx hb dX11_readF_52 rfl hl (by decide) rfl (fun ls hl => ?_)
  refine lv_aload_n hx hb dX11_readF_53 rfl (lv_at hl 1 rfl) ?_
  refine lv_iconst (v := 2) hx hb dX11_readF_54 (by decide) ?_
  refine lv_iload_n hx hb dX11_readF_55 rfl (lv_at hl 0 rfl) ?_
  refine lv_iconst (v := 0) hx hb dX11_readF_56 (by decide) ?_
  refine lv_iconst (v := 0) hx hb dX11_readF_57 (by decide) ?_
  obtain ⟨v_4, t_3, g_58, hf⟩ := fb_bs hf
  refine fw_V1 (As := [.int ((2 : Int32)), .int v_2, .int ((0 : Int32)), .int ((0 : Int32))]) (rest := []) (n := 4) (q0 := 0) C (c_M_X11_node__0 (l := l) (D := D) (ca := ca) (a := a) g_58) kw_1576 kw_1578 kw_102 kw_1579 kw_73 hP hS hl (heM_0 ca a t_1) rfl rfl rfl (by decide) (by decide +kernel) ⟨Nat.le_of_ble_eq_true rfl, Nat.le_of_ble_eq_true rfl⟩ rfl rfl (Nat.le_of_ble_eq_true rfl) dX11_readF_58 (fun H locs hP hS => ?_)
  refine W.eq (g2 := F0 m 61 ls [.int v_4]) rfl ?_
  obtain ⟨e_61, e2_61⟩ := fb_e hf
  subst e_61; subst e2_61
  exact hr trivial _ _ _ _ hP hS dX11_readF_61
set_option maxRecDepth 20000 in
theorem w_M_X11_readF__0_35 {p : Program} {l : Launch} {e : Env} {s : State} {m : MethodId} {args : Array Value} {below : List Frame} {meth : Method} {c : Code} {A : Nat → Prop} {Q : State → Prop} {D : va_G} {ca : Nat → ClassId} {a : Nat → Nat} {u : fw_S} {r : Int32}  (C : CX (WM ca a) D (tyv ca) p s m args c A prog_13_method_16_code 4 RX11) (hr : True → RX (WM ca a) D p l e rm_M_X11_readF__0 s m args below meth c A prog_13_method_16_code Q .ireturn [.int r] u) {t : fw_S}  {H : Heap} {locs : List Loc} {ls : Array Slot} (hf : b_M_X11_readF__0_35  t  = some (r, u)) (hP : va_P D classes (WM ca a t) H) (hS : va_S A s.heap H locs) (hl : lv_has ls 4 [(0, .ref (a 0))]) : W p l e rm_M_X11_readF__0 s m args below meth c H locs 0 0 Q (F0 m 35 ls []) := by
  obtain ⟨hx, hb, hml, hown, hts, hN, hK, hD, hA⟩ := id C
  have hf : (fb_b (f_M_X11_takes__0 t ((35 : Int32))) fun v_2 t_1 => (if v_2 = 0 then b_M_X11_readF__0_62 t_1 else b_M_X11_readF__0_44 t_1)) = some (r, u) := hf
  refine lv_aload_n hx hb dX11_readF_35 rfl (lv_at hl 0 rfl) ?_
  refine lv_bipush (v := 35) hx hb dX11_readF_36 (by decide) ?_
  obtain ⟨v_2, t_1, g_38, hf⟩ := fb_bs hf
  refine fw_V1 (As := [.int ((35 : Int32))]) (rest := []) (n := 1) (q0 := 0) C (c_M_X11_takes__0 (l := l) (D := D) (ca := ca) (a := a) g_38) kw_1580 kw_1582 kw_102 kw_1583 kw_74 hP hS hl (heM_0 ca a t) rfl rfl rfl (by decide) (by decide +kernel) ⟨Nat.le_of_ble_eq_true rfl, Nat.le_of_ble_eq_true rfl⟩ rfl rfl (Nat.le_of_ble_eq_true rfl) dX11_readF_38 (fun H locs hP hS => ?_)
  refine W.eq (g2 := F0 m 41 ls [.int v_2]) rfl ?_
  refine lv_if_eq (tgt := 62) hx hb dX11_readF_41 (by decide) (fun h_41 => ?_) (fun h_41 => ?_)
  · have hf := fb_t h_41 hf
    exact w_M_X11_readF__0_62 C hr hf hP hS (lv_sub hl [0] rfl)
  · have hf := fb_f h_41 hf
    exact w_M_X11_readF__0_44 C hr hf hP hS (lv_sub hl [0] rfl)
set_option maxRecDepth 20000 in
theorem w_M_X11_readF__0_16 {p : Program} {l : Launch} {e : Env} {s : State} {m : MethodId} {args : Array Value} {below : List Frame} {meth : Method} {c : Code} {A : Nat → Prop} {Q : State → Prop} {D : va_G} {ca : Nat → ClassId} {a : Nat → Nat} {u : fw_S} {r : Int32}  (C : CX (WM ca a) D (tyv ca) p s m args c A prog_13_method_16_code 4 RX11) (hr : True → RX (WM ca a) D p l e rm_M_X11_readF__0 s m args below meth c A prog_13_method_16_code Q .ireturn [.int r] u) {t : fw_S}  {H : Heap} {locs : List Loc} {ls : Array Slot} (hf : b_M_X11_readF__0_16  t  = some (r, u)) (hP : va_P D classes (WM ca a t) H) (hS : va_S A s.heap H locs) (hl : lv_has ls 4 [(0, .ref (a 0))]) : W p l e rm_M_X11_readF__0 s m args below meth c H locs 0 0 Q (F0 m 16 ls []) := by
  obtain ⟨hx, hb, hml, hown, hts, hN, hK, hD, hA⟩ := id C
  have hf : (fb_b (f_M_X11_number__0 t ((9 : Int32)) ((0 : Int32)) ((999999999 : Int32))) fun v_2 t_1 => (fb_b (f_M_X11_node__0 t_1 ((1 : Int32)) v_2 ((0 : Int32)) ((0 : Int32))) fun v_4 t_3 => (some (v_4, t_3)))) = some (r, u) := hf
  refine lv_aload_n hx hb dX11_readF_16 rfl (lv_at hl 0 rfl) ?_
  refine lv_bipush (v := 9) hx hb dX11_readF_17 (by decide) ?_
  refine lv_iconst (v := 0) hx hb dX11_readF_19 (by decide) ?_
  refine lv_ldc (v := (999999999)) hx hb hown (hts _ kw_1571) dX11_readF_20 ?_
  obtain ⟨v_2, t_1, g_22, hf⟩ := fb_bs hf
  refine fw_V1 (As := [.int ((9 : Int32)), .int ((0 : Int32)), .int ((999999999 : Int32))]) (rest := []) (n := 3) (q0 := 0) C (c_M_X11_number__0 (l := l) (D := D) (ca := ca) (a := a) g_22) kw_1572 kw_1574 kw_102 kw_1575 kw_72 hP hS hl (heM_0 ca a t) rfl rfl rfl (by decide) (by decide +kernel) ⟨Nat.le_of_ble_eq_true rfl, Nat.le_of_ble_eq_true rfl⟩ rfl rfl (Nat.le_of_ble_eq_true rfl) dX11_readF_22 (fun H locs hP hS => ?_)
  refine W.eq (g2 := F0 m 25 ls [.int v_2]) rfl ?_
  refine lv_istore_n (lv' := [(1, .int v_2), (0, .ref (a 0))]) hx hb dX11_readF_25 rfl hl (by decide) rfl (fun ls hl => ?_)
  refine lv_aload_n hx hb dX11_readF_26 rfl (lv_at hl 1 rfl) ?_
  refine lv_iconst (v := 1) hx hb dX11_readF_27 (by decide) ?_
  refine lv_iload_n hx hb dX11_readF_28 rfl (lv_at hl 0 rfl) ?_
  refine lv_iconst (v := 0) hx hb dX11_readF_29 (by decide) ?_
  refine lv_iconst (v := 0) hx hb dX11_readF_30 (by decide) ?_
  obtain ⟨v_4, t_3, g_31, hf⟩ := fb_bs hf
  refine fw_V1 (As := [.int ((1 : Int32)), .int v_2, .int ((0 : Int32)), .int ((0 : Int32))]) (rest := []) (n := 4) (q0 := 0) C (c_M_X11_node__0 (l := l) (D := D) (ca := ca) (a := a) g_31) kw_1576 kw_1578 kw_102 kw_1579 kw_73 hP hS hl (heM_0 ca a t_1) rfl rfl rfl (by decide) (by decide +kernel) ⟨Nat.le_of_ble_eq_true rfl, Nat.le_of_ble_eq_true rfl⟩ rfl rfl (Nat.le_of_ble_eq_true rfl) dX11_readF_31 (fun H locs hP hS => ?_)
  refine W.eq (g2 := F0 m 34 ls [.int v_4]) rfl ?_
  obtain ⟨e_34, e2_34⟩ := fb_e hf
  subst e_34; subst e2_34
  exact hr trivial _ _ _ _ hP hS dX11_readF_34
set_option maxRecDepth 20000 in
theorem w_M_X11_readF__0_9 {p : Program} {l : Launch} {e : Env} {s : State} {m : MethodId} {args : Array Value} {below : List Frame} {meth : Method} {c : Code} {A : Nat → Prop} {Q : State → Prop} {D : va_G} {ca : Nat → ClassId} {a : Nat → Nat} {u : fw_S} {r : Int32}  (C : CX (WM ca a) D (tyv ca) p s m args c A prog_13_method_16_code 4 RX11) (hr : True → RX (WM ca a) D p l e rm_M_X11_readF__0 s m args below meth c A prog_13_method_16_code Q .ireturn [.int r] u) {t : fw_S}  {H : Heap} {locs : List Loc} {ls : Array Slot} (hf : b_M_X11_readF__0_9  t  = some (r, u)) (hP : va_P D classes (WM ca a t) H) (hS : va_S A s.heap H locs) (hl : lv_has ls 4 [(0, .ref (a 0))]) : W p l e rm_M_X11_readF__0 s m args below meth c H locs 0 0 Q (F0 m 9 ls []) := by
  obtain ⟨hx, hb, hml, hown, hts, hN, hK, hD, hA⟩ := id C
  have hf : (fb_b (f_M_X11_isFigure__0 t) fun v_2 t_1 => (if v_2 = 0 then b_M_X11_readF__0_35 t_1 else b_M_X11_readF__0_16 t_1)) = some (r, u) := hf
  refine lv_aload_n hx hb dX11_readF_9 rfl (lv_at hl 0 rfl) ?_
  obtain ⟨v_2, t_1, g_10, hf⟩ := fb_bs hf
  refine fw_V1 (As := []) (rest := []) (n := 0) (q0 := 0) C (c_M_X11_isFigure__0 (l := l) (D := D) (ca := ca) (a := a) g_10) kw_1567 kw_1569 kw_102 kw_1570 kw_71 hP hS hl (heM_0 ca a t) rfl rfl rfl (by decide) (by decide +kernel) ⟨Nat.le_of_ble_eq_true rfl, Nat.le_of_ble_eq_true rfl⟩ rfl rfl (Nat.le_of_ble_eq_true rfl) dX11_readF_10 (fun H locs hP hS => ?_)
  refine W.eq (g2 := F0 m 13 ls [.int v_2]) rfl ?_
  refine lv_if_eq (tgt := 35) hx hb dX11_readF_13 (by decide) (fun h_13 => ?_) (fun h_13 => ?_)
  · have hf := fb_t h_13 hf
    exact w_M_X11_readF__0_35 C hr hf hP hS (lv_sub hl [0] rfl)
  · have hf := fb_f h_13 hf
    exact w_M_X11_readF__0_16 C hr hf hP hS (lv_sub hl [0] rfl)
set_option maxRecDepth 20000 in
theorem w_M_X11_readF__0_7 {p : Program} {l : Launch} {e : Env} {s : State} {m : MethodId} {args : Array Value} {below : List Frame} {meth : Method} {c : Code} {A : Nat → Prop} {Q : State → Prop} {D : va_G} {ca : Nat → ClassId} {a : Nat → Nat} {u : fw_S} {r : Int32}  (C : CX (WM ca a) D (tyv ca) p s m args c A prog_13_method_16_code 4 RX11) (hr : True → RX (WM ca a) D p l e rm_M_X11_readF__0 s m args below meth c A prog_13_method_16_code Q .ireturn [.int r] u) {t : fw_S}  {H : Heap} {locs : List Loc} {ls : Array Slot} (hf : b_M_X11_readF__0_7  t  = some (r, u)) (hP : va_P D classes (WM ca a t) H) (hS : va_S A s.heap H locs) (hl : lv_has ls 4 []) : W p l e rm_M_X11_readF__0 s m args below meth c H locs 0 0 Q (F0 m 7 ls []) := by
  obtain ⟨hx, hb, hml, hown, hts, hN, hK, hD, hA⟩ := id C
  have hf : (some ((0 : Int32), t)) = some (r, u) := hf
  refine lv_iconst (v := 0) hx hb dX11_readF_7 (by decide) ?_
  obtain ⟨e_8, e2_8⟩ := fb_e hf
  subst e_8; subst e2_8
  exact hr trivial _ _ _ _ hP hS dX11_readF_8
set_option maxRecDepth 20000 in
theorem w_M_X11_readF__0_0 {p : Program} {l : Launch} {e : Env} {s : State} {m : MethodId} {args : Array Value} {below : List Frame} {meth : Method} {c : Code} {A : Nat → Prop} {Q : State → Prop} {D : va_G} {ca : Nat → ClassId} {a : Nat → Nat} {u : fw_S} {r : Int32}  (C : CX (WM ca a) D (tyv ca) p s m args c A prog_13_method_16_code 4 RX11) (hr : True → RX (WM ca a) D p l e rm_M_X11_readF__0 s m args below meth c A prog_13_method_16_code Q .ireturn [.int r] u) {t : fw_S}  {H : Heap} {locs : List Loc} {ls : Array Slot} (hf : b_M_X11_readF__0_0  t  = some (r, u)) (hP : va_P D classes (WM ca a t) H) (hS : va_S A s.heap H locs) (hl : lv_has ls 4 [(0, .ref (a 0))]) : W p l e rm_M_X11_readF__0 s m args below meth c H locs 0 0 Q (F0 m 0 ls []) := by
  obtain ⟨hx, hb, hml, hown, hts, hN, hK, hD, hA⟩ := id C
  have hf : (if (st_I t 8) < 0 then b_M_X11_readF__0_9 t else b_M_X11_readF__0_7 t) = some (r, u) := hf
  refine lv_aload_n hx hb dX11_readF_0 rfl (lv_at hl 0 rfl) ?_
  refine va_get (D := D) (ci := 11) (v := .int (st_I t 8)) (C := RX11) (T := TX11) (N := 76) hx hb hts inX11 hown hK hP 0 (heM_0 ca a t) rfl 43 (by decide) (hts _ kw_1235) (fun _ h9 => h9) rfl dX11_readF_1 ?_
  refine lv_if_lt (tgt := 9) hx hb dX11_readF_4 (by decide) (fun h_4 => ?_) (fun h_4 => ?_)
  · have hf := fb_t h_4 hf
    exact w_M_X11_readF__0_9 C hr hf hP hS (lv_sub hl [0] rfl)
  · have hf := fb_f h_4 hf
    exact w_M_X11_readF__0_7 C hr hf hP hS (lv_sub hl [] rfl)
set_option maxRecDepth 20000 in
theorem c_M_X11_readF__0 {l : Launch} {D : va_G} {ca : Nat → ClassId} {a : Nat → Nat} {t : fw_S}  {u : fw_S} {r : Int32} (hf : f_M_X11_readF__0 t  = some (r, u)) : MC (WM ca a) D (tyv ca) l yX11_readF (.code yX11_readF prog_13_method_16_code 4 (some .int) :: lw_gd) rm_M_X11_readF__0 [.ref (a 0)] (some (.int r)) t u := by
  refine fw_met (okM ca a) (by decide +kernel) rfl rfl (Nat.le_of_ble_eq_true rfl) ?_
  intro p e s m args below meth c A Q ls C hr hk hP hS hl hQ
  exact w_M_X11_readF__0_0 C (fun _ => fw_ri C hr hk hQ) hf hP hS (lv_sub hl [0] rfl)
