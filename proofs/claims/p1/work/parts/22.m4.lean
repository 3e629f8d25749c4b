theorem dX11_fill_0 : decode prog_13_method_85_code 0 = .ok (.iload_n 1, 1) := by decide +kernel
theorem dX11_fill_1 : decode prog_13_method_85_code 1 = .ok (.invokestatic 423, 3) := by decide +kernel
theorem dX11_fill_4 : decode prog_13_method_85_code 4 = .ok (.ifCond .eq 10, 3) := by decide +kernel
theorem dX11_fill_7 : decode prog_13_method_85_code 7 = .ok (.iload_n 3, 1) := by decide +kernel
theorem dX11_fill_8 : decode prog_13_method_85_code 8 = .ok (.invokestatic 361, 3) := by decide +kernel
theorem dX11_fill_11 : decode prog_13_method_85_code 11 = .ok (.ifCond .ne 5, 3) := by decide +kernel
theorem dX11_fill_14 : decode prog_13_method_85_code 14 = .ok (.iconst (-1), 1) := by decide +kernel
theorem dX11_fill_15 : decode prog_13_method_85_code 15 = .ok (.ireturn, 1) := by decide +kernel
theorem dX11_fill_16 : decode prog_13_method_85_code 16 = .ok (.iload 4, 2) := by decide +kernel
theorem dX11_fill_18 : decode prog_13_method_85_code 18 = .ok (.ifCond .lt 12, 3) := by decide +kernel
theorem dX11_fill_21 : decode prog_13_method_85_code 21 = .ok (.iload 4, 2) := by decide +kernel
theorem dX11_fill_23 : decode prog_13_method_85_code 23 = .ok (.bipush 32, 2) := by decide +kernel
theorem dX11_fill_25 : decode prog_13_method_85_code 25 = .ok (.iload_n 3, 1) := by decide +kernel
theorem dX11_fill_26 : decode prog_13_method_85_code 26 = .ok (.isub, 1) := by decide +kernel
theorem dX11_fill_27 : decode prog_13_method_85_code 27 = .ok (.if_icmp .le 6, 3) := by decide +kernel
theorem dX11_fill_30 : decode prog_13_method_85_code 30 = .ok (.bipush (-2), 2) := by decide +kernel
theorem dX11_fill_32 : decode prog_13_method_85_code 32 = .ok (.ireturn, 1) := by decide +kernel
theorem dX11_fill_33 : decode prog_13_method_85_code 33 = .ok (.aload_n 0, 1) := by decide +kernel
theorem dX11_fill_34 : decode prog_13_method_85_code 34 = .ok (.getfield 152, 3) := by decide +kernel
theorem dX11_fill_37 : decode prog_13_method_85_code 37 = .ok (.iload_n 1, 1) := by decide +kernel
theorem dX11_fill_38 : decode prog_13_method_85_code 38 = .ok (.iaload, 1) := by decide +kernel
theorem dX11_fill_39 : decode prog_13_method_85_code 39 = .ok (.ifCond .ge 6, 3) := by decide +kernel
theorem dX11_fill_42 : decode prog_13_method_85_code 42 = .ok (.bipush (-11), 2) := by decide +kernel
theorem dX11_fill_44 : decode prog_13_method_85_code 44 = .ok (.ireturn, 1) := by decide +kernel
theorem dX11_fill_45 : decode prog_13_method_85_code 45 = .ok (.iconst 0, 1) := by decide +kernel
theorem dX11_fill_46 : decode prog_13_method_85_code 46 = .ok (.istore 5, 2) := by decide +kernel
theorem dX11_fill_48 : decode prog_13_method_85_code 48 = .ok (.iload 5, 2) := by decide +kernel
theorem dX11_fill_50 : decode prog_13_method_85_code 50 = .ok (.iload 4, 2) := by decide +kernel
theorem dX11_fill_52 : decode prog_13_method_85_code 52 = .ok (.if_icmp .ge 83, 3) := by decide +kernel
theorem dX11_fill_55 : decode prog_13_method_85_code 55 = .ok (.iload_n 2, 1) := by decide +kernel
theorem dX11_fill_56 : decode prog_13_method_85_code 56 = .ok (.ifCond .lt 18, 3) := by decide +kernel
theorem dX11_fill_59 : decode prog_13_method_85_code 59 = .ok (.iload_n 2, 1) := by decide +kernel
theorem dX11_fill_60 : decode prog_13_method_85_code 60 = .ok (.aload_n 0, 1) := by decide +kernel
theorem dX11_fill_61 : decode prog_13_method_85_code 61 = .ok (.getfield 152, 3) := by decide +kernel
theorem dX11_fill_64 : decode prog_13_method_85_code 64 = .ok (.iload_n 1, 1) := by decide +kernel
theorem dX11_fill_65 : decode prog_13_method_85_code 65 = .ok (.iaload, 1) := by decide +kernel
theorem dX11_fill_66 : decode prog_13_method_85_code 66 = .ok (.iconst 1, 1) := by decide +kernel
theorem dX11_fill_67 : decode prog_13_method_85_code 67 = .ok (.isub, 1) := by decide +kernel
theorem dX11_fill_68 : decode prog_13_method_85_code 68 = .ok (.iload 5, 2) := by decide +kernel
theorem dX11_fill_70 : decode prog_13_method_85_code 70 = .ok (.isub, 1) := by decide +kernel
theorem dX11_fill_71 : decode prog_13_method_85_code 71 = .ok (.if_icmp .le 6, 3) := by decide +kernel
theorem dX11_fill_74 : decode prog_13_method_85_code 74 = .ok (.bipush (-13), 2) := by decide +kernel
theorem dX11_fill_76 : decode prog_13_method_85_code 76 = .ok (.ireturn, 1) := by decide +kernel
theorem dX11_fill_77 : decode prog_13_method_85_code 77 = .ok (.aload_n 0, 1) := by decide +kernel
theorem dX11_fill_78 : decode prog_13_method_85_code 78 = .ok (.getfield 149, 3) := by decide +kernel
theorem dX11_fill_81 : decode prog_13_method_85_code 81 = .ok (.bipush 40, 2) := by decide +kernel
theorem dX11_fill_83 : decode prog_13_method_85_code 83 = .ok (.iload_n 1, 1) := by decide +kernel
theorem dX11_fill_84 : decode prog_13_method_85_code 84 = .ok (.imul, 1) := by decide +kernel
theorem dX11_fill_85 : decode prog_13_method_85_code 85 = .ok (.iload_n 2, 1) := by decide +kernel
theorem dX11_fill_86 : decode prog_13_method_85_code 86 = .ok (.iadd, 1) := by decide +kernel
theorem dX11_fill_87 : decode prog_13_method_85_code 87 = .ok (.iload 5, 2) := by decide +kernel
theorem dX11_fill_89 : decode prog_13_method_85_code 89 = .ok (.iadd, 1) := by decide +kernel
theorem dX11_fill_90 : decode prog_13_method_85_code 90 = .ok (.aload_n 0, 1) := by decide +kernel
theorem dX11_fill_91 : decode prog_13_method_85_code 91 = .ok (.getfield 15, 3) := by decide +kernel
theorem dX11_fill_94 : decode prog_13_method_85_code 94 = .ok (.iload_n 3, 1) := by decide +kernel
theorem dX11_fill_95 : decode prog_13_method_85_code 95 = .ok (.iload 5, 2) := by decide +kernel
theorem dX11_fill_97 : decode prog_13_method_85_code 97 = .ok (.iadd, 1) := by decide +kernel
theorem dX11_fill_98 : decode prog_13_method_85_code 98 = .ok (.iaload, 1) := by decide +kernel
theorem dX11_fill_99 : decode prog_13_method_85_code 99 = .ok (.ifCond .eq 20, 3) := by decide +kernel
theorem dX11_fill_102 : decode prog_13_method_85_code 102 = .ok (.ldc2_w 255, 3) := by decide +kernel
theorem dX11_fill_105 : decode prog_13_method_85_code 105 = .ok (.aload_n 0, 1) := by decide +kernel
theorem dX11_fill_106 : decode prog_13_method_85_code 106 = .ok (.getfield 15, 3) := by decide +kernel
theorem dX11_fill_109 : decode prog_13_method_85_code 109 = .ok (.iload_n 3, 1) := by decide +kernel
theorem dX11_fill_110 : decode prog_13_method_85_code 110 = .ok (.iload 5, 2) := by decide +kernel
theorem dX11_fill_112 : decode prog_13_method_85_code 112 = .ok (.iadd, 1) := by decide +kernel
theorem dX11_fill_113 : decode prog_13_method_85_code 113 = .ok (.iaload, 1) := by decide +kernel
theorem dX11_fill_114 : decode prog_13_method_85_code 114 = .ok (.i2l, 1) := by decide +kernel
theorem dX11_fill_115 : decode prog_13_method_85_code 115 = .ok (.ladd, 1) := by decide +kernel
theorem dX11_fill_116 : decode prog_13_method_85_code 116 = .ok (.goto 12, 3) := by decide +kernel
theorem dX11_fill_119 : decode prog_13_method_85_code 119 = .ok (.aload_n 0, 1) := by decide +kernel
theorem dX11_fill_120 : decode prog_13_method_85_code 120 = .ok (.getfield 30, 3) := by decide +kernel
theorem dX11_fill_123 : decode prog_13_method_85_code 123 = .ok (.iload_n 3, 1) := by decide +kernel
theorem dX11_fill_124 : decode prog_13_method_85_code 124 = .ok (.iload 5, 2) := by decide +kernel
theorem dX11_fill_126 : decode prog_13_method_85_code 126 = .ok (.iadd, 1) := by decide +kernel
theorem dX11_fill_127 : decode prog_13_method_85_code 127 = .ok (.laload, 1) := by decide +kernel
theorem dX11_fill_128 : decode prog_13_method_85_code 128 = .ok (.lastore, 1) := by decide +kernel
theorem dX11_fill_129 : decode prog_13_method_85_code 129 = .ok (.iinc 5 1, 3) := by decide +kernel
theorem dX11_fill_132 : decode prog_13_method_85_code 132 = .ok (.goto (-84), 3) := by decide +kernel
theorem dX11_fill_135 : decode prog_13_method_85_code 135 = .ok (.iload 4, 2) := by decide +kernel
theorem dX11_fill_137 : decode prog_13_method_85_code 137 = .ok (.ireturn, 1) := by decide +kernel
theorem dX11_get_0 : decode prog_13_method_83_code 0 = .ok (.iload_n 1, 1) := by decide +kernel
theorem dX11_get_1 : decode prog_13_method_83_code 1 = .ok (.invokestatic 423, 3) := by decide +kernel
theorem dX11_get_4 : decode prog_13_method_83_code 4 = .ok (.ifCond .eq 19, 3) := by decide +kernel
theorem dX11_get_7 : decode prog_13_method_83_code 7 = .ok (.iload_n 2, 1) := by decide +kernel
theorem dX11_get_8 : decode prog_13_method_83_code 8 = .ok (.iconst 0, 1) := by decide +kernel
theorem dX11_get_9 : decode prog_13_method_83_code 9 = .ok (.aload_n 0, 1) := by decide +kernel
theorem dX11_get_10 : decode prog_13_method_83_code 10 = .ok (.getfield 152, 3) := by decide +kernel
theorem dX11_get_13 : decode prog_13_method_83_code 13 = .ok (.iload_n 1, 1) := by decide +kernel
theorem dX11_get_14 : decode prog_13_method_83_code 14 = .ok (.iaload, 1) := by decide +kernel
theorem dX11_get_15 : decode prog_13_method_83_code 15 = .ok (.iconst 1, 1) := by decide +kernel
theorem dX11_get_16 : decode prog_13_method_83_code 16 = .ok (.isub, 1) := by decide +kernel
theorem dX11_get_17 : decode prog_13_method_83_code 17 = .ok (.invokestatic 173, 3) := by decide +kernel
theorem dX11_get_20 : decode prog_13_method_83_code 20 = .ok (.ifCond .ne 9, 3) := by decide +kernel
theorem dX11_get_23 : decode prog_13_method_83_code 23 = .ok (.ldc2_w 255, 3) := by decide +kernel
theorem dX11_get_26 : decode prog_13_method_83_code 26 = .ok (.goto 14, 3) := by decide +kernel
theorem dX11_get_29 : decode prog_13_method_83_code 29 = .ok (.aload_n 0, 1) := by decide +kernel
theorem dX11_get_30 : decode prog_13_method_83_code 30 = .ok (.getfield 149, 3) := by decide +kernel
theorem dX11_get_33 : decode prog_13_method_83_code 33 = .ok (.bipush 40, 2) := by decide +kernel
theorem dX11_get_35 : decode prog_13_method_83_code 35 = .ok (.iload_n 1, 1) := by decide +kernel
theorem dX11_get_36 : decode prog_13_method_83_code 36 = .ok (.imul, 1) := by decide +kernel
theorem dX11_get_37 : decode prog_13_method_83_code 37 = .ok (.iload_n 2, 1) := by decide +kernel
theorem dX11_get_38 : decode prog_13_method_83_code 38 = .ok (.iadd, 1) := by decide +kernel
theorem dX11_get_39 : decode prog_13_method_83_code 39 = .ok (.laload, 1) := by decide +kernel
theorem dX11_get_40 : decode prog_13_method_83_code 40 = .ok (.lreturn, 1) := by decide +kernel
theorem dX11_isList_0 : decode prog_13_method_80_code 0 = .ok (.iload_n 0, 1) := by decide +kernel
theorem dX11_isList_1 : decode prog_13_method_80_code 1 = .ok (.iconst 0, 1) := by decide +kernel
theorem dX11_isList_2 : decode prog_13_method_80_code 2 = .ok (.iconst 3, 1) := by decide +kernel
theorem dX11_isList_3 : decode prog_13_method_80_code 3 = .ok (.invokestatic 173, 3) := by decide +kernel
theorem dX11_isList_6 : decode prog_13_method_80_code 6 = .ok (.ireturn, 1) := by decide +kernel
theorem dX11_list_0 : decode prog_13_method_81_code 0 = .ok (.iload_n 1, 1) := by decide +kernel
theorem dX11_list_1 : decode prog_13_method_81_code 1 = .ok (.invokestatic 423, 3) := by decide +kernel
theorem dX11_list_4 : decode prog_13_method_81_code 4 = .ok (.ifCond .ne 5, 3) := by decide +kernel
theorem dX11_list_7 : decode prog_13_method_81_code 7 = .ok (.iconst (-1), 1) := by decide +kernel
theorem dX11_list_8 : decode prog_13_method_81_code 8 = .ok (.ireturn, 1) := by decide +kernel
theorem dX11_list_9 : decode prog_13_method_81_code 9 = .ok (.iload_n 2, 1) := by decide +kernel
theorem dX11_list_10 : decode prog_13_method_81_code 10 = .ok (.bipush 40, 2) := by decide +kernel
theorem dX11_list_12 : decode prog_13_method_81_code 12 = .ok (.if_icmp .le 6, 3) := by decide +kernel
theorem dX11_list_15 : decode prog_13_method_81_code 15 = .ok (.bipush (-2), 2) := by decide +kernel
theorem dX11_list_17 : decode prog_13_method_81_code 17 = .ok (.ireturn, 1) := by decide +kernel
theorem dX11_list_18 : decode prog_13_method_81_code 18 = .ok (.iload_n 2, 1) := by decide +kernel
theorem dX11_list_19 : decode prog_13_method_81_code 19 = .ok (.ifCond .ge 6, 3) := by decide +kernel
theorem dX11_list_22 : decode prog_13_method_81_code 22 = .ok (.bipush (-14), 2) := by decide +kernel
theorem dX11_list_24 : decode prog_13_method_81_code 24 = .ok (.ireturn, 1) := by decide +kernel
theorem dX11_list_25 : decode prog_13_method_81_code 25 = .ok (.aload_n 0, 1) := by decide +kernel
theorem dX11_list_26 : decode prog_13_method_81_code 26 = .ok (.getfield 152, 3) := by decide +kernel
theorem dX11_list_29 : decode prog_13_method_81_code 29 = .ok (.iload_n 1, 1) := by decide +kernel
theorem dX11_list_30 : decode prog_13_method_81_code 30 = .ok (.iload_n 2, 1) := by decide +kernel
theorem dX11_list_31 : decode prog_13_method_81_code 31 = .ok (.iastore, 1) := by decide +kernel
theorem dX11_list_32 : decode prog_13_method_81_code 32 = .ok (.iconst 0, 1) := by decide +kernel
theorem dX11_list_33 : decode prog_13_method_81_code 33 = .ok (.istore_n 3, 1) := by decide +kernel
theorem dX11_list_34 : decode prog_13_method_81_code 34 = .ok (.iload_n 3, 1) := by decide +kernel
theorem dX11_list_35 : decode prog_13_method_81_code 35 = .ok (.bipush 40, 2) := by decide +kernel
theorem dX11_list_37 : decode prog_13_method_81_code 37 = .ok (.if_icmp .ge 21, 3) := by decide +kernel
theorem dX11_list_40 : decode prog_13_method_81_code 40 = .ok (.aload_n 0, 1) := by decide +kernel
theorem dX11_list_41 : decode prog_13_method_81_code 41 = .ok (.getfield 149, 3) := by decide +kernel
theorem dX11_list_44 : decode prog_13_method_81_code 44 = .ok (.bipush 40, 2) := by decide +kernel
theorem dX11_list_46 : decode prog_13_method_81_code 46 = .ok (.iload_n 1, 1) := by decide +kernel
theorem dX11_list_47 : decode prog_13_method_81_code 47 = .ok (.imul, 1) := by decide +kernel
theorem dX11_list_48 : decode prog_13_method_81_code 48 = .ok (.iload_n 3, 1) := by decide +kernel
theorem dX11_list_49 : decode prog_13_method_81_code 49 = .ok (.iadd, 1) := by decide +kernel
theorem dX11_list_50 : decode prog_13_method_81_code 50 = .ok (.lconst 0, 1) := by decide +kernel
theorem dX11_list_51 : decode prog_13_method_81_code 51 = .ok (.lastore, 1) := by decide +kernel
theorem dX11_list_52 : decode prog_13_method_81_code 52 = .ok (.iinc 3 1, 3) := by decide +kernel
theorem dX11_list_55 : decode prog_13_method_81_code 55 = .ok (.goto (-21), 3) := by decide +kernel
theorem dX11_list_58 : decode prog_13_method_81_code 58 = .ok (.iconst 1, 1) := by decide +kernel
theorem dX11_list_59 : decode prog_13_method_81_code 59 = .ok (.ireturn, 1) := by decide +kernel
theorem dX11_log__0 : decode prog_13_method_76_code 0 = .ok (.iload_n 1, 1) := by decide +kernel
theorem dX11_log__1 : decode prog_13_method_76_code 1 = .ok (.iconst 0, 1) := by decide +kernel
theorem dX11_log__2 : decode prog_13_method_76_code 2 = .ok (.aload_n 0, 1) := by decide +kernel
theorem dX11_log__3 : decode prog_13_method_76_code 3 = .ok (.getfield 309, 3) := by decide +kernel
theorem dX11_log__6 : decode prog_13_method_76_code 6 = .ok (.iconst 1, 1) := by decide +kernel
theorem dX11_log__7 : decode prog_13_method_76_code 7 = .ok (.isub, 1) := by decide +kernel
theorem dX11_log__8 : decode prog_13_method_76_code 8 = .ok (.invokestatic 173, 3) := by decide +kernel
theorem dX11_log__11 : decode prog_13_method_76_code 11 = .ok (.ifCond .eq 12, 3) := by decide +kernel
theorem dX11_log__14 : decode prog_13_method_76_code 14 = .ok (.iload_n 2, 1) := by decide +kernel
theorem dX11_log__15 : decode prog_13_method_76_code 15 = .ok (.iconst 0, 1) := by decide +kernel
theorem dX11_log__16 : decode prog_13_method_76_code 16 = .ok (.iconst 2, 1) := by decide +kernel
theorem dX11_log__17 : decode prog_13_method_76_code 17 = .ok (.invokestatic 173, 3) := by decide +kernel
theorem dX11_log__20 : decode prog_13_method_76_code 20 = .ok (.ifCond .ne 7, 3) := by decide +kernel
theorem dX11_log__23 : decode prog_13_method_76_code 23 = .ok (.iconst (-1), 1) := by decide +kernel
theorem dX11_log__24 : decode prog_13_method_76_code 24 = .ok (.goto 36, 3) := by decide +kernel
theorem dX11_log__27 : decode prog_13_method_76_code 27 = .ok (.iload_n 2, 1) := by decide +kernel
theorem dX11_log__28 : decode prog_13_method_76_code 28 = .ok (.ifCond .ne 12, 3) := by decide +kernel
theorem dX11_log__31 : decode prog_13_method_76_code 31 = .ok (.aload_n 0, 1) := by decide +kernel
theorem dX11_log__32 : decode prog_13_method_76_code 32 = .ok (.getfield 125, 3) := by decide +kernel
theorem dX11_log__35 : decode prog_13_method_76_code 35 = .ok (.iload_n 1, 1) := by decide +kernel
theorem dX11_log__36 : decode prog_13_method_76_code 36 = .ok (.iaload, 1) := by decide +kernel
theorem dX11_log__37 : decode prog_13_method_76_code 37 = .ok (.goto 23, 3) := by decide +kernel
theorem dX11_log__40 : decode prog_13_method_76_code 40 = .ok (.iload_n 2, 1) := by decide +kernel
theorem dX11_log__41 : decode prog_13_method_76_code 41 = .ok (.iconst 1, 1) := by decide +kernel
theorem dX11_log__42 : decode prog_13_method_76_code 42 = .ok (.if_icmp .ne 12, 3) := by decide +kernel
theorem dX11_log__45 : decode prog_13_method_76_code 45 = .ok (.aload_n 0, 1) := by decide +kernel
theorem dX11_log__46 : decode prog_13_method_76_code 46 = .ok (.getfield 128, 3) := by decide +kernel
theorem dX11_log__49 : decode prog_13_method_76_code 49 = .ok (.iload_n 1, 1) := by decide +kernel
theorem dX11_log__50 : decode prog_13_method_76_code 50 = .ok (.iaload, 1) := by decide +kernel
theorem dX11_log__51 : decode prog_13_method_76_code 51 = .ok (.goto 9, 3) := by decide +kernel
theorem dX11_log__54 : decode prog_13_method_76_code 54 = .ok (.aload_n 0, 1) := by decide +kernel
theorem dX11_log__55 : decode prog_13_method_76_code 55 = .ok (.getfield 131, 3) := by decide +kernel
theorem dX11_log__58 : decode prog_13_method_76_code 58 = .ok (.iload_n 1, 1) := by decide +kernel
theorem dX11_log__59 : decode prog_13_method_76_code 59 = .ok (.iaload, 1) := by decide +kernel
theorem dX11_log__60 : decode prog_13_method_76_code 60 = .ok (.ireturn, 1) := by decide +kernel
theorem dX11_logged_0 : decode prog_13_method_77_code 0 = .ok (.iload_n 1, 1) := by decide +kernel
theorem dX11_logged_1 : decode prog_13_method_77_code 1 = .ok (.iconst 0, 1) := by decide +kernel
theorem dX11_logged_2 : decode prog_13_method_77_code 2 = .ok (.aload_n 0, 1) := by decide +kernel
theorem dX11_logged_3 : decode prog_13_method_77_code 3 = .ok (.getfield 309, 3) := by decide +kernel
theorem dX11_logged_6 : decode prog_13_method_77_code 6 = .ok (.iconst 1, 1) := by decide +kernel
theorem dX11_logged_7 : decode prog_13_method_77_code 7 = .ok (.isub, 1) := by decide +kernel
theorem dX11_logged_8 : decode prog_13_method_77_code 8 = .ok (.invokestatic 173, 3) := by decide +kernel
theorem dX11_logged_11 : decode prog_13_method_77_code 11 = .ok (.ifCond .eq 34, 3) := by decide +kernel
theorem dX11_logged_14 : decode prog_13_method_77_code 14 = .ok (.iload_n 2, 1) := by decide +kernel
theorem dX11_logged_15 : decode prog_13_method_77_code 15 = .ok (.iconst 0, 1) := by decide +kernel
theorem dX11_logged_16 : decode prog_13_method_77_code 16 = .ok (.iconst 1, 1) := by decide +kernel
theorem dX11_logged_17 : decode prog_13_method_77_code 17 = .ok (.invokestatic 173, 3) := by decide +kernel
theorem dX11_logged_20 : decode prog_13_method_77_code 20 = .ok (.ifCond .eq 25, 3) := by decide +kernel
theorem dX11_logged_23 : decode prog_13_method_77_code 23 = .ok (.iload_n 2, 1) := by decide +kernel
theorem dX11_logged_24 : decode prog_13_method_77_code 24 = .ok (.ifCond .ne 12, 3) := by decide +kernel
theorem dX11_logged_27 : decode prog_13_method_77_code 27 = .ok (.aload_n 0, 1) := by decide +kernel
theorem dX11_logged_28 : decode prog_13_method_77_code 28 = .ok (.getfield 128, 3) := by decide +kernel
theorem dX11_logged_31 : decode prog_13_method_77_code 31 = .ok (.iload_n 1, 1) := by decide +kernel
theorem dX11_logged_32 : decode prog_13_method_77_code 32 = .ok (.iaload, 1) := by decide +kernel
theorem dX11_logged_33 : decode prog_13_method_77_code 33 = .ok (.goto 9, 3) := by decide +kernel
theorem dX11_logged_36 : decode prog_13_method_77_code 36 = .ok (.aload_n 0, 1) := by decide +kernel
theorem dX11_logged_37 : decode prog_13_method_77_code 37 = .ok (.getfield 131, 3) := by decide +kernel
theorem dX11_logged_40 : decode prog_13_method_77_code 40 = .ok (.iload_n 1, 1) := by decide +kernel
theorem dX11_logged_41 : decode prog_13_method_77_code 41 = .ok (.iaload, 1) := by decide +kernel
theorem dX11_logged_42 : decode prog_13_method_77_code 42 = .ok (.ifCond .eq 7, 3) := by decide +kernel
theorem dX11_logged_45 : decode prog_13_method_77_code 45 = .ok (.ldc2_w 255, 3) := by decide +kernel
theorem dX11_logged_48 : decode prog_13_method_77_code 48 = .ok (.lreturn, 1) := by decide +kernel
theorem dX11_logged_49 : decode prog_13_method_77_code 49 = .ok (.iload_n 2, 1) := by decide +kernel
theorem dX11_logged_50 : decode prog_13_method_77_code 50 = .ok (.ifCond .ne 12, 3) := by decide +kernel
theorem dX11_logged_53 : decode prog_13_method_77_code 53 = .ok (.aload_n 0, 1) := by decide +kernel
theorem dX11_logged_54 : decode prog_13_method_77_code 54 = .ok (.getfield 140, 3) := by decide +kernel
theorem dX11_logged_57 : decode prog_13_method_77_code 57 = .ok (.iload_n 1, 1) := by decide +kernel
theorem dX11_logged_58 : decode prog_13_method_77_code 58 = .ok (.laload, 1) := by decide +kernel
theorem dX11_logged_59 : decode prog_13_method_77_code 59 = .ok (.goto 9, 3) := by decide +kernel
theorem dX11_logged_62 : decode prog_13_method_77_code 62 = .ok (.aload_n 0, 1) := by decide +kernel
theorem dX11_logged_63 : decode prog_13_method_77_code 63 = .ok (.getfield 143, 3) := by decide +kernel
theorem dX11_logged_66 : decode prog_13_method_77_code 66 = .ok (.iload_n 1, 1) := by decide +kernel
theorem dX11_logged_67 : decode prog_13_method_77_code 67 = .ok (.laload, 1) := by decide +kernel
theorem dX11_logged_68 : decode prog_13_method_77_code 68 = .ok (.lreturn, 1) := by decide +kernel
theorem dX11_move_0 : decode prog_13_method_84_code 0 = .ok (.iload_n 1, 1) := by decide +kernel
theorem dX11_move_1 : decode prog_13_method_84_code 1 = .ok (.invokestatic 423, 3) := by decide +kernel
theorem dX11_move_4 : decode prog_13_method_84_code 4 = .ok (.ifCond .eq 10, 3) := by decide +kernel
theorem dX11_move_7 : decode prog_13_method_84_code 7 = .ok (.iload_n 3, 1) := by decide +kernel
theorem dX11_move_8 : decode prog_13_method_84_code 8 = .ok (.invokestatic 423, 3) := by decide +kernel
theorem dX11_move_11 : decode prog_13_method_84_code 11 = .ok (.ifCond .ne 5, 3) := by decide +kernel
theorem dX11_move_14 : decode prog_13_method_84_code 14 = .ok (.iconst (-1), 1) := by decide +kernel
theorem dX11_move_15 : decode prog_13_method_84_code 15 = .ok (.ireturn, 1) := by decide +kernel
theorem dX11_move_16 : decode prog_13_method_84_code 16 = .ok (.aload_n 0, 1) := by decide +kernel
theorem dX11_move_17 : decode prog_13_method_84_code 17 = .ok (.getfield 152, 3) := by decide +kernel
theorem dX11_move_20 : decode prog_13_method_84_code 20 = .ok (.iload_n 1, 1) := by decide +kernel
theorem dX11_move_21 : decode prog_13_method_84_code 21 = .ok (.iaload, 1) := by decide +kernel
theorem dX11_move_22 : decode prog_13_method_84_code 22 = .ok (.ifCond .lt 12, 3) := by decide +kernel
theorem dX11_move_25 : decode prog_13_method_84_code 25 = .ok (.aload_n 0, 1) := by decide +kernel
theorem dX11_move_26 : decode prog_13_method_84_code 26 = .ok (.getfield 152, 3) := by decide +kernel
theorem dX11_move_29 : decode prog_13_method_84_code 29 = .ok (.iload_n 3, 1) := by decide +kernel
theorem dX11_move_30 : decode prog_13_method_84_code 30 = .ok (.iaload, 1) := by decide +kernel
theorem dX11_move_31 : decode prog_13_method_84_code 31 = .ok (.ifCond .ge 6, 3) := by decide +kernel
theorem dX11_move_34 : decode prog_13_method_84_code 34 = .ok (.bipush (-11), 2) := by decide +kernel
theorem dX11_move_36 : decode prog_13_method_84_code 36 = .ok (.ireturn, 1) := by decide +kernel
theorem dX11_move_37 : decode prog_13_method_84_code 37 = .ok (.iload 5, 2) := by decide +kernel
theorem dX11_move_39 : decode prog_13_method_84_code 39 = .ok (.ifCond .lt 39, 3) := by decide +kernel
theorem dX11_move_42 : decode prog_13_method_84_code 42 = .ok (.iload_n 2, 1) := by decide +kernel
theorem dX11_move_43 : decode prog_13_method_84_code 43 = .ok (.ifCond .lt 35, 3) := by decide +kernel
theorem dX11_move_46 : decode prog_13_method_84_code 46 = .ok (.iload 4, 2) := by decide +kernel
theorem dX11_move_48 : decode prog_13_method_84_code 48 = .ok (.ifCond .lt 30, 3) := by decide +kernel
theorem dX11_move_51 : decode prog_13_method_84_code 51 = .ok (.iload_n 2, 1) := by decide +kernel
theorem dX11_move_52 : decode prog_13_method_84_code 52 = .ok (.aload_n 0, 1) := by decide +kernel
theorem dX11_move_53 : decode prog_13_method_84_code 53 = .ok (.getfield 152, 3) := by decide +kernel
theorem dX11_move_56 : decode prog_13_method_84_code 56 = .ok (.iload_n 1, 1) := by decide +kernel
theorem dX11_move_57 : decode prog_13_method_84_code 57 = .ok (.iaload, 1) := by decide +kernel
theorem dX11_move_58 : decode prog_13_method_84_code 58 = .ok (.iload 5, 2) := by decide +kernel
theorem dX11_move_60 : decode prog_13_method_84_code 60 = .ok (.isub, 1) := by decide +kernel
theorem dX11_move_61 : decode prog_13_method_84_code 61 = .ok (.if_icmp .gt 17, 3) := by decide +kernel
theorem dX11_move_64 : decode prog_13_method_84_code 64 = .ok (.iload 4, 2) := by decide +kernel
theorem dX11_move_66 : decode prog_13_method_84_code 66 = .ok (.aload_n 0, 1) := by decide +kernel
theorem dX11_move_67 : decode prog_13_method_84_code 67 = .ok (.getfield 152, 3) := by decide +kernel
theorem dX11_move_70 : decode prog_13_method_84_code 70 = .ok (.iload_n 3, 1) := by decide +kernel
theorem dX11_move_71 : decode prog_13_method_84_code 71 = .ok (.iaload, 1) := by decide +kernel
theorem dX11_move_72 : decode prog_13_method_84_code 72 = .ok (.iload 5, 2) := by decide +kernel
theorem dX11_move_74 : decode prog_13_method_84_code 74 = .ok (.isub, 1) := by decide +kernel
theorem dX11_move_75 : decode prog_13_method_84_code 75 = .ok (.if_icmp .le 6, 3) := by decide +kernel
theorem dX11_move_78 : decode prog_13_method_84_code 78 = .ok (.bipush (-13), 2) := by decide +kernel
theorem dX11_move_80 : decode prog_13_method_84_code 80 = .ok (.ireturn, 1) := by decide +kernel
theorem dX11_move_81 : decode prog_13_method_84_code 81 = .ok (.iconst 0, 1) := by decide +kernel
theorem dX11_move_82 : decode prog_13_method_84_code 82 = .ok (.istore 6, 2) := by decide +kernel
theorem dX11_move_84 : decode prog_13_method_84_code 84 = .ok (.iload 6, 2) := by decide +kernel
theorem dX11_move_86 : decode prog_13_method_84_code 86 = .ok (.iload 5, 2) := by decide +kernel
theorem dX11_move_88 : decode prog_13_method_84_code 88 = .ok (.if_icmp .ge 58, 3) := by decide +kernel
theorem dX11_move_91 : decode prog_13_method_84_code 91 = .ok (.iload_n 2, 1) := by decide +kernel
theorem dX11_move_92 : decode prog_13_method_84_code 92 = .ok (.iload 4, 2) := by decide +kernel
theorem dX11_move_94 : decode prog_13_method_84_code 94 = .ok (.if_icmp .ge 13, 3) := by decide +kernel
theorem dX11_move_97 : decode prog_13_method_84_code 97 = .ok (.iload 5, 2) := by decide +kernel
theorem dX11_move_99 : decode prog_13_method_84_code 99 = .ok (.iconst 1, 1) := by decide +kernel
theorem dX11_move_100 : decode prog_13_method_84_code 100 = .ok (.isub, 1) := by decide +kernel
theorem dX11_move_101 : decode prog_13_method_84_code 101 = .ok (.iload 6, 2) := by decide +kernel
theorem dX11_move_103 : decode prog_13_method_84_code 103 = .ok (.isub, 1) := by decide +kernel
theorem dX11_move_104 : decode prog_13_method_84_code 104 = .ok (.goto 5, 3) := by decide +kernel
theorem dX11_move_107 : decode prog_13_method_84_code 107 = .ok (.iload 6, 2) := by decide +kernel
theorem dX11_move_109 : decode prog_13_method_84_code 109 = .ok (.istore 7, 2) := by decide +kernel
theorem dX11_move_111 : decode prog_13_method_84_code 111 = .ok (.aload_n 0, 1) := by decide +kernel
theorem dX11_move_112 : decode prog_13_method_84_code 112 = .ok (.getfield 149, 3) := by decide +kernel
theorem dX11_move_115 : decode prog_13_method_84_code 115 = .ok (.bipush 40, 2) := by decide +kernel
theorem dX11_move_117 : decode prog_13_method_84_code 117 = .ok (.iload_n 3, 1) := by decide +kernel
theorem dX11_move_118 : decode prog_13_method_84_code 118 = .ok (.imul, 1) := by decide +kernel
theorem dX11_move_119 : decode prog_13_method_84_code 119 = .ok (.iload 4, 2) := by decide +kernel
theorem dX11_move_121 : decode prog_13_method_84_code 121 = .ok (.iadd, 1) := by decide +kernel
theorem dX11_move_122 : decode prog_13_method_84_code 122 = .ok (.iload 7, 2) := by decide +kernel
theorem dX11_move_124 : decode prog_13_method_84_code 124 = .ok (.iadd, 1) := by decide +kernel
theorem dX11_move_125 : decode prog_13_method_84_code 125 = .ok (.aload_n 0, 1) := by decide +kernel
theorem dX11_move_126 : decode prog_13_method_84_code 126 = .ok (.getfield 149, 3) := by decide +kernel
theorem dX11_move_129 : decode prog_13_method_84_code 129 = .ok (.bipush 40, 2) := by decide +kernel
theorem dX11_move_131 : decode prog_13_method_84_code 131 = .ok (.iload_n 1, 1) := by decide +kernel
theorem dX11_move_132 : decode prog_13_method_84_code 132 = .ok (.imul, 1) := by decide +kernel
theorem dX11_move_133 : decode prog_13_method_84_code 133 = .ok (.iload_n 2, 1) := by decide +kernel
theorem dX11_move_134 : decode prog_13_method_84_code 134 = .ok (.iadd, 1) := by decide +kernel
theorem dX11_move_135 : decode prog_13_method_84_code 135 = .ok (.iload 7, 2) := by decide +kernel
theorem dX11_move_137 : decode prog_13_method_84_code 137 = .ok (.iadd, 1) := by decide +kernel
theorem dX11_move_138 : decode prog_13_method_84_code 138 = .ok (.laload, 1) := by decide +kernel
theorem dX11_move_139 : decode prog_13_method_84_code 139 = .ok (.lastore, 1) := by decide +kernel
theorem dX11_move_140 : decode prog_13_method_84_code 140 = .ok (.iinc 6 1, 3) := by decide +kernel
theorem dX11_move_143 : decode prog_13_method_84_code 143 = .ok (.goto (-59), 3) := by decide +kernel
theorem dX11_move_146 : decode prog_13_method_84_code 146 = .ok (.iload 5, 2) := by decide +kernel
theorem dX11_move_148 : decode prog_13_method_84_code 148 = .ok (.ireturn, 1) := by decide +kernel
theorem dX11_past_0 : decode prog_13_method_79_code 0 = .ok (.iload_n 1, 1) := by decide +kernel
theorem dX11_past_1 : decode prog_13_method_79_code 1 = .ok (.iconst 0, 1) := by decide +kernel
theorem dX11_past_2 : decode prog_13_method_79_code 2 = .ok (.aload_n 0, 1) := by decide +kernel
theorem dX11_past_3 : decode prog_13_method_79_code 3 = .ok (.getfield 336, 3) := by decide +kernel
theorem dX11_past_6 : decode prog_13_method_79_code 6 = .ok (.iconst 1, 1) := by decide +kernel
theorem dX11_past_7 : decode prog_13_method_79_code 7 = .ok (.isub, 1) := by decide +kernel
theorem dX11_past_8 : decode prog_13_method_79_code 8 = .ok (.invokestatic 173, 3) := by decide +kernel
theorem dX11_past_11 : decode prog_13_method_79_code 11 = .ok (.ifCond .eq 12, 3) := by decide +kernel
theorem dX11_past_14 : decode prog_13_method_79_code 14 = .ok (.iload_n 2, 1) := by decide +kernel
theorem dX11_past_15 : decode prog_13_method_79_code 15 = .ok (.iconst 0, 1) := by decide +kernel
theorem dX11_past_16 : decode prog_13_method_79_code 16 = .ok (.iconst 3, 1) := by decide +kernel
theorem dX11_past_17 : decode prog_13_method_79_code 17 = .ok (.invokestatic 173, 3) := by decide +kernel
theorem dX11_past_20 : decode prog_13_method_79_code 20 = .ok (.ifCond .ne 7, 3) := by decide +kernel
theorem dX11_past_23 : decode prog_13_method_79_code 23 = .ok (.iconst (-1), 1) := by decide +kernel
theorem dX11_past_24 : decode prog_13_method_79_code 24 = .ok (.goto 13, 3) := by decide +kernel
theorem dX11_past_27 : decode prog_13_method_79_code 27 = .ok (.aload_n 0, 1) := by decide +kernel
theorem dX11_past_28 : decode prog_13_method_79_code 28 = .ok (.getfield 146, 3) := by decide +kernel
theorem dX11_past_31 : decode prog_13_method_79_code 31 = .ok (.iconst 4, 1) := by decide +kernel
theorem dX11_past_32 : decode prog_13_method_79_code 32 = .ok (.iload_n 1, 1) := by decide +kernel
theorem dX11_past_33 : decode prog_13_method_79_code 33 = .ok (.imul, 1) := by decide +kernel
theorem dX11_past_34 : decode prog_13_method_79_code 34 = .ok (.iload_n 2, 1) := by decide +kernel
theorem dX11_past_35 : decode prog_13_method_79_code 35 = .ok (.iadd, 1) := by decide +kernel
theorem dX11_past_36 : decode prog_13_method_79_code 36 = .ok (.iaload, 1) := by decide +kernel
theorem dX11_past_37 : decode prog_13_method_79_code 37 = .ok (.ireturn, 1) := by decide +kernel
theorem dX11_pour_0 : decode prog_13_method_86_code 0 = .ok (.iload_n 1, 1) := by decide +kernel
theorem dX11_pour_1 : decode prog_13_method_86_code 1 = .ok (.invokestatic 423, 3) := by decide +kernel
theorem dX11_pour_4 : decode prog_13_method_86_code 4 = .ok (.ifCond .eq 10, 3) := by decide +kernel
theorem dX11_pour_7 : decode prog_13_method_86_code 7 = .ok (.iload_n 3, 1) := by decide +kernel
theorem dX11_pour_8 : decode prog_13_method_86_code 8 = .ok (.invokestatic 361, 3) := by decide +kernel
theorem dX11_pour_11 : decode prog_13_method_86_code 11 = .ok (.ifCond .ne 5, 3) := by decide +kernel
theorem dX11_pour_14 : decode prog_13_method_86_code 14 = .ok (.iconst (-1), 1) := by decide +kernel
theorem dX11_pour_15 : decode prog_13_method_86_code 15 = .ok (.ireturn, 1) := by decide +kernel
theorem dX11_pour_16 : decode prog_13_method_86_code 16 = .ok (.iload 4, 2) := by decide +kernel
theorem dX11_pour_18 : decode prog_13_method_86_code 18 = .ok (.ifCond .lt 12, 3) := by decide +kernel
theorem dX11_pour_21 : decode prog_13_method_86_code 21 = .ok (.iload 4, 2) := by decide +kernel
theorem dX11_pour_23 : decode prog_13_method_86_code 23 = .ok (.bipush 32, 2) := by decide +kernel
theorem dX11_pour_25 : decode prog_13_method_86_code 25 = .ok (.iload_n 3, 1) := by decide +kernel
theorem dX11_pour_26 : decode prog_13_method_86_code 26 = .ok (.isub, 1) := by decide +kernel
theorem dX11_pour_27 : decode prog_13_method_86_code 27 = .ok (.if_icmp .le 6, 3) := by decide +kernel
theorem dX11_pour_30 : decode prog_13_method_86_code 30 = .ok (.bipush (-2), 2) := by decide +kernel
theorem dX11_pour_32 : decode prog_13_method_86_code 32 = .ok (.ireturn, 1) := by decide +kernel
theorem dX11_pour_33 : decode prog_13_method_86_code 33 = .ok (.aload_n 0, 1) := by decide +kernel
theorem dX11_pour_34 : decode prog_13_method_86_code 34 = .ok (.getfield 152, 3) := by decide +kernel
theorem dX11_pour_37 : decode prog_13_method_86_code 37 = .ok (.iload_n 1, 1) := by decide +kernel
theorem dX11_pour_38 : decode prog_13_method_86_code 38 = .ok (.iaload, 1) := by decide +kernel
theorem dX11_pour_39 : decode prog_13_method_86_code 39 = .ok (.ifCond .ge 6, 3) := by decide +kernel
theorem dX11_pour_42 : decode prog_13_method_86_code 42 = .ok (.bipush (-11), 2) := by decide +kernel
theorem dX11_pour_44 : decode prog_13_method_86_code 44 = .ok (.ireturn, 1) := by decide +kernel
theorem dX11_pour_45 : decode prog_13_method_86_code 45 = .ok (.iload 4, 2) := by decide +kernel
theorem dX11_pour_47 : decode prog_13_method_86_code 47 = .ok (.ifCond .le 23, 3) := by decide +kernel
theorem dX11_pour_50 : decode prog_13_method_86_code 50 = .ok (.iload_n 2, 1) := by decide +kernel
theorem dX11_pour_51 : decode prog_13_method_86_code 51 = .ok (.ifCond .lt 16, 3) := by decide +kernel
theorem dX11_pour_54 : decode prog_13_method_86_code 54 = .ok (.iload_n 2, 1) := by decide +kernel
theorem dX11_pour_55 : decode prog_13_method_86_code 55 = .ok (.aload_n 0, 1) := by decide +kernel
theorem dX11_pour_56 : decode prog_13_method_86_code 56 = .ok (.getfield 152, 3) := by decide +kernel
theorem dX11_pour_59 : decode prog_13_method_86_code 59 = .ok (.iload_n 1, 1) := by decide +kernel
theorem dX11_pour_60 : decode prog_13_method_86_code 60 = .ok (.iaload, 1) := by decide +kernel
theorem dX11_pour_61 : decode prog_13_method_86_code 61 = .ok (.iload 4, 2) := by decide +kernel
theorem dX11_pour_63 : decode prog_13_method_86_code 63 = .ok (.isub, 1) := by decide +kernel
theorem dX11_pour_64 : decode prog_13_method_86_code 64 = .ok (.if_icmp .le 6, 3) := by decide +kernel
theorem dX11_pour_67 : decode prog_13_method_86_code 67 = .ok (.bipush (-13), 2) := by decide +kernel
theorem dX11_pour_69 : decode prog_13_method_86_code 69 = .ok (.ireturn, 1) := by decide +kernel
theorem dX11_pour_70 : decode prog_13_method_86_code 70 = .ok (.aload_n 0, 1) := by decide +kernel
theorem dX11_pour_71 : decode prog_13_method_86_code 71 = .ok (.getfield 342, 3) := by decide +kernel
theorem dX11_pour_74 : decode prog_13_method_86_code 74 = .ok (.ifCond .eq 6, 3) := by decide +kernel
theorem dX11_pour_77 : decode prog_13_method_86_code 77 = .ok (.bipush (-3), 2) := by decide +kernel
theorem dX11_pour_79 : decode prog_13_method_86_code 79 = .ok (.ireturn, 1) := by decide +kernel
theorem dX11_pour_80 : decode prog_13_method_86_code 80 = .ok (.aload_n 0, 1) := by decide +kernel
theorem dX11_pour_81 : decode prog_13_method_86_code 81 = .ok (.invokevirtual 345, 3) := by decide +kernel
theorem dX11_pour_84 : decode prog_13_method_86_code 84 = .ok (.iconst 0, 1) := by decide +kernel
theorem dX11_pour_85 : decode prog_13_method_86_code 85 = .ok (.istore 5, 2) := by decide +kernel
theorem dX11_pour_87 : decode prog_13_method_86_code 87 = .ok (.iload 5, 2) := by decide +kernel
theorem dX11_pour_89 : decode prog_13_method_86_code 89 = .ok (.iload 4, 2) := by decide +kernel
theorem dX11_pour_91 : decode prog_13_method_86_code 91 = .ok (.if_icmp .ge 33, 3) := by decide +kernel
theorem dX11_pour_94 : decode prog_13_method_86_code 94 = .ok (.aload_n 0, 1) := by decide +kernel
theorem dX11_pour_95 : decode prog_13_method_86_code 95 = .ok (.iload_n 3, 1) := by decide +kernel
theorem dX11_pour_96 : decode prog_13_method_86_code 96 = .ok (.iload 5, 2) := by decide +kernel
theorem dX11_pour_98 : decode prog_13_method_86_code 98 = .ok (.iadd, 1) := by decide +kernel
theorem dX11_pour_99 : decode prog_13_method_86_code 99 = .ok (.iconst 1, 1) := by decide +kernel
theorem dX11_pour_100 : decode prog_13_method_86_code 100 = .ok (.aload_n 0, 1) := by decide +kernel
theorem dX11_pour_101 : decode prog_13_method_86_code 101 = .ok (.getfield 149, 3) := by decide +kernel
theorem dX11_pour_104 : decode prog_13_method_86_code 104 = .ok (.bipush 40, 2) := by decide +kernel
theorem dX11_pour_106 : decode prog_13_method_86_code 106 = .ok (.iload_n 1, 1) := by decide +kernel
theorem dX11_pour_107 : decode prog_13_method_86_code 107 = .ok (.imul, 1) := by decide +kernel
theorem dX11_pour_108 : decode prog_13_method_86_code 108 = .ok (.iload_n 2, 1) := by decide +kernel
theorem dX11_pour_109 : decode prog_13_method_86_code 109 = .ok (.iadd, 1) := by decide +kernel
theorem dX11_pour_110 : decode prog_13_method_86_code 110 = .ok (.iload 5, 2) := by decide +kernel
theorem dX11_pour_112 : decode prog_13_method_86_code 112 = .ok (.iadd, 1) := by decide +kernel
theorem dX11_pour_113 : decode prog_13_method_86_code 113 = .ok (.laload, 1) := by decide +kernel
theorem dX11_pour_114 : decode prog_13_method_86_code 114 = .ok (.iconst 0, 1) := by decide +kernel
theorem dX11_pour_115 : decode prog_13_method_86_code 115 = .ok (.invokevirtual 348, 3) := by decide +kernel
theorem dX11_pour_118 : decode prog_13_method_86_code 118 = .ok (.iinc 5 1, 3) := by decide +kernel
theorem dX11_pour_121 : decode prog_13_method_86_code 121 = .ok (.goto (-34), 3) := by decide +kernel
theorem dX11_pour_124 : decode prog_13_method_86_code 124 = .ok (.aload_n 0, 1) := by decide +kernel
theorem dX11_pour_125 : decode prog_13_method_86_code 125 = .ok (.invokevirtual 352, 3) := by decide +kernel
theorem dX11_pour_128 : decode prog_13_method_86_code 128 = .ok (.ireturn, 1) := by decide +kernel
theorem dX11_quit_0 : decode prog_13_method_75_code 0 = .ok (.iload_n 1, 1) := by decide +kernel
theorem dX11_quit_1 : decode prog_13_method_75_code 1 = .ok (.iconst 0, 1) := by decide +kernel
theorem dX11_quit_2 : decode prog_13_method_75_code 2 = .ok (.aload_n 0, 1) := by decide +kernel
theorem dX11_quit_3 : decode prog_13_method_75_code 3 = .ok (.getfield 327, 3) := by decide +kernel
theorem dX11_quit_6 : decode prog_13_method_75_code 6 = .ok (.iconst 1, 1) := by decide +kernel
theorem dX11_quit_7 : decode prog_13_method_75_code 7 = .ok (.isub, 1) := by decide +kernel
theorem dX11_quit_8 : decode prog_13_method_75_code 8 = .ok (.invokestatic 173, 3) := by decide +kernel
theorem dX11_quit_11 : decode prog_13_method_75_code 11 = .ok (.ifCond .ne 5, 3) := by decide +kernel
theorem dX11_quit_14 : decode prog_13_method_75_code 14 = .ok (.iconst (-1), 1) := by decide +kernel
theorem dX11_quit_15 : decode prog_13_method_75_code 15 = .ok (.ireturn, 1) := by decide +kernel
theorem dX11_quit_16 : decode prog_13_method_75_code 16 = .ok (.aload_n 0, 1) := by decide +kernel
theorem dX11_quit_17 : decode prog_13_method_75_code 17 = .ok (.getfield 134, 3) := by decide +kernel
theorem dX11_quit_20 : decode prog_13_method_75_code 20 = .ok (.iload_n 1, 1) := by decide +kernel
theorem dX11_quit_21 : decode prog_13_method_75_code 21 = .ok (.baload, 1) := by decide +kernel
theorem dX11_quit_22 : decode prog_13_method_75_code 22 = .ok (.ifCond .eq 7, 3) := by decide +kernel
theorem dX11_quit_25 : decode prog_13_method_75_code 25 = .ok (.iconst 0, 1) := by decide +kernel
theorem dX11_quit_26 : decode prog_13_method_75_code 26 = .ok (.goto 4, 3) := by decide +kernel
theorem dX11_quit_29 : decode prog_13_method_75_code 29 = .ok (.iconst 1, 1) := by decide +kernel
theorem dX11_quit_30 : decode prog_13_method_75_code 30 = .ok (.istore_n 2, 1) := by decide +kernel
theorem dX11_quit_31 : decode prog_13_method_75_code 31 = .ok (.aload_n 0, 1) := by decide +kernel
theorem dX11_quit_32 : decode prog_13_method_75_code 32 = .ok (.getfield 134, 3) := by decide +kernel
theorem dX11_quit_35 : decode prog_13_method_75_code 35 = .ok (.iload_n 1, 1) := by decide +kernel
theorem dX11_quit_36 : decode prog_13_method_75_code 36 = .ok (.iconst 1, 1) := by decide +kernel
theorem dX11_quit_37 : decode prog_13_method_75_code 37 = .ok (.bastore, 1) := by decide +kernel
theorem dX11_quit_38 : decode prog_13_method_75_code 38 = .ok (.iload_n 2, 1) := by decide +kernel
theorem dX11_quit_39 : decode prog_13_method_75_code 39 = .ok (.ireturn, 1) := by decide +kernel
theorem dX11_set_0 : decode prog_13_method_82_code 0 = .ok (.iload_n 1, 1) := by decide +kernel
theorem dX11_set_1 : decode prog_13_method_82_code 1 = .ok (.invokestatic 423, 3) := by decide +kernel
theorem dX11_set_4 : decode prog_13_method_82_code 4 = .ok (.ifCond .ne 5, 3) := by decide +kernel
theorem dX11_set_7 : decode prog_13_method_82_code 7 = .ok (.iconst (-1), 1) := by decide +kernel
theorem dX11_set_8 : decode prog_13_method_82_code 8 = .ok (.ireturn, 1) := by decide +kernel
theorem dX11_set_9 : decode prog_13_method_82_code 9 = .ok (.aload_n 0, 1) := by decide +kernel
theorem dX11_set_10 : decode prog_13_method_82_code 10 = .ok (.getfield 152, 3) := by decide +kernel
theorem dX11_set_13 : decode prog_13_method_82_code 13 = .ok (.iload_n 1, 1) := by decide +kernel
theorem dX11_set_14 : decode prog_13_method_82_code 14 = .ok (.iaload, 1) := by decide +kernel
theorem dX11_set_15 : decode prog_13_method_82_code 15 = .ok (.ifCond .ge 6, 3) := by decide +kernel
theorem dX11_set_18 : decode prog_13_method_82_code 18 = .ok (.bipush (-11), 2) := by decide +kernel
theorem dX11_set_20 : decode prog_13_method_82_code 20 = .ok (.ireturn, 1) := by decide +kernel
theorem dX11_set_21 : decode prog_13_method_82_code 21 = .ok (.iload_n 2, 1) := by decide +kernel
theorem dX11_set_22 : decode prog_13_method_82_code 22 = .ok (.iconst 0, 1) := by decide +kernel
theorem dX11_set_23 : decode prog_13_method_82_code 23 = .ok (.aload_n 0, 1) := by decide +kernel
theorem dX11_set_24 : decode prog_13_method_82_code 24 = .ok (.getfield 152, 3) := by decide +kernel
theorem dX11_set_27 : decode prog_13_method_82_code 27 = .ok (.iload_n 1, 1) := by decide +kernel
theorem dX11_set_28 : decode prog_13_method_82_code 28 = .ok (.iaload, 1) := by decide +kernel
theorem dX11_set_29 : decode prog_13_method_82_code 29 = .ok (.iconst 1, 1) := by decide +kernel
theorem dX11_set_30 : decode prog_13_method_82_code 30 = .ok (.isub, 1) := by decide +kernel
theorem dX11_set_31 : decode prog_13_method_82_code 31 = .ok (.invokestatic 173, 3) := by decide +kernel
theorem dX11_set_34 : decode prog_13_method_82_code 34 = .ok (.ifCond .ne 6, 3) := by decide +kernel
theorem dX11_set_37 : decode prog_13_method_82_code 37 = .ok (.bipush (-13), 2) := by decide +kernel
theorem dX11_set_39 : decode prog_13_method_82_code 39 = .ok (.ireturn, 1) := by decide +kernel
theorem dX11_set_40 : decode prog_13_method_82_code 40 = .ok (.aload_n 0, 1) := by decide +kernel
theorem dX11_set_41 : decode prog_13_method_82_code 41 = .ok (.getfield 149, 3) := by decide +kernel
theorem dX11_set_44 : decode prog_13_method_82_code 44 = .ok (.bipush 40, 2) := by decide +kernel
theorem dX11_set_46 : decode prog_13_method_82_code 46 = .ok (.iload_n 1, 1) := by decide +kernel
theorem dX11_set_47 : decode prog_13_method_82_code 47 = .ok (.imul, 1) := by decide +kernel
theorem dX11_set_48 : decode prog_13_method_82_code 48 = .ok (.iload_n 2, 1) := by decide +kernel
theorem dX11_set_49 : decode prog_13_method_82_code 49 = .ok (.iadd, 1) := by decide +kernel
theorem dX11_set_50 : decode prog_13_method_82_code 50 = .ok (.lload_n 3, 1) := by decide +kernel
theorem dX11_set_51 : decode prog_13_method_82_code 51 = .ok (.lastore, 1) := by decide +kernel
theorem dX11_set_52 : decode prog_13_method_82_code 52 = .ok (.iconst 1, 1) := by decide +kernel
theorem dX11_set_53 : decode prog_13_method_82_code 53 = .ok (.ireturn, 1) := by decide +kernel
theorem dX11_told__0 : decode prog_13_method_78_code 0 = .ok (.iconst 0, 1) := by decide +kernel
theorem dX11_told__1 : decode prog_13_method_78_code 1 = .ok (.istore_n 2, 1) := by decide +kernel
theorem dX11_told__2 : decode prog_13_method_78_code 2 = .ok (.iload_n 1, 1) := by decide +kernel
theorem dX11_told__3 : decode prog_13_method_78_code 3 = .ok (.tableswitch 266 0 12 #[65, 65, 101, 134, 167, 192, 197, 202, 207, 220, 225, 230, 235], 65) := by decide +kernel
theorem dX11_told__68 : decode prog_13_method_78_code 68 = .ok (.iconst 0, 1) := by decide +kernel
theorem dX11_told__69 : decode prog_13_method_78_code 69 = .ok (.istore_n 3, 1) := by decide +kernel
theorem dX11_told__70 : decode prog_13_method_78_code 70 = .ok (.iload_n 3, 1) := by decide +kernel
theorem dX11_told__71 : decode prog_13_method_78_code 71 = .ok (.bipush 32, 2) := by decide +kernel
theorem dX11_told__73 : decode prog_13_method_78_code 73 = .ok (.if_icmp .ge 29, 3) := by decide +kernel
theorem dX11_told__76 : decode prog_13_method_78_code 76 = .ok (.iload_n 2, 1) := by decide +kernel
theorem dX11_told__77 : decode prog_13_method_78_code 77 = .ok (.aload_n 0, 1) := by decide +kernel
theorem dX11_told__78 : decode prog_13_method_78_code 78 = .ok (.getfield 11, 3) := by decide +kernel
theorem dX11_told__81 : decode prog_13_method_78_code 81 = .ok (.iload_n 3, 1) := by decide +kernel
theorem dX11_told__82 : decode prog_13_method_78_code 82 = .ok (.iaload, 1) := by decide +kernel
theorem dX11_told__83 : decode prog_13_method_78_code 83 = .ok (.iload_n 1, 1) := by decide +kernel
theorem dX11_told__84 : decode prog_13_method_78_code 84 = .ok (.iconst 1, 1) := by decide +kernel
theorem dX11_told__85 : decode prog_13_method_78_code 85 = .ok (.iadd, 1) := by decide +kernel
theorem dX11_told__86 : decode prog_13_method_78_code 86 = .ok (.if_icmp .ne 7, 3) := by decide +kernel
theorem dX11_told__89 : decode prog_13_method_78_code 89 = .ok (.iconst 1, 1) := by decide +kernel
theorem dX11_told__90 : decode prog_13_method_78_code 90 = .ok (.goto 4, 3) := by decide +kernel
theorem dX11_told__93 : decode prog_13_method_78_code 93 = .ok (.iconst 0, 1) := by decide +kernel
theorem dX11_told__94 : decode prog_13_method_78_code 94 = .ok (.iadd, 1) := by decide +kernel
theorem dX11_told__95 : decode prog_13_method_78_code 95 = .ok (.istore_n 2, 1) := by decide +kernel
theorem dX11_told__96 : decode prog_13_method_78_code 96 = .ok (.iinc 3 1, 3) := by decide +kernel
theorem dX11_told__99 : decode prog_13_method_78_code 99 = .ok (.goto (-29), 3) := by decide +kernel
theorem dX11_told__102 : decode prog_13_method_78_code 102 = .ok (.iload_n 2, 1) := by decide +kernel
theorem dX11_told__103 : decode prog_13_method_78_code 103 = .ok (.ireturn, 1) := by decide +kernel
theorem dX11_told__104 : decode prog_13_method_78_code 104 = .ok (.iconst 0, 1) := by decide +kernel
theorem dX11_told__105 : decode prog_13_method_78_code 105 = .ok (.istore_n 3, 1) := by decide +kernel
theorem dX11_told__106 : decode prog_13_method_78_code 106 = .ok (.iload_n 3, 1) := by decide +kernel
theorem dX11_told__107 : decode prog_13_method_78_code 107 = .ok (.bipush 32, 2) := by decide +kernel
theorem dX11_told__109 : decode prog_13_method_78_code 109 = .ok (.if_icmp .ge 26, 3) := by decide +kernel
theorem dX11_told__112 : decode prog_13_method_78_code 112 = .ok (.iload_n 2, 1) := by decide +kernel
theorem dX11_told__113 : decode prog_13_method_78_code 113 = .ok (.aload_n 0, 1) := by decide +kernel
theorem dX11_told__114 : decode prog_13_method_78_code 114 = .ok (.getfield 41, 3) := by decide +kernel
theorem dX11_told__117 : decode prog_13_method_78_code 117 = .ok (.iload_n 3, 1) := by decide +kernel
theorem dX11_told__118 : decode prog_13_method_78_code 118 = .ok (.baload, 1) := by decide +kernel
theorem dX11_told__119 : decode prog_13_method_78_code 119 = .ok (.ifCond .eq 7, 3) := by decide +kernel
theorem dX11_told__122 : decode prog_13_method_78_code 122 = .ok (.iconst 1, 1) := by decide +kernel
theorem dX11_told__123 : decode prog_13_method_78_code 123 = .ok (.goto 4, 3) := by decide +kernel
theorem dX11_told__126 : decode prog_13_method_78_code 126 = .ok (.iconst 0, 1) := by decide +kernel
theorem dX11_told__127 : decode prog_13_method_78_code 127 = .ok (.iadd, 1) := by decide +kernel
theorem dX11_told__128 : decode prog_13_method_78_code 128 = .ok (.istore_n 2, 1) := by decide +kernel
theorem dX11_told__129 : decode prog_13_method_78_code 129 = .ok (.iinc 3 1, 3) := by decide +kernel
theorem dX11_told__132 : decode prog_13_method_78_code 132 = .ok (.goto (-26), 3) := by decide +kernel
theorem dX11_told__135 : decode prog_13_method_78_code 135 = .ok (.iload_n 2, 1) := by decide +kernel
theorem dX11_told__136 : decode prog_13_method_78_code 136 = .ok (.ireturn, 1) := by decide +kernel
theorem dX11_told__137 : decode prog_13_method_78_code 137 = .ok (.iconst 0, 1) := by decide +kernel
theorem dX11_told__138 : decode prog_13_method_78_code 138 = .ok (.istore_n 3, 1) := by decide +kernel
theorem dX11_told__139 : decode prog_13_method_78_code 139 = .ok (.iload_n 3, 1) := by decide +kernel
theorem dX11_told__140 : decode prog_13_method_78_code 140 = .ok (.bipush 32, 2) := by decide +kernel
theorem dX11_told__142 : decode prog_13_method_78_code 142 = .ok (.if_icmp .ge 26, 3) := by decide +kernel
theorem dX11_told__145 : decode prog_13_method_78_code 145 = .ok (.iload_n 2, 1) := by decide +kernel
theorem dX11_told__146 : decode prog_13_method_78_code 146 = .ok (.aload_n 0, 1) := by decide +kernel
theorem dX11_told__147 : decode prog_13_method_78_code 147 = .ok (.getfield 37, 3) := by decide +kernel
theorem dX11_told__150 : decode prog_13_method_78_code 150 = .ok (.iload_n 3, 1) := by decide +kernel
theorem dX11_told__151 : decode prog_13_method_78_code 151 = .ok (.baload, 1) := by decide +kernel
theorem dX11_told__152 : decode prog_13_method_78_code 152 = .ok (.ifCond .eq 7, 3) := by decide +kernel
theorem dX11_told__155 : decode prog_13_method_78_code 155 = .ok (.iconst 1, 1) := by decide +kernel
theorem dX11_told__156 : decode prog_13_method_78_code 156 = .ok (.goto 4, 3) := by decide +kernel
theorem dX11_told__159 : decode prog_13_method_78_code 159 = .ok (.iconst 0, 1) := by decide +kernel
theorem dX11_told__160 : decode prog_13_method_78_code 160 = .ok (.iadd, 1) := by decide +kernel
theorem dX11_told__161 : decode prog_13_method_78_code 161 = .ok (.istore_n 2, 1) := by decide +kernel
theorem dX11_told__162 : decode prog_13_method_78_code 162 = .ok (.iinc 3 1, 3) := by decide +kernel
theorem dX11_told__165 : decode prog_13_method_78_code 165 = .ok (.goto (-26), 3) := by decide +kernel
theorem dX11_told__168 : decode prog_13_method_78_code 168 = .ok (.iload_n 2, 1) := by decide +kernel
theorem dX11_told__169 : decode prog_13_method_78_code 169 = .ok (.ireturn, 1) := by decide +kernel
theorem dX11_told__170 : decode prog_13_method_78_code 170 = .ok (.iconst 0, 1) := by decide +kernel
theorem dX11_told__171 : decode prog_13_method_78_code 171 = .ok (.istore_n 3, 1) := by decide +kernel
theorem dX11_told__172 : decode prog_13_method_78_code 172 = .ok (.iload_n 3, 1) := by decide +kernel
theorem dX11_told__173 : decode prog_13_method_78_code 173 = .ok (.bipush 32, 2) := by decide +kernel
theorem dX11_told__175 : decode prog_13_method_78_code 175 = .ok (.if_icmp .ge 18, 3) := by decide +kernel
theorem dX11_told__178 : decode prog_13_method_78_code 178 = .ok (.iload_n 2, 1) := by decide +kernel
theorem dX11_told__179 : decode prog_13_method_78_code 179 = .ok (.aload_n 0, 1) := by decide +kernel
theorem dX11_told__180 : decode prog_13_method_78_code 180 = .ok (.getfield 18, 3) := by decide +kernel
theorem dX11_told__183 : decode prog_13_method_78_code 183 = .ok (.iload_n 3, 1) := by decide +kernel
theorem dX11_told__184 : decode prog_13_method_78_code 184 = .ok (.iaload, 1) := by decide +kernel
theorem dX11_told__185 : decode prog_13_method_78_code 185 = .ok (.iadd, 1) := by decide +kernel
theorem dX11_told__186 : decode prog_13_method_78_code 186 = .ok (.istore_n 2, 1) := by decide +kernel
theorem dX11_told__187 : decode prog_13_method_78_code 187 = .ok (.iinc 3 1, 3) := by decide +kernel
theorem dX11_told__190 : decode prog_13_method_78_code 190 = .ok (.goto (-18), 3) := by decide +kernel
theorem dX11_told__193 : decode prog_13_method_78_code 193 = .ok (.iload_n 2, 1) := by decide +kernel
theorem dX11_told__194 : decode prog_13_method_78_code 194 = .ok (.ireturn, 1) := by decide +kernel
theorem dX11_told__195 : decode prog_13_method_78_code 195 = .ok (.aload_n 0, 1) := by decide +kernel
theorem dX11_told__196 : decode prog_13_method_78_code 196 = .ok (.getfield 324, 3) := by decide +kernel
theorem dX11_told__199 : decode prog_13_method_78_code 199 = .ok (.ireturn, 1) := by decide +kernel
theorem dX11_told__200 : decode prog_13_method_78_code 200 = .ok (.aload_n 0, 1) := by decide +kernel
theorem dX11_told__201 : decode prog_13_method_78_code 201 = .ok (.getfield 327, 3) := by decide +kernel
theorem dX11_told__204 : decode prog_13_method_78_code 204 = .ok (.ireturn, 1) := by decide +kernel
theorem dX11_told__205 : decode prog_13_method_78_code 205 = .ok (.aload_n 0, 1) := by decide +kernel
theorem dX11_told__206 : decode prog_13_method_78_code 206 = .ok (.getfield 309, 3) := by decide +kernel
theorem dX11_told__209 : decode prog_13_method_78_code 209 = .ok (.ireturn, 1) := by decide +kernel
theorem dX11_told__210 : decode prog_13_method_78_code 210 = .ok (.aload_n 0, 1) := by decide +kernel
theorem dX11_told__211 : decode prog_13_method_78_code 211 = .ok (.getfield 342, 3) := by decide +kernel
theorem dX11_told__214 : decode prog_13_method_78_code 214 = .ok (.ifCond .eq 7, 3) := by decide +kernel
theorem dX11_told__217 : decode prog_13_method_78_code 217 = .ok (.iconst 1, 1) := by decide +kernel
theorem dX11_told__218 : decode prog_13_method_78_code 218 = .ok (.goto 4, 3) := by decide +kernel
theorem dX11_told__221 : decode prog_13_method_78_code 221 = .ok (.iconst 0, 1) := by decide +kernel
theorem dX11_told__222 : decode prog_13_method_78_code 222 = .ok (.ireturn, 1) := by decide +kernel
theorem dX11_told__223 : decode prog_13_method_78_code 223 = .ok (.aload_n 0, 1) := by decide +kernel
theorem dX11_told__224 : decode prog_13_method_78_code 224 = .ok (.invokevirtual 373, 3) := by decide +kernel
theorem dX11_told__227 : decode prog_13_method_78_code 227 = .ok (.ireturn, 1) := by decide +kernel
theorem dX11_told__228 : decode prog_13_method_78_code 228 = .ok (.aload_n 0, 1) := by decide +kernel
theorem dX11_told__229 : decode prog_13_method_78_code 229 = .ok (.getfield 177, 3) := by decide +kernel
theorem dX11_told__232 : decode prog_13_method_78_code 232 = .ok (.ireturn, 1) := by decide +kernel
theorem dX11_told__233 : decode prog_13_method_78_code 233 = .ok (.aload_n 0, 1) := by decide +kernel
theorem dX11_told__234 : decode prog_13_method_78_code 234 = .ok (.getfield 407, 3) := by decide +kernel
theorem dX11_told__237 : decode prog_13_method_78_code 237 = .ok (.ireturn, 1) := by decide +kernel
theorem dX11_told__238 : decode prog_13_method_78_code 238 = .ok (.aload_n 0, 1) := by decide +kernel
theorem dX11_told__239 : decode prog_13_method_78_code 239 = .ok (.invokevirtual 388, 3) := by decide +kernel
theorem dX11_told__242 : decode prog_13_method_78_code 242 = .ok (.iconst 0, 1) := by decide +kernel
theorem dX11_told__243 : decode prog_13_method_78_code 243 = .ok (.istore_n 3, 1) := by decide +kernel
theorem dX11_told__244 : decode prog_13_method_78_code 244 = .ok (.iload_n 3, 1) := by decide +kernel
theorem dX11_told__245 : decode prog_13_method_78_code 245 = .ok (.bipush 32, 2) := by decide +kernel
theorem dX11_told__247 : decode prog_13_method_78_code 247 = .ok (.if_icmp .ge 20, 3) := by decide +kernel
theorem dX11_told__250 : decode prog_13_method_78_code 250 = .ok (.iload_n 2, 1) := by decide +kernel
theorem dX11_told__251 : decode prog_13_method_78_code 251 = .ok (.aload_n 0, 1) := by decide +kernel
theorem dX11_told__252 : decode prog_13_method_78_code 252 = .ok (.getfield 161, 3) := by decide +kernel
theorem dX11_told__255 : decode prog_13_method_78_code 255 = .ok (.iload_n 3, 1) := by decide +kernel
theorem dX11_told__256 : decode prog_13_method_78_code 256 = .ok (.iaload, 1) := by decide +kernel
theorem dX11_told__257 : decode prog_13_method_78_code 257 = .ok (.invokestatic 376, 3) := by decide +kernel
theorem dX11_told__260 : decode prog_13_method_78_code 260 = .ok (.istore_n 2, 1) := by decide +kernel
theorem dX11_told__261 : decode prog_13_method_78_code 261 = .ok (.iinc 3 1, 3) := by decide +kernel
theorem dX11_told__264 : decode prog_13_method_78_code 264 = .ok (.goto (-20), 3) := by decide +kernel
theorem dX11_told__267 : decode prog_13_method_78_code 267 = .ok (.iload_n 2, 1) := by decide +kernel
theorem dX11_told__268 : decode prog_13_method_78_code 268 = .ok (.ireturn, 1) := by decide +kernel
theorem dX11_told__269 : decode prog_13_method_78_code 269 = .ok (.iconst (-1), 1) := by decide +kernel
theorem dX11_told__270 : decode prog_13_method_78_code 270 = .ok (.ireturn, 1) := by decide +kernel
/-! ReactiveSheetModel.quit(I)I ['m'] -/
abbrev rm_M_X11_quit__0 : Room := { frames := 1, cells := 0, slots := 0, locals := 22 }
def b_M_X11_quit__0_30  (t : fw_S) (x1 : Int32) (z0 : Int32) : Option (Int32 × fw_S) := fb_g (¬ (x1 < 0 ∨ 8 ≤ x1.toNatClampNeg)) (fb_l (up_F t 36 (upd (st_F t 36) x1.toNatClampNeg (vp_nar .boolean ((1 : Int32))))) fun t_1 => (some (z0, t_1)))
def b_M_X11_quit__0_29  (t : fw_S) (x1 : Int32) : Option (Int32 × fw_S) := b_M_X11_quit__0_30 t x1 ((1 : Int32))
def b_M_X11_quit__0_25  (t : fw_S) (x1 : Int32) : Option (Int32 × fw_S) := b_M_X11_quit__0_30 t x1 ((0 : Int32))
def b_M_X11_quit__0_16  (t : fw_S) (x1 : Int32) : Option (Int32 × fw_S) := fb_g (¬ (x1 < 0 ∨ 8 ≤ x1.toNatClampNeg)) (if (st_F t 36 x1.toNatClampNeg) = 0 then b_M_X11_quit__0_29 t x1 else b_M_X11_quit__0_25 t x1)
def b_M_X11_quit__0_14  (t : fw_S)  : Option (Int32 × fw_S) := some ((-1 : Int32), t)
def b_M_X11_quit__0_0  (t : fw_S) (x1 : Int32) : Option (Int32 × fw_S) := fb_b (f_M_X11_isIn t x1 ((0 : Int32)) ((st_I t 12) - ((1 : Int32)))) fun v_2 t_1 => (if v_2 = 0 then b_M_X11_quit__0_14 t_1 else b_M_X11_quit__0_16 t_1 x1)
def f_M_X11_quit__0 (t : fw_S) (x1 : Int32) : Option (Int32 × fw_S) := b_M_X11_quit__0_0 t x1
set_option maxRecDepth 20000 in
theorem w_M_X11_quit__0_30 {p : Program} {l : Launch} {e : Env} {s : State} {m : MethodId} {args : Array Value} {below : List Frame} {meth : Method} {c : Code} {A : Nat → Prop} {Q : State → Prop} {D : va_G} {ca : Nat → ClassId} {a : Nat → Nat} {u : fw_S} {r : Int32}  (C : CX (WM ca a) D (tyv ca) p s m args c A prog_13_method_75_code 3 RX11) (hr : True → RX (WM ca a) D p l e rm_M_X11_quit__0 s m args below meth c A prog_13_method_75_code Q .ireturn [.int r] u) {t : fw_S} {x1 : Int32} {z0 : Int32} {H : Heap} {locs : List Loc} {ls : Array Slot} (hf : b_M_X11_quit__0_30  t x1 z0 = some (r, u)) (hP : va_P D classes (WM ca a t) H) (hS : va_S A s.heap H locs) (hl : lv_has ls 3 [(0, .ref (a 0)), (1, .int x1)]) : W p l e rm_M_X11_quit__0 s m args below meth c H locs 0 0 Q (F0 m 30 ls [.int z0]) := by
  obtain ⟨hx, hb, hml, hown, hts, hN, hK, hD, hA⟩ := id C
  have hf : (fb_g (¬ (x1 < 0 ∨ 8 ≤ x1.toNatClampNeg)) (fb_l (up_F t 36 (upd (st_F t 36) x1.toNatClampNeg (vp_nar .boolean ((1 : Int32))))) fun t_1 => (some (z0, t_1)))) = some (r, u) := hf
  refine lv_istore_n (lv' := [(2, .int z0), (0, .ref (a 0)), (1, .int x1)]) hx hb dX11_quit_30 rfl hl (by decide) rfl (fun ls hl => ?_)
  refine lv_aload_n hx hb dX11_quit_31 rfl (lv_at hl 1 rfl) ?_
  refine va_get (D := D) (ci := 11) (v := .ref (a 41)) (C := RX11) (T := TX11) (N := 76) hx hb hts inX11 hown hK hP 0 (heM_0 ca a t) rfl 58 (by decide) (hts _ kw_1250) (fun _ h9 => h9) rfl dX11_quit_32 ?_
  refine lv_iload_n hx hb dX11_quit_35 rfl (lv_at hl 2 rfl) ?_
  refine lv_iconst (v := 1) hx hb dX11_quit_36 (by decide) ?_
  obtain ⟨h_37, hf⟩ := fb_if hf
  refine va_zast hx hb hK hP (hD t) hS 41 2 (haM_41 ca a t) rfl h_37 dX11_quit_37 (fun H locs hP _ hS => ?_)
  rw [saM_41] at hP
  obtain ⟨t_1, e_37, hf⟩ := fb_ls hf
  rw [← e_37] at hP
  refine lv_iload_n hx hb dX11_quit_38 rfl (lv_at hl 0 rfl) ?_
  obtain ⟨e_39, e2_39⟩ := fb_e hf
  subst e_39; subst e2_39
  exact hr trivial _ _ _ _ hP hS dX11_quit_39
set_option maxRecDepth 20000 in
theorem w_M_X11_quit__0_29 {p : Program} {l : Launch} {e : Env} {s : State} {m : MethodId} {args : Array Value} {below : List Frame} {meth : Method} {c : Code} {A : Nat → Prop} {Q : State → Prop} {D : va_G} {ca : Nat → ClassId} {a : Nat → Nat} {u : fw_S} {r : Int32}  (C : CX (WM ca a) D (tyv ca) p s m args c A prog_13_method_75_code 3 RX11) (hr : True → RX (WM ca a) D p l e rm_M_X11_quit__0 s m args below meth c A prog_13_method_75_code Q .ireturn [.int r] u) {t : fw_S} {x1 : Int32} {H : Heap} {locs : List Loc} {ls : Array Slot} (hf : b_M_X11_quit__0_29  t x1 = some (r, u)) (hP : va_P D classes (WM ca a t) H) (hS : va_S A s.heap H locs) (hl : lv_has ls 3 [(0, .ref (a 0)), (1, .int x1)]) : W p l e rm_M_X11_quit__0 s m args below meth c H locs 0 0 Q (F0 m 29 ls []) := by
  obtain ⟨hx, hb, hml, hown, hts, hN, hK, hD, hA⟩ := id C
  have hf : (b_M_X11_quit__0_30 t x1 ((1 : Int32))) = some (r, u) := hf
  refine lv_iconst (v := 1) hx hb dX11_quit_29 (by decide) ?_
  exact w_M_X11_quit__0_30 C hr hf hP hS (lv_sub hl [0, 1] rfl)
set_option maxRecDepth 20000 in
theorem w_M_X11_quit__0_25 {p : Program} {l : Launch} {e : Env} {s : State} {m : MethodId} {args : Array Value} {below : List Frame} {meth : Method} {c : Code} {A : Nat → Prop} {Q : State → Prop} {D : va_G} {ca : Nat → ClassId} {a : Nat → Nat} {u : fw_S} {r : Int32}  (C : CX (WM ca a) D (tyv ca) p s m args c A prog_13_method_75_code 3 RX11) (hr : True → RX (WM ca a) D p l e rm_M_X11_quit__0 s m args below meth c A prog_13_method_75_code Q .ireturn [.int r] u) {t : fw_S} {x1 : Int32} {H : Heap} {locs : List Loc} {ls : Array Slot} (hf : b_M_X11_quit__0_25  t x1 = some (r, u)) (hP : va_P D classes (WM ca a t) H) (hS : va_S A s.heap H locs) (hl : lv_has ls 3 [(0, .ref (a 0)), (1, .int x1)]) : W p l e rm_M_X11_quit__0 s m args below meth c H locs 0 0 Q (F0 m 25 ls []) := by
  obtain ⟨hx, hb, hml, hown, hts, hN, hK, hD, hA⟩ := id C
  have hf : (b_M_X11_quit__0_30 t x1 ((0 : Int32))) = some (r, u) := hf
  refine lv_iconst (v := 0) hx hb dX11_quit_25 (by decide) ?_
  refine lv_goto (tgt := 30) hx hb dX11_quit_26 (by decide) ?_
  exact w_M_X11_quit__0_30 C hr hf hP hS (lv_sub hl [0, 1] rfl)
set_option maxRecDepth 20000 in
theorem w_M_X11_quit__0_16 {p : Program} {l : Launch} {e : Env} {s : State} {m : MethodId} {args : Array Value} {below : List Frame} {meth : Method} {c : Code} {A : Nat → Prop} {Q : State → Prop} {D : va_G} {ca : Nat → ClassId} {a : Nat → Nat} {u : fw_S} {r : Int32}  (C : CX (WM ca a) D (tyv ca) p s m args c A prog_13_method_75_code 3 RX11) (hr : True → RX (WM ca a) D p l e rm_M_X11_quit__0 s m args below meth c A prog_13_method_75_code Q .ireturn [.int r] u) {t : fw_S} {x1 : Int32} {H : Heap} {locs : List Loc} {ls : Array Slot} (hf : b_M_X11_quit__0_16  t x1 = some (r, u)) (hP : va_P D classes (WM ca a t) H) (hS : va_S A s.heap H locs) (hl : lv_has ls 3 [(0, .ref (a 0)), (1, .int x1)]) : W p l e rm_M_X11_quit__0 s m args below meth c H locs 0 0 Q (F0 m 16 ls []) := by
  obtain ⟨hx, hb, hml, hown, hts, hN, hK, hD, hA⟩ := id C
  have hf : (fb_g (¬ (x1 < 0 ∨ 8 ≤ x1.toNatClampNeg)) (if (st_F t 36 x1.toNatClampNeg) = 0 then b_M_X11_quit__0_29 t x1 else b_M_X11_quit__0_25 t x1)) = some (r, u) := hf
  refine lv_aload_n hx hb dX11_quit_16 rfl (lv_at hl 0 rfl) ?_
  refine va_get (D := D) (ci := 11) (v := .ref (a 41)) (C := RX11) (T := TX11) (N := 76) hx hb hts inX11 hown hK hP 0 (heM_0 ca a t) rfl 58 (by decide) (hts _ kw_1250) (fun _ h9 => h9) rfl dX11_quit_17 ?_
  refine lv_iload_n hx hb dX11_quit_20 rfl (lv_at hl 1 rfl) ?_
  obtain ⟨h_21, hf⟩ := fb_if hf
  refine va_zald hx hb hK hP 41 2 (haM_41 ca a t) rfl h_21 dX11_quit_21 ?_
  refine lv_if_eq (tgt := 29) hx hb dX11_quit_22 (by decide) (fun h_22 => ?_) (fun h_22 => ?_)
  · have hf := fb_t h_22 hf
    exact w_M_X11_quit__0_29 C hr hf hP hS (lv_sub hl [0, 1] rfl)
  · have hf := fb_f h_22 hf
    exact w_M_X11_quit__0_25 C hr hf hP hS (lv_sub hl [0, 1] rfl)
set_option maxRecDepth 20000 in
theorem w_M_X11_quit__0_14 {p : Program} {l : Launch} {e : Env} {s : State} {m : MethodId} {args : Array Value} {below : List Frame} {meth : Method} {c : Code} {A : Nat → Prop} {Q : State → Prop} {D : va_G} {ca : Nat → ClassId} {a : Nat → Nat} {u : fw_S} {r : Int32}  (C : CX (WM ca a) D (tyv ca) p s m args c A prog_13_method_75_code 3 RX11) (hr : True → RX (WM ca a) D p l e rm_M_X11_quit__0 s m args below meth c A prog_13_method_75_code Q .ireturn [.int r] u) {t : fw_S}  {H : Heap} {locs : List Loc} {ls : Array Slot} (hf : b_M_X11_quit__0_14  t  = some (r, u)) (hP : va_P D classes (WM ca a t) H) (hS : va_S A s.heap H locs) (hl : lv_has ls 3 []) : W p l e rm_M_X11_quit__0 s m args below meth c H locs 0 0 Q (F0 m 14 ls []) := by
  obtain ⟨hx, hb, hml, hown, hts, hN, hK, hD, hA⟩ := id C
  have hf : (some ((-1 : Int32), t)) = some (r, u) := hf
  refine lv_iconst (v := (-1)) hx hb dX11_quit_14 (by decide) ?_
  obtain ⟨e_15, e2_15⟩ := fb_e hf
  subst e_15; subst e2_15
  exact hr trivial _ _ _ _ hP hS dX11_quit_15
set_option maxRecDepth 20000 in
theorem w_M_X11_quit__0_0 {p : Program} {l : Launch} {e : Env} {s : State} {m : MethodId} {args : Array Value} {below : List Frame} {meth : Method} {c : Code} {A : Nat → Prop} {Q : State → Prop} {D : va_G} {ca : Nat → ClassId} {a : Nat → Nat} {u : fw_S} {r : Int32}  (C : CX (WM ca a) D (tyv ca) p s m args c A prog_13_method_75_code 3 RX11) (hr : True → RX (WM ca a) D p l e rm_M_X11_quit__0 s m args below meth c A prog_13_method_75_code Q .ireturn [.int r] u) {t : fw_S} {x1 : Int32} {H : Heap} {locs : List Loc} {ls : Array Slot} (hf : b_M_X11_quit__0_0  t x1 = some (r, u)) (hP : va_P D classes (WM ca a t) H) (hS : va_S A s.heap H locs) (hl : lv_has ls 3 [(0, .ref (a 0)), (1, .int x1)]) : W p l e rm_M_X11_quit__0 s m args below meth c H locs 0 0 Q (F0 m 0 ls []) := by
  obtain ⟨hx, hb, hml, hown, hts, hN, hK, hD, hA⟩ := id C
  have hf : (fb_b (f_M_X11_isIn t x1 ((0 : Int32)) ((st_I t 12) - ((1 : Int32)))) fun v_2 t_1 => (if v_2 = 0 then b_M_X11_quit__0_14 t_1 else b_M_X11_quit__0_16 t_1 x1)) = some (r, u) := hf
  refine lv_iload_n hx hb dX11_quit_0 rfl (lv_at hl 1 rfl) ?_
  refine lv_iconst (v := 0) hx hb dX11_quit_1 (by decide) ?_
  refine lv_aload_n hx hb dX11_quit_2 rfl (lv_at hl 0 rfl) ?_
  refine va_get (D := D) (ci := 11) (v := .int (st_I t 12)) (C := RX11) (T := TX11) (N := 76) hx hb hts inX11 hown hK hP 0 (heM_0 ca a t) rfl 47 (by decide) (hts _ kw_1239) (fun _ h9 => h9) rfl dX11_quit_3 ?_
  refine lv_iconst (v := 1) hx hb dX11_quit_6 (by decide) ?_
  refine lv_isub hx hb dX11_quit_7 ?_
  obtain ⟨v_2, t_1, g_8, hf⟩ := fb_bs hf
  refine fw_S1 (As := [.int x1, .int ((0 : Int32)), .int ((st_I t 12) - ((1 : Int32)))]) (rest := []) (n := 3) C (c_M_X11_isIn (l := l) (D := D) (ca := ca) (a := a) g_8) kw_1426 kw_1427 kw_102 kw_1428 hP hS hl rfl rfl (by decide) (by decide +kernel) ⟨Nat.le_of_ble_eq_true rfl, Nat.le_of_ble_eq_true rfl⟩ rfl rfl (Nat.le_of_ble_eq_true rfl) dX11_quit_8 (fun H locs hP hS => ?_)
  refine W.eq (g2 := F0 m 11 ls [.int v_2]) rfl ?_
  refine lv_if_ne (tgt := 16) hx hb dX11_quit_11 (by decide) (fun h_11 => ?_) (fun h_11 => ?_)
  · have hf := fb_f h_11 hf
    exact w_M_X11_quit__0_16 C hr hf hP hS (lv_sub hl [0, 1] rfl)
  · have hf := fb_t h_11 hf
    exact w_M_X11_quit__0_14 C hr hf hP hS (lv_sub hl [] rfl)
set_option maxRecDepth 20000 in
theorem c_M_X11_quit__0 {l : Launch} {D : va_G} {ca : Nat → ClassId} {a : Nat → Nat} {t : fw_S} {x1 : Int32} {u : fw_S} {r : Int32} (hf : f_M_X11_quit__0 t x1 = some (r, u)) : MC (WM ca a) D (tyv ca) l yX11_quit (.code yX11_quit prog_13_method_75_code 3 (some .int) :: lw_gd) rm_M_X11_quit__0 [.ref (a 0), .int x1] (some (.int r)) t u := by
  refine fw_met (okM ca a) (by decide +kernel) rfl rfl (Nat.le_of_ble_eq_true rfl) ?_
  intro p e s m args below meth c A Q ls C hr hk hP hS hl hQ
  exact w_M_X11_quit__0_0 C (fun _ => fw_ri C hr hk hQ) hf hP hS (lv_sub hl [0, 1] rfl)
/-! ReactiveSheetModel.log(II)I ['m'] -/
abbrev rm_M_X11_log___0 : Room := { frames := 1, cells := 0, slots := 0, locals := 22 }
def b_M_X11_log___0_60  (t : fw_S) (z0 : Int32) : Option (Int32 × fw_S) := some (z0, t)
def b_M_X11_log___0_23  (t : fw_S)  : Option (Int32 × fw_S) := b_M_X11_log___0_60 t ((-1 : Int32))
def b_M_X11_log___0_54  (t : fw_S) (x1 : Int32) : Option (Int32 × fw_S) := fb_g (¬ (x1 < 0 ∨ 60 ≤ x1.toNatClampNeg)) (b_M_X11_log___0_60 t (st_F t 35 x1.toNatClampNeg))
def b_M_X11_log___0_45  (t : fw_S) (x1 : Int32) : Option (Int32 × fw_S) := fb_g (¬ (x1 < 0 ∨ 60 ≤ x1.toNatClampNeg)) (b_M_X11_log___0_60 t (st_F t 34 x1.toNatClampNeg))
def b_M_X11_log___0_40  (t : fw_S) (x1 : Int32) (x2 : Int32) : Option (Int32 × fw_S) := if x2 = ((1 : Int32)) then b_M_X11_log___0_45 t x1 else b_M_X11_log___0_54 t x1
def b_M_X11_log___0_31  (t : fw_S) (x1 : Int32) : Option (Int32 × fw_S) := fb_g (¬ (x1 < 0 ∨ 60 ≤ x1.toNatClampNeg)) (b_M_X11_log___0_60 t (st_F t 33 x1.toNatClampNeg))
def b_M_X11_log___0_27  (t : fw_S) (x1 : Int32) (x2 : Int32) : Option (Int32 × fw_S) := if x2 = 0 then b_M_X11_log___0_31 t x1 else b_M_X11_log___0_40 t x1 x2
def b_M_X11_log___0_14  (t : fw_S) (x1 : Int32) (x2 : Int32) : Option (Int32 × fw_S) := fb_b (f_M_X11_isIn t x2 ((0 : Int32)) ((2 : Int32))) fun v_2 t_1 => (if v_2 = 0 then b_M_X11_log___0_23 t_1 else b_M_X11_log___0_27 t_1 x1 x2)
def b_M_X11_log___0_0  (t : fw_S) (x1 : Int32) (x2 : Int32) : Option (Int32 × fw_S) := fb_b (f_M_X11_isIn t x1 ((0 : Int32)) ((st_I t 13) - ((1 : Int32)))) fun v_2 t_1 => (if v_2 = 0 then b_M_X11_log___0_23 t_1 else b_M_X11_log___0_14 t_1 x1 x2)
def f_M_X11_log___0 (t : fw_S) (x1 : Int32) (x2 : Int32) : Option (Int32 × fw_S) := b_M_X11_log___0_0 t x1 x2
set_option maxRecDepth 20000 in
theorem w_M_X11_log___0_60 {p : Program} {l : Launch} {e : Env} {s : State} {m : MethodId} {args : Array Value} {below : List Frame} {meth : Method} {c : Code} {A : Nat → Prop} {Q : State → Prop} {D : va_G} {ca : Nat → ClassId} {a : Nat → Nat} {u : fw_S} {r : Int32}  (C : CX (WM ca a) D (tyv ca) p s m args c A prog_13_method_76_code 3 RX11) (hr : True → RX (WM ca a) D p l e rm_M_X11_log___0 s m args below meth c A prog_13_method_76_code Q .ireturn [.int r] u) {t : fw_S} {z0 : Int32} {H : Heap} {locs : List Loc} {ls : Array Slot} (hf : b_M_X11_log___0_60  t z0 = some (r, u)) (hP : va_P D classes (WM ca a t) H) (hS : va_S A s.heap H locs) (hl : lv_has ls 3 []) : W p l e rm_M_X11_log___0 s m args below meth c H locs 0 0 Q (F0 m 60 ls [.int z0]) := by
  obtain ⟨hx, hb, hml, hown, hts, hN, hK, hD, hA⟩ := id C
  have hf : (some (z0, t)) = some (r, u) := hf
  obtain ⟨e_60, e2_60⟩ := fb_e hf
  subst e_60; subst e2_60
  exact hr trivial _ _ _ _ hP hS dX11_log__60
set_option maxRecDepth 20000 in
theorem w_M_X11_log___0_23 {p : Program} {l : Launch} {e : Env} {s : State} {m : MethodId} {args : Array Value} {below : List Frame} {meth : Method} {c : Code} {A : Nat → Prop} {Q : State → Prop} {D : va_G} {ca : Nat → ClassId} {a : Nat → Nat} {u : fw_S} {r : Int32}  (C : CX (WM ca a) D (tyv ca) p s m args c A prog_13_method_76_code 3 RX11) (hr : True → RX (WM ca a) D p l e rm_M_X11_log___0 s m args below meth c A prog_13_method_76_code Q .ireturn [.int r] u) {t : fw_S}  {H : Heap} {locs : List Loc} {ls : Array Slot} (hf : b_M_X11_log___0_23  t  = some (r, u)) (hP : va_P D classes (WM ca a t) H) (hS : va_S A s.heap H locs) (hl : lv_has ls 3 []) : W p l e rm_M_X11_log___0 s m args below meth c H locs 0 0 Q (F0 m 23 ls []) := by
  obtain ⟨hx, hb, hml, hown, hts, hN, hK, hD, hA⟩ := id C
  have hf : (b_M_X11_log___0_60 t ((-1 : Int32))) = some (r, u) := hf
  refine lv_iconst (v := (-1)) hx hb dX11_log__23 (by decide) ?_
  refine lv_goto (tgt := 60) hx hb dX11_log__24 (by decide) ?_
  exact w_M_X11_log___0_60 C hr hf hP hS (lv_sub hl [] rfl)
set_option maxRecDepth 20000 in
theorem w_M_X11_log___0_54 {p : Program} {l : Launch} {e : Env} {s : State} {m : MethodId} {args : Array Value} {below : List Frame} {meth : Method} {c : Code} {A : Nat → Prop} {Q : State → Prop} {D : va_G} {ca : Nat → ClassId} {a : Nat → Nat} {u : fw_S} {r : Int32}  (C : CX (WM ca a) D (tyv ca) p s m args c A prog_13_method_76_code 3 RX11) (hr : True → RX (WM ca a) D p l e rm_M_X11_log___0 s m args below meth c A prog_13_method_76_code Q .ireturn [.int r] u) {t : fw_S} {x1 : Int32} {H : Heap} {locs : List Loc} {ls : Array Slot} (hf : b_M_X11_log___0_54  t x1 = some (r, u)) (hP : va_P D classes (WM ca a t) H) (hS : va_S A s.heap H locs) (hl : lv_has ls 3 [(0, .ref (a 0)), (1, .int x1)]) : W p l e rm_M_X11_log___0 s m args below meth c H locs 0 0 Q (F0 m 54 ls []) := by
  obtain ⟨hx, hb, hml, hown, hts, hN, hK, hD, hA⟩ := id C
  have hf : (fb_g (¬ (x1 < 0 ∨ 60 ≤ x1.toNatClampNeg)) (b_M_X11_log___0_60 t (st_F t 35 x1.toNatClampNeg))) = some (r, u) := hf
  refine lv_aload_n hx hb dX11_log__54 rfl (lv_at hl 0 rfl) ?_
  refine va_get (D := D) (ci := 11) (v := .ref (a 40)) (C := RX11) (T := TX11) (N := 76) hx hb hts inX11 hown hK hP 0 (heM_0 ca a t) rfl 57 (by decide) (hts _ kw_1249) (fun _ h9 => h9) rfl dX11_log__55 ?_
  refine lv_iload_n hx hb dX11_log__58 rfl (lv_at hl 1 rfl) ?_
  obtain ⟨h_59, hf⟩ := fb_if hf
  refine va_iald hx hb hK hP 40 0 (haM_40 ca a t) rfl h_59 dX11_log__59 ?_
  exact w_M_X11_log___0_60 C hr hf hP hS (lv_sub hl [] rfl)
set_option maxRecDepth 20000 in
theorem w_M_X11_log___0_45 {p : Program} {l : Launch} {e : Env} {s : State} {m : MethodId} {args : Array Value} {below : List Frame} {meth : Method} {c : Code} {A : Nat → Prop} {Q : State → Prop} {D : va_G} {ca : Nat → ClassId} {a : Nat → Nat} {u : fw_S} {r : Int32}  (C : CX (WM ca a) D (tyv ca) p s m args c A prog_13_method_76_code 3 RX11) (hr : True → RX (WM ca a) D p l e rm_M_X11_log___0 s m args below meth c A prog_13_method_76_code Q .ireturn [.int r] u) {t : fw_S} {x1 : Int32} {H : Heap} {locs : List Loc} {ls : Array Slot} (hf : b_M_X11_log___0_45  t x1 = some (r, u)) (hP : va_P D classes (WM ca a t) H) (hS : va_S A s.heap H locs) (hl : lv_has ls 3 [(0, .ref (a 0)), (1, .int x1)]) : W p l e rm_M_X11_log___0 s m args below meth c H locs 0 0 Q (F0 m 45 ls []) := by
  obtain ⟨hx, hb, hml, hown, hts, hN, hK, hD, hA⟩ := id C
  have hf : (fb_g (¬ (x1 < 0 ∨ 60 ≤ x1.toNatClampNeg)) (b_M_X11_log___0_60 t (st_F t 34 x1.toNatClampNeg))) = some (r, u) := hf
  refine lv_aload_n hx hb dX11_log__45 rfl (lv_at hl 0 rfl) ?_
  refine va_get (D := D) (ci := 11) (v := .ref (a 39)) (C := RX11) (T := TX11) (N := 76) hx hb hts inX11 hown hK hP 0 (heM_0 ca a t) rfl 56 (by decide) (hts _ kw_1248) (fun _ h9 => h9) rfl dX11_log__46 ?_
  refine lv_iload_n hx hb dX11_log__49 rfl (lv_at hl 1 rfl) ?_
  obtain ⟨h_50, hf⟩ := fb_if hf
  refine va_iald hx hb hK hP 39 0 (haM_39 ca a t) rfl h_50 dX11_log__50 ?_
  refine lv_goto (tgt := 60) hx hb dX11_log__51 (by decide) ?_
  exact w_M_X11_log___0_60 C hr hf hP hS (lv_sub hl [] rfl)
set_option maxRecDepth 20000 in
theorem w_M_X11_log___0_40 {p : Program} {l : Launch} {e : Env} {s : State} {m : MethodId} {args : Array Value} {below : List Frame} {meth : Method} {c : Code} {A : Nat → Prop} {Q : State → Prop} {D : va_G} {ca : Nat → ClassId} {a : Nat → Nat} {u : fw_S} {r : Int32}  (C : CX (WM ca a) D (tyv ca) p s m args c A prog_13_method_76_code 3 RX11) (hr : True → RX (WM ca a) D p l e rm_M_X11_log___0 s m args below meth c A prog_13_method_76_code Q .ireturn [.int r] u) {t : fw_S} {x1 : Int32} {x2 : Int32} {H : Heap} {locs : List Loc} {ls : Array Slot} (hf : b_M_X11_log___0_40  t x1 x2 = some (r, u)) (hP : va_P D classes (WM ca a t) H) (hS : va_S A s.heap H locs) (hl : lv_has ls 3 [(0, .ref (a 0)), (1, .int x1), (2, .int x2)]) : W p l e rm_M_X11_log___0 s m args below meth c H locs 0 0 Q (F0 m 40 ls []) := by
  obtain ⟨hx, hb, hml, hown, hts, hN, hK, hD, hA⟩ := id C
  have hf : (if x2 = ((1 : Int32)) then b_M_X11_log___0_45 t x1 else b_M_X11_log___0_54 t x1) = some (r, u) := hf
  refine lv_iload_n hx hb dX11_log__40 rfl (lv_at hl 2 rfl) ?_
  refine lv_iconst (v := 1) hx hb dX11_log__41 (by decide) ?_
  refine lv_icmp_ne (tgt := 54) hx hb dX11_log__42 (by decide) (fun h_42 => ?_) (fun h_42 => ?_)
  · have hf := fb_f h_42 hf
    exact w_M_X11_log___0_54 C hr hf hP hS (lv_sub hl [0, 1] rfl)
  · have hf := fb_t h_42 hf
    exact w_M_X11_log___0_45 C hr hf hP hS (lv_sub hl [0, 1] rfl)
set_option maxRecDepth 20000 in
theorem w_M_X11_log___0_31 {p : Program} {l : Launch} {e : Env} {s : State} {m : MethodId} {args : Array Value} {below : List Frame} {meth : Method} {c : Code} {A : Nat → Prop} {Q : State → Prop} {D : va_G} {ca : Nat → ClassId} {a : Nat → Nat} {u : fw_S} {r : Int32}  (C : CX (WM ca a) D (tyv ca) p s m args c A prog_13_method_76_code 3 RX11) (hr : True → RX (WM ca a) D p l e rm_M_X11_log___0 s m args below meth c A prog_13_method_76_code Q .ireturn [.int r] u) {t : fw_S} {x1 : Int32} {H : Heap} {locs : List Loc} {ls : Array Slot} (hf : b_M_X11_log___0_31  t x1 = some (r, u)) (hP : va_P D classes (WM ca a t) H) (hS : va_S A s.heap H locs) (hl : lv_has ls 3 [(0, .ref (a 0)), (1, .int x1)]) : W p l e rm_M_X11_log___0 s m args below meth c H locs 0 0 Q (F0 m 31 ls []) := by
  obtain ⟨hx, hb, hml, hown, hts, hN, hK, hD, hA⟩ := id C
  have hf : (fb_g (¬ (x1 < 0 ∨ 60 ≤ x1.toNatClampNeg)) (b_M_X11_log___0_60 t (st_F t 33 x1.toNatClampNeg))) = some (r, u) := hf
  refine lv_aload_n hx hb dX11_log__31 rfl (lv_at hl 0 rfl) ?_
  refine va_get (D := D) (ci := 11) (v := .ref (a 38)) (C := RX11) (T := TX11) (N := 76) hx hb hts inX11 hown hK hP 0 (heM_0 ca a t) rfl 55 (by decide) (hts _ kw_1247) (fun _ h9 => h9) rfl dX11_log__32 ?_
  refine lv_iload_n hx hb dX11_log__35 rfl (lv_at hl 1 rfl) ?_
  obtain ⟨h_36, hf⟩ := fb_if hf
  refine va_iald hx hb hK hP 38 0 (haM_38 ca a t) rfl h_36 dX11_log__36 ?_
  refine lv_goto (tgt := 60) hx hb dX11_log__37 (by decide) ?_
  exact w_M_X11_log___0_60 C hr hf hP hS (lv_sub hl [] rfl)
set_option maxRecDepth 20000 in
theorem w_M_X11_log___0_27 {p : Program} {l : Launch} {e : Env} {s : State} {m : MethodId} {args : Array Value} {below : List Frame} {meth : Method} {c : Code} {A : Nat → Prop} {Q : State → Prop} {D : va_G} {ca : Nat → ClassId} {a : Nat → Nat} {u : fw_S} {r : Int32}  (C : CX (WM ca a) D (tyv ca) p s m args c A prog_13_method_76_code 3 RX11) (hr : True → RX (WM ca a) D p l e rm_M_X11_log___0 s m args below meth c A prog_13_method_76_code Q .ireturn [.int r] u) {t : fw_S} {x1 : Int32} {x2 : Int32} {H : Heap} {locs : List Loc} {ls : Array Slot} (hf : b_M_X11_log___0_27  t x1 x2 = some (r, u)) (hP : va_P D classes (WM ca a t) H) (hS : va_S A s.heap H locs) (hl : lv_has ls 3 [(0, .ref (a 0)), (1, .int x1), (2, .int x2)]) : W p l e rm_M_X11_log___0 s m args below meth c H locs 0 0 Q (F0 m 27 ls []) := by
  obtain ⟨hx, hb, hml, hown, hts, hN, hK, hD, hA⟩ := id C
  have hf : (if x2 = 0 then b_M_X11_log___0_31 t x1 else b_M_X11_log___0_40 t x1 x2) = some (r, u) := hf
  refine lv_iload_n hx hb dX11_log__27 rfl (lv_at hl 2 rfl) ?_
  refine lv_if_ne (tgt := 40) hx hb dX11_log__28 (by decide) (fun h_28 => ?_) (fun h_28 => ?_)
  · have hf := fb_f h_28 hf
    exact w_M_X11_log___0_40 C hr hf hP hS (lv_sub hl [0, 1, 2] rfl)
  · have hf := fb_t h_28 hf
    exact w_M_X11_log___0_31 C hr hf hP hS (lv_sub hl [0, 1] rfl)
set_option maxRecDepth 20000 in
theorem w_M_X11_log___0_14 {p : Program} {l : Launch} {e : Env} {s : State} {m : MethodId} {args : Array Value} {below : List Frame} {meth : Method} {c : Code} {A : Nat → Prop} {Q : State → Prop} {D : va_G} {ca : Nat → ClassId} {a : Nat → Nat} {u : fw_S} {r : Int32}  (C : CX (WM ca a) D (tyv ca) p s m args c A prog_13_method_76_code 3 RX11) (hr : True → RX (WM ca a) D p l e rm_M_X11_log___0 s m args below meth c A prog_13_method_76_code Q .ireturn [.int r] u) {t : fw_S} {x1 : Int32} {x2 : Int32} {H : Heap} {locs : List Loc} {ls : Array Slot} (hf : b_M_X11_log___0_14  t x1 x2 = some (r, u)) (hP : va_P D classes (WM ca a t) H) (hS : va_S A s.heap H locs) (hl : lv_has ls 3 [(0, .ref (a 0)), (1, .int x1), (2, .int x2)]) : W p l e rm_M_X11_log___0 s m args below meth c H locs 0 0 Q (F0 m 14 ls []) := by
  obtain ⟨hx, hb, hml, hown, hts, hN, hK, hD, hA⟩ := id C
  have hf : (fb_b (f_M_X11_isIn t x2 ((0 : Int32)) ((2 : Int32))) fun v_2 t_1 => (if v_2 = 0 then b_M_X11_log___0_23 t_1 else b_M_X11_log___0_27 t_1 x1 x2)) = some (r, u) := hf
  refine lv_iload_n hx hb dX11_log__14 rfl (lv_at hl 2 rfl) ?_
  refine lv_iconst (v := 0) hx hb dX11_log__15 (by decide) ?_
  refine lv_iconst (v := 2) hx hb dX11_log__16 (by decide) ?_
  obtain ⟨v_2, t_1, g_17, hf⟩ := fb_bs hf
  refine fw_S1 (As := [.int x2, .int ((0 : Int32)), .int ((2 : Int32))]) (rest := []) (n := 3) C (c_M_X11_isIn (l := l) (D := D) (ca := ca) (a := a) g_17) kw_1426 kw_1427 kw_102 kw_1428 hP hS hl rfl rfl (by decide) (by decide +kernel) ⟨Nat.le_of_ble_eq_true rfl, Nat.le_of_ble_eq_true rfl⟩ rfl rfl (Nat.le_of_ble_eq_true rfl) dX11_log__17 (fun H locs hP hS => ?_)
  refine W.eq (g2 := F0 m 20 ls [.int v_2]) rfl ?_
  refine lv_if_ne (tgt := 27) hx hb dX11_log__20 (by decide) (fun h_20 => ?_) (fun h_20 => ?_)
  · have hf := fb_f h_20 hf
    exact w_M_X11_log___0_27 C hr hf hP hS (lv_sub hl [0, 1, 2] rfl)
  · have hf := fb_t h_20 hf
    exact w_M_X11_log___0_23 C hr hf hP hS (lv_sub hl [] rfl)
set_option maxRecDepth 20000 in
theorem w_M_X11_log___0_0 {p : Program} {l : Launch} {e : Env} {s : State} {m : MethodId} {args : Array Value} {below : List Frame} {meth : Method} {c : Code} {A : Nat → Prop} {Q : State → Prop} {D : va_G} {ca : Nat → ClassId} {a : Nat → Nat} {u : fw_S} {r : Int32}  (C : CX (WM ca a) D (tyv ca) p s m args c A prog_13_method_76_code 3 RX11) (hr : True → RX (WM ca a) D p l e rm_M_X11_log___0 s m args below meth c A prog_13_method_76_code Q .ireturn [.int r] u) {t : fw_S} {x1 : Int32} {x2 : Int32} {H : Heap} {locs : List Loc} {ls : Array Slot} (hf : b_M_X11_log___0_0  t x1 x2 = some (r, u)) (hP : va_P D classes (WM ca a t) H) (hS : va_S A s.heap H locs) (hl : lv_has ls 3 [(0, .ref (a 0)), (1, .int x1), (2, .int x2)]) : W p l e rm_M_X11_log___0 s m args below meth c H locs 0 0 Q (F0 m 0 ls []) := by
  obtain ⟨hx, hb, hml, hown, hts, hN, hK, hD, hA⟩ := id C
  have hf : (fb_b (f_M_X11_isIn t x1 ((0 : Int32)) ((st_I t 13) - ((1 : Int32)))) fun v_2 t_1 => (if v_2 = 0 then b_M_X11_log___0_23 t_1 else b_M_X11_log___0_14 t_1 x1 x2)) = some (r, u) := hf
  refine lv_iload_n hx hb dX11_log__0 rfl (lv_at hl 1 rfl) ?_
  refine lv_iconst (v := 0) hx hb dX11_log__1 (by decide) ?_
  refine lv_aload_n hx hb dX11_log__2 rfl (lv_at hl 0 rfl) ?_
  refine va_get (D := D) (ci := 11) (v := .int (st_I t 13)) (C := RX11) (T := TX11) (N := 76) hx hb hts inX11 hown hK hP 0 (heM_0 ca a t) rfl 48 (by decide) (hts _ kw_1240) (fun _ h9 => h9) rfl dX11_log__3 ?_
  refine lv_iconst (v := 1) hx hb dX11_log__6 (by decide) ?_
  refine lv_isub hx hb dX11_log__7 ?_
  obtain ⟨v_2, t_1, g_8, hf⟩ := fb_bs hf
  refine fw_S1 (As := [.int x1, .int ((0 : Int32)), .int ((st_I t 13) - ((1 : Int32)))]) (rest := []) (n := 3) C (c_M_X11_isIn (l := l) (D := D) (ca := ca) (a := a) g_8) kw_1426 kw_1427 kw_102 kw_1428 hP hS hl rfl rfl (by decide) (by decide +kernel) ⟨Nat.le_of_ble_eq_true rfl, Nat.le_of_ble_eq_true rfl⟩ rfl rfl (Nat.le_of_ble_eq_true rfl) dX11_log__8 (fun H locs hP hS => ?_)
  refine W.eq (g2 := F0 m 11 ls [.int v_2]) rfl ?_
  refine lv_if_eq (tgt := 23) hx hb dX11_log__11 (by decide) (fun h_11 => ?_) (fun h_11 => ?_)
  · have hf := fb_t h_11 hf
    exact w_M_X11_log___0_23 C hr hf hP hS (lv_sub hl [] rfl)
  · have hf := fb_f h_11 hf
    exact w_M_X11_log___0_14 C hr hf hP hS (lv_sub hl [0, 1, 2] rfl)
set_option maxRecDepth 20000 in
theorem c_M_X11_log___0 {l : Launch} {D : va_G} {ca : Nat → ClassId} {a : Nat → Nat} {t : fw_S} {x1 : Int32} {x2 : Int32} {u : fw_S} {r : Int32} (hf : f_M_X11_log___0 t x1 x2 = some (r, u)) : MC (WM ca a) D (tyv ca) l yX11_log_ (.code yX11_log_ prog_13_method_76_code 3 (some .int) :: lw_gd) rm_M_X11_log___0 [.ref (a 0), .int x1, .int x2] (some (.int r)) t u := by
  refine fw_met (okM ca a) (by decide +kernel) rfl rfl (Nat.le_of_ble_eq_true rfl) ?_
  intro p e s m args below meth c A Q ls C hr hk hP hS hl hQ
  exact w_M_X11_log___0_0 C (fun _ => fw_ri C hr hk hQ) hf hP hS (lv_sub hl [0, 1, 2] rfl)
/-! ReactiveSheetModel.logged(II)J ['m'] -/
abbrev rm_M_X11_logged__0 : Room := { frames := 1, cells := 0, slots := 0, locals := 22 }
def b_M_X11_logged__0_45  (t : fw_S)  : Option (Int64 × fw_S) := some ((-9223372036854775808 : Int64), t)
def b_M_X11_logged__0_68  (t : fw_S) (w0 : Int64) : Option (Int64 × fw_S) := some (w0, t)
def b_M_X11_logged__0_62  (t : fw_S) (x1 : Int32) : Option (Int64 × fw_S) := fb_g (¬ (x1 < 0 ∨ 60 ≤ x1.toNatClampNeg)) (b_M_X11_logged__0_68 t (st_G t 6 x1.toNatClampNeg))
def b_M_X11_logged__0_53  (t : fw_S) (x1 : Int32) : Option (Int64 × fw_S) := fb_g (¬ (x1 < 0 ∨ 60 ≤ x1.toNatClampNeg)) (b_M_X11_logged__0_68 t (st_G t 5 x1.toNatClampNeg))
def b_M_X11_logged__0_49  (t : fw_S) (x1 : Int32) (x2 : Int32) : Option (Int64 × fw_S) := if x2 = 0 then b_M_X11_logged__0_53 t x1 else b_M_X11_logged__0_62 t x1
def b_M_X11_logged__0_42  (t : fw_S) (x1 : Int32) (x2 : Int32) (z0 : Int32) : Option (Int64 × fw_S) := if z0 = 0 then b_M_X11_logged__0_49 t x1 x2 else b_M_X11_logged__0_45 t
def b_M_X11_logged__0_36  (t : fw_S) (x1 : Int32) (x2 : Int32) : Option (Int64 × fw_S) := fb_g (¬ (x1 < 0 ∨ 60 ≤ x1.toNatClampNeg)) (b_M_X11_logged__0_42 t x1 x2 (st_F t 35 x1.toNatClampNeg))
def b_M_X11_logged__0_27  (t : fw_S) (x1 : Int32) (x2 : Int32) : Option (Int64 × fw_S) := fb_g (¬ (x1 < 0 ∨ 60 ≤ x1.toNatClampNeg)) (b_M_X11_logged__0_42 t x1 x2 (st_F t 34 x1.toNatClampNeg))
def b_M_X11_logged__0_23  (t : fw_S) (x1 : Int32) (x2 : Int32) : Option (Int64 × fw_S) := if x2 = 0 then b_M_X11_logged__0_27 t x1 x2 else b_M_X11_logged__0_36 t x1 x2
def b_M_X11_logged__0_14  (t : fw_S) (x1 : Int32) (x2 : Int32) : Option (Int64 × fw_S) := fb_b (f_M_X11_isIn t x2 ((0 : Int32)) ((1 : Int32))) fun v_2 t_1 => (if v_2 = 0 then b_M_X11_logged__0_45 t_1 else b_M_X11_logged__0_23 t_1 x1 x2)
def b_M_X11_logged__0_0  (t : fw_S) (x1 : Int32) (x2 : Int32) : Option (Int64 × fw_S) := fb_b (f_M_X11_isIn t x1 ((0 : Int32)) ((st_I t 13) - ((1 : Int32)))) fun v_2 t_1 => (if v_2 = 0 then b_M_X11_logged__0_45 t_1 else b_M_X11_logged__0_14 t_1 x1 x2)
def f_M_X11_logged__0 (t : fw_S) (x1 : Int32) (x2 : Int32) : Option (Int64 × fw_S) := b_M_X11_logged__0_0 t x1 x2
set_option maxRecDepth 20000 in
theorem w_M_X11_logged__0_45 {p : Program} {l : Launch} {e : Env} {s : State} {m : MethodId} {args : Array Value} {below : List Frame} {meth : Method} {c : Code} {A : Nat → Prop} {Q : State → Prop} {D : va_G} {ca : Nat → ClassId} {a : Nat → Nat} {u : fw_S} {r : Int64}  (C : CX (WM ca a) D (tyv ca) p s m args c A prog_13_method_77_code 3 RX11) (hr : True → RX (WM ca a) D p l e rm_M_X11_logged__0 s m args below meth c A prog_13_method_77_code Q .lreturn [.long r] u) {t : fw_S}  {H : Heap} {locs : List Loc} {ls : Array Slot} (hf : b_M_X11_logged__0_45  t  = some (r, u)) (hP : va_P D classes (WM ca a t) H) (hS : va_S A s.heap H locs) (hl : lv_has ls 3 []) : W p l e rm_M_X11_logged__0 s m args below meth c H locs 0 0 Q (F0 m 45 ls []) := by
  obtain ⟨hx, hb, hml, hown, hts, hN, hK, hD, hA⟩ := id C
  have hf : (some ((-9223372036854775808 : Int64), t)) = some (r, u) := hf
  refine lv_ldc2 (v := (-9223372036854775808)) hx hb hown (hts _ kw_1506) dX11_logged_45 ?_
  obtain ⟨e_48, e2_48⟩ := fb_e hf
  subst e_48; subst e2_48
  exact hr trivial _ _ _ _ hP hS dX11_logged_48
set_option maxRecDepth 20000 in
theorem w_M_X11_logged__0_68 {p : Program} {l : Launch} {e : Env} {s : State} {m : MethodId} {args : Array Value} {below : List Frame} {meth : Method} {c : Code} {A : Nat → Prop} {Q : State → Prop} {D : va_G} {ca : Nat → ClassId} {a : Nat → Nat} {u : fw_S} {r : Int64}  (C : CX (WM ca a) D (tyv ca) p s m args c A prog_13_method_77_code 3 RX11) (hr : True → RX (WM ca a) D p l e rm_M_X11_logged__0 s m args below meth c A prog_13_method_77_code Q .lreturn [.long r] u) {t : fw_S} {w0 : Int64} {H : Heap} {locs : List Loc} {ls : Array Slot} (hf : b_M_X11_logged__0_68  t w0 = some (r, u)) (hP : va_P D classes (WM ca a t) H) (hS : va_S A s.heap H locs) (hl : lv_has ls 3 []) : W p l e rm_M_X11_logged__0 s m args below meth c H locs 0 0 Q (F0 m 68 ls [.long w0]) := by
  obtain ⟨hx, hb, hml, hown, hts, hN, hK, hD, hA⟩ := id C
  have hf : (some (w0, t)) = some (r, u) := hf
  obtain ⟨e_68, e2_68⟩ := fb_e hf
  subst e_68; subst e2_68
  exact hr trivial _ _ _ _ hP hS dX11_logged_68
set_option maxRecDepth 20000 in
theorem w_M_X11_logged__0_62 {p : Program} {l : Launch} {e : Env} {s : State} {m : MethodId} {args : Array Value} {below : List Frame} {meth : Method} {c : Code} {A : Nat → Prop} {Q : State → Prop} {D : va_G} {ca : Nat → ClassId} {a : Nat → Nat} {u : fw_S} {r : Int64}  (C : CX (WM ca a) D (tyv ca) p s m args c A prog_13_method_77_code 3 RX11) (hr : True → RX (WM ca a) D p l e rm_M_X11_logged__0 s m args below meth c A prog_13_method_77_code Q .lreturn [.long r] u) {t : fw_S} {x1 : Int32} {H : Heap} {locs : List Loc} {ls : Array Slot} (hf : b_M_X11_logged__0_62  t x1 = some (r, u)) (hP : va_P D classes (WM ca a t) H) (hS : va_S A s.heap H locs) (hl : lv_has ls 3 [(0, .ref (a 0)), (1, .int x1)]) : W p l e rm_M_X11_logged__0 s m args below meth c H locs 0 0 Q (F0 m 62 ls []) := by
  obtain ⟨hx, hb, hml, hown, hts, hN, hK, hD, hA⟩ := id C
  have hf : (fb_g (¬ (x1 < 0 ∨ 60 ≤ x1.toNatClampNeg)) (b_M_X11_logged__0_68 t (st_G t 6 x1.toNatClampNeg))) = some (r, u) := hf
  refine lv_aload_n hx hb dX11_logged_62 rfl (lv_at hl 0 rfl) ?_
  refine va_get (D := D) (ci := 11) (v := .ref (a 44)) (C := RX11) (T := TX11) (N := 76) hx hb hts inX11 hown hK hP 0 (heM_0 ca a t) rfl 61 (by decide) (hts _ kw_1253) (fun _ h9 => h9) rfl dX11_logged_63 ?_
  refine lv_iload_n hx hb dX11_logged_66 rfl (lv_at hl 1 rfl) ?_
  obtain ⟨h_67, hf⟩ := fb_if hf
  refine va_lald hx hb hK hP 44 1 (haM_44 ca a t) rfl h_67 dX11_logged_67 ?_
  exact w_M_X11_logged__0_68 C hr hf hP hS (lv_sub hl [] rfl)
set_option maxRecDepth 20000 in
theorem w_M_X11_logged__0_53 {p : Program} {l : Launch} {e : Env} {s : State} {m : MethodId} {args : Array Value} {below : List Frame} {meth : Method} {c : Code} {A : Nat → Prop} {Q : State → Prop} {D : va_G} {ca : Nat → ClassId} {a : Nat → Nat} {u : fw_S} {r : Int64}  (C : CX (WM ca a) D (tyv ca) p s m args c A prog_13_method_77_code 3 RX11) (hr : True → RX (WM ca a) D p l e rm_M_X11_logged__0 s m args below meth c A prog_13_method_77_code Q .lreturn [.long r] u) {t : fw_S} {x1 : Int32} {H : Heap} {locs : List Loc} {ls : Array Slot} (hf : b_M_X11_logged__0_53  t x1 = some (r, u)) (hP : va_P D classes (WM ca a t) H) (hS : va_S A s.heap H locs) (hl : lv_has ls 3 [(0, .ref (a 0)), (1, .int x1)]) : W p l e rm_M_X11_logged__0 s m args below meth c H locs 0 0 Q (F0 m 53 ls []) := by
  obtain ⟨hx, hb, hml, hown, hts, hN, hK, hD, hA⟩ := id C
  have hf : (fb_g (¬ (x1 < 0 ∨ 60 ≤ x1.toNatClampNeg)) (b_M_X11_logged__0_68 t (st_G t 5 x1.toNatClampNeg))) = some (r, u) := hf
  refine lv_aload_n hx hb dX11_logged_53 rfl (lv_at hl 0 rfl) ?_
  refine va_get (D := D) (ci := 11) (v := .ref (a 43)) (C := RX11) (T := TX11) (N := 76) hx hb hts inX11 hown hK hP 0 (heM_0 ca a t) rfl 60 (by decide) (hts _ kw_1252) (fun _ h9 => h9) rfl dX11_logged_54 ?_
  refine lv_iload_n hx hb dX11_logged_57 rfl (lv_at hl 1 rfl) ?_
  obtain ⟨h_58, hf⟩ := fb_if hf
  refine va_lald hx hb hK hP 43 1 (haM_43 ca a t) rfl h_58 dX11_logged_58 ?_
  refine lv_goto (tgt := 68) hx hb dX11_logged_59 (by decide) ?_
  exact w_M_X11_logged__0_68 C hr hf hP hS (lv_sub hl [] rfl)
set_option maxRecDepth 20000 in
theorem w_M_X11_logged__0_49 {p : Program} {l : Launch} {e : Env} {s : State} {m : MethodId} {args : Array Value} {below : List Frame} {meth : Method} {c : Code} {A : Nat → Prop} {Q : State → Prop} {D : va_G} {ca : Nat → ClassId} {a : Nat → Nat} {u : fw_S} {r : Int64}  (C : CX (WM ca a) D (tyv ca) p s m args c A prog_13_method_77_code 3 RX11) (hr : True → RX (WM ca a) D p l e rm_M_X11_logged__0 s m args below meth c A prog_13_method_77_code Q .lreturn [.long r] u) {t : fw_S} {x1 : Int32} {x2 : Int32} {H : Heap} {locs : List Loc} {ls : Array Slot} (hf : b_M_X11_logged__0_49  t x1 x2 = some (r, u)) (hP : va_P D classes (WM ca a t) H) (hS : va_S A s.heap H locs) (hl : lv_has ls 3 [(0, .ref (a 0)), (1, .int x1), (2, .int x2)]) : W p l e rm_M_X11_logged__0 s m args below meth c H locs 0 0 Q (F0 m 49 ls []) := by
  obtain ⟨hx, hb, hml, hown, hts, hN, hK, hD, hA⟩ := id C
  have hf : (if x2 = 0 then b_M_X11_logged__0_53 t x1 else b_M_X11_logged__0_62 t x1) = some (r, u) := hf
  refine lv_iload_n hx hb dX11_logged_49 rfl (lv_at hl 2 rfl) ?_
  refine lv_if_ne (tgt := 62) hx hb dX11_logged_50 (by decide) (fun h_50 => ?_) (fun h_50 => ?_)
  · have hf := fb_f h_50 hf
    exact w_M_X11_logged__0_62 C hr hf hP hS (lv_sub hl [0, 1] rfl)
  · have hf := fb_t h_50 hf
    exact w_M_X11_logged__0_53 C hr hf hP hS (lv_sub hl [0, 1] rfl)
set_option maxRecDepth 20000 in
theorem w_M_X11_logged__0_42 {p : Program} {l : Launch} {e : Env} {s : State} {m : MethodId} {args : Array Value} {below : List Frame} {meth : Method} {c : Code} {A : Nat → Prop} {Q : State → Prop} {D : va_G} {ca : Nat → ClassId} {a : Nat → Nat} {u : fw_S} {r : Int64}  (C : CX (WM ca a) D (tyv ca) p s m args c A prog_13_method_77_code 3 RX11) (hr : True → RX (WM ca a) D p l e rm_M_X11_logged__0 s m args below meth c A prog_13_method_77_code Q .lreturn [.long r] u) {t : fw_S} {x1 : Int32} {x2 : Int32} {z0 : Int32} {H : Heap} {locs : List Loc} {ls : Array Slot} (hf : b_M_X11_logged__0_42  t x1 x2 z0 = some (r, u)) (hP : va_P D classes (WM ca a t) H) (hS : va_S A s.heap H locs) (hl : lv_has ls 3 [(0, .ref (a 0)), (1, .int x1), (2, .int x2)]) : W p l e rm_M_X11_logged__0 s m args below meth c H locs 0 0 Q (F0 m 42 ls [.int z0]) := by
  obtain ⟨hx, hb, hml, hown, hts, hN, hK, hD, hA⟩ := id C
  have hf : (if z0 = 0 then b_M_X11_logged__0_49 t x1 x2 else b_M_X11_logged__0_45 t) = some (r, u) := hf
  refine lv_if_eq (tgt := 49) hx hb dX11_logged_42 (by decide) (fun h_42 => ?_) (fun h_42 => ?_)
  · have hf := fb_t h_42 hf
    exact w_M_X11_logged__0_49 C hr hf hP hS (lv_sub hl [0, 1, 2] rfl)
  · have hf := fb_f h_42 hf
    exact w_M_X11_logged__0_45 C hr hf hP hS (lv_sub hl [] rfl)
set_option maxRecDepth 20000 in
theorem w_M_X11_logged__0_36 {p : Program} {l : Launch} {e : Env} {s : State} {m : MethodId} {args : Array Value} {below : List Frame} {meth : Method} {c : Code} {A : Nat → Prop} {Q : State → Prop} {D : va_G} {ca : Nat → ClassId} {a : Nat → Nat} {u : fw_S} {r : Int64}  (C : CX (WM ca a) D (tyv ca) p s m args c A prog_13_method_77_code 3 RX11) (hr : True → RX (WM ca a) D p l e rm_M_X11_logged__0 s m args below meth c A prog_13_method_77_code Q .lreturn [.long r] u) {t : fw_S} {x1 : Int32} {x2 : Int32} {H : Heap} {locs : List Loc} {ls : Array Slot} (hf : b_M_X11_logged__0_36  t x1 x2 = some (r, u)) (hP : va_P D classes (WM ca a t) H) (hS : va_S A s.heap H locs) (hl : lv_has ls 3 [(0, .ref (a 0)), (1, .int x1), (2, .int x2)]) : W p l e rm_M_X11_logged__0 s m args below meth c H locs 0 0 Q (F0 m 36 ls []) := by
  obtain ⟨hx, hb, hml, hown, hts, hN, hK, hD, hA⟩ := id C
  have hf : (fb_g (¬ (x1 < 0 ∨ 60 ≤ x1.toNatClampNeg)) (b_M_X11_logged__0_42 t x1 x2 (st_F t 35 x1.toNatClampNeg))) = some (r, u) := hf
  refine lv_aload_n hx hb dX11_logged_36 rfl (lv_at hl 0 rfl) ?_
  refine va_get (D := D) (ci := 11) (v := .ref (a 40)) (C := RX11) (T := TX11) (N := 76) hx hb hts inX11 hown hK hP 0 (heM_0 ca a t) rfl 57 (by decide) (hts _ kw_1249) (fun _ h9 => h9) rfl dX11_logged_37 ?_
  refine lv_iload_n hx hb dX11_logged_40 rfl (lv_at hl 1 rfl) ?_
  obtain ⟨h_41, hf⟩ := fb_if hf
  refine va_iald hx hb hK hP 40 0 (haM_40 ca a t) rfl h_41 dX11_logged_41 ?_
  exact w_M_X11_logged__0_42 C hr hf hP hS (lv_sub hl [0, 1, 2] rfl)
set_option maxRecDepth 20000 in
theorem w_M_X11_logged__0_27 {p : Program} {l : Launch} {e : Env} {s : State} {m : MethodId} {args : Array Value} {below : List Frame} {meth : Method} {c : Code} {A : Nat → Prop} {Q : State → Prop} {D : va_G} {ca : Nat → ClassId} {a : Nat → Nat} {u : fw_S} {r : Int64}  (C : CX (WM ca a) D (tyv ca) p s m args c A prog_13_method_77_code 3 RX11) (hr : True → RX (WM ca a) D p l e rm_M_X11_logged__0 s m args below meth c A prog_13_method_77_code Q .lreturn [.long r] u) {t : fw_S} {x1 : Int32} {x2 : Int32} {H : Heap} {locs : List Loc} {ls : Array Slot} (hf : b_M_X11_logged__0_27  t x1 x2 = some (r, u)) (hP : va_P D classes (WM ca a t) H) (hS : va_S A s.heap H locs) (hl : lv_has ls 3 [(0, .ref (a 0)), (1, .int x1), (2, .int x2)]) : W p l e rm_M_X11_logged__0 s m args below meth c H locs 0 0 Q (F0 m 27 ls []) := by
  obtain ⟨hx, hb, hml, hown, hts, hN, hK, hD, hA⟩ := id C
  have hf : (fb_g (¬ (x1 < 0 ∨ 60 ≤ x1.toNatClampNeg)) (b_M_X11_logged__0_42 t x1 x2 (st_F t 34 x1.toNatClampNeg))) = some (r, u) := hf
  refine lv_aload_n hx hb dX11_logged_27 rfl (lv_at hl 0 rfl) ?_
  refine va_get (D := D) (ci := 11) (v := .ref (a 39)) (C := RX11) (T := TX11) (N := 76) hx hb hts inX11 hown hK hP 0 (heM_0 ca a t) rfl 56 (by decide) (hts _ kw_1248) (fun _ h9 => h9) rfl dX11_logged_28 ?_
  refine lv_iload_n hx hb dX11_logged_31 rfl (lv_at hl 1 rfl) ?_
  obtain ⟨h_32, hf⟩ := fb_if hf
  refine va_iald hx hb hK hP 39 0 (haM_39 ca a t) rfl h_32 dX11_logged_32 ?_
  refine lv_goto (tgt := 42) hx hb dX11_logged_33 (by decide) ?_
  exact w_M_X11_logged__0_42 C hr hf hP hS (lv_sub hl [0, 1, 2] rfl)
set_option maxRecDepth 20000 in
theorem w_M_X11_logged__0_23 {p : Program} {l : Launch} {e : Env} {s : State} {m : MethodId} {args : Array Value} {below : List Frame} {meth : Method} {c : Code} {A : Nat → Prop} {Q : State → Prop} {D : va_G} {ca : Nat → ClassId} {a : Nat → Nat} {u : fw_S} {r : Int64}  (C : CX (WM ca a) D (tyv ca) p s m args c A prog_13_method_77_code 3 RX11) (hr : True → RX (WM ca a) D p l e rm_M_X11_logged__0 s m args below meth c A prog_13_method_77_code Q .lreturn [.long r] u) {t : fw_S} {x1 : Int32} {x2 : Int32} {H : Heap} {locs : List Loc} {ls : Array Slot} (hf : b_M_X11_logged__0_23  t x1 x2 = some (r, u)) (hP : va_P D classes (WM ca a t) H) (hS : va_S A s.heap H locs) (hl : lv_has ls 3 [(0, .ref (a 0)), (1, .int x1), (2, .int x2)]) : W p l e rm_M_X11_logged__0 s m args below meth c H locs 0 0 Q (F0 m 23 ls []) := by
  obtain ⟨hx, hb, hml, hown, hts, hN, hK, hD, hA⟩ := id C
  have hf : (if x2 = 0 then b_M_X11_logged__0_27 t x1 x2 else b_M_X11_logged__0_36 t x1 x2) = some (r, u) := hf
  refine lv_iload_n hx hb dX11_logged_23 rfl (lv_at hl 2 rfl) ?_
  refine lv_if_ne (tgt := 36) hx hb dX11_logged_24 (by decide) (fun h_24 => ?_) (fun h_24 => ?_)
  · have hf := fb_f h_24 hf
    exact w_M_X11_logged__0_36 C hr hf hP hS (lv_sub hl [0, 1, 2] rfl)
  · have hf := fb_t h_24 hf
    exact w_M_X11_logged__0_27 C hr hf hP hS (lv_sub hl [0, 1, 2] rfl)
set_option maxRecDepth 20000 in
theorem w_M_X11_logged__0_14 {p : Program} {l : Launch} {e : Env} {s : State} {m : MethodId} {args : Array Value} {below : List Frame} {meth : Method} {c : Code} {A : Nat → Prop} {Q : State → Prop} {D : va_G} {ca : Nat → ClassId} {a : Nat → Nat} {u : fw_S} {r : Int64}  (C : CX (WM ca a) D (tyv ca) p s m args c A prog_13_method_77_code 3 RX11) (hr : True → RX (WM ca a) D p l e rm_M_X11_logged__0 s m args below meth c A prog_13_method_77_code Q .lreturn [.long r] u) {t : fw_S} {x1 : Int32} {x2 : Int32} {H : Heap} {locs : List Loc} {ls : Array Slot} (hf : b_M_X11_logged__0_14  t x1 x2 = some (r, u)) (hP : va_P D classes (WM ca a t) H) (hS : va_S A s.heap H locs) (hl : lv_has ls 3 [(0, .ref (a 0)), (1, .int x1), (2, .int x2)]) : W p l e rm_M_X11_logged__0 s m args below meth c H locs 0 0 Q (F0 m 14 ls []) := by
  obtain ⟨hx, hb, hml, hown, hts, hN, hK, hD, hA⟩ := id C
  have hf : (fb_b (f_M_X11_isIn t x2 ((0 : Int32)) ((1 : Int32))) fun v_2 t_1 => (if v_2 = 0 then b_M_X11_logged__0_45 t_1 else b_M_X11_logged__0_23 t_1 x1 x2)) = some (r, u) := hf
  refine lv_iload_n hx hb dX11_logged_14 rfl (lv_at hl 2 rfl) ?_
  refine lv_iconst (v := 0) hx hb dX11_logged_15 (by decide) ?_
  refine lv_iconst (v := 1) hx hb dX11_logged_16 (by decide) ?_
  obtain ⟨v_2, t_1, g_17, hf⟩ := fb_bs hf
  refine fw_S1 (As := [.int x2, .int ((0 : Int32)), .int ((1 : Int32))]) (rest := []) (n := 3) C (c_M_X11_isIn (l := l) (D := D) (ca := ca) (a := a) g_17) kw_1426 kw_1427 kw_102 kw_1428 hP hS hl rfl rfl (by decide) (by decide +kernel) ⟨Nat.le_of_ble_eq_true rfl, Nat.le_of_ble_eq_true rfl⟩ rfl rfl (Nat.le_of_ble_eq_true rfl) dX11_logged_17 (fun H locs hP hS => ?_)
  refine W.eq (g2 := F0 m 20 ls [.int v_2]) rfl ?_
  refine lv_if_eq (tgt := 45) hx hb dX11_logged_20 (by decide) (fun h_20 => ?_) (fun h_20 => ?_)
  · have hf := fb_t h_20 hf
    exact w_M_X11_logged__0_45 C hr hf hP hS (lv_sub hl [] rfl)
  · have hf := fb_f h_20 hf
    exact w_M_X11_logged__0_23 C hr hf hP hS (lv_sub hl [0, 1, 2] rfl)
set_option maxRecDepth 20000 in
theorem w_M_X11_logged__0_0 {p : Program} {l : Launch} {e : Env} {s : State} {m : MethodId} {args : Array Value} {below : List Frame} {meth : Method} {c : Code} {A : Nat → Prop} {Q : State → Prop} {D : va_G} {ca : Nat → ClassId} {a : Nat → Nat} {u : fw_S} {r : Int64}  (C : CX (WM ca a) D (tyv ca) p s m args c A prog_13_method_77_code 3 RX11) (hr : True → RX (WM ca a) D p l e rm_M_X11_logged__0 s m args below meth c A prog_13_method_77_code Q .lreturn [.long r] u) {t : fw_S} {x1 : Int32} {x2 : Int32} {H : Heap} {locs : List Loc} {ls : Array Slot} (hf : b_M_X11_logged__0_0  t x1 x2 = some (r, u)) (hP : va_P D classes (WM ca a t) H) (hS : va_S A s.heap H locs) (hl : lv_has ls 3 [(0, .ref (a 0)), (1, .int x1), (2, .int x2)]) : W p l e rm_M_X11_logged__0 s m args below meth c H locs 0 0 Q (F0 m 0 ls []) := by
  obtain ⟨hx, hb, hml, hown, hts, hN, hK, hD, hA⟩ := id C
  have hf : (fb_b (f_M_X11_isIn t x1 ((0 : Int32)) ((st_I t 13) - ((1 : Int32)))) fun v_2 t_1 => (if v_2 = 0 then b_M_X11_logged__0_45 t_1 else b_M_X11_logged__0_14 t_1 x1 x2)) = some (r, u) := hf
  refine lv_iload_n hx hb dX11_logged_0 rfl (lv_at hl 1 rfl) ?_
  refine lv_iconst (v := 0) hx hb dX11_logged_1 (by decide) ?_
  refine lv_aload_n hx hb dX11_logged_2 rfl (lv_at hl 0 rfl) ?_
  refine va_get (D := D) (ci := 11) (v := .int (st_I t 13)) (C := RX11) (T := TX11) (N := 76) hx hb hts inX11 hown hK hP 0 (heM_0 ca a t) rfl 48 (by decide) (hts _ kw_1240) (fun _ h9 => h9) rfl dX11_logged_3 ?_
  refine lv_iconst (v := 1) hx hb dX11_logged_6 (by decide) ?_
  refine lv_isub hx hb dX11_logged_7 ?_
  obtain ⟨v_2, t_1, g_8, hf⟩ := fb_bs hf
  refine fw_S1 (As := [.int x1, .int ((0 : Int32)), .int ((st_I t 13) - ((1 : Int32)))]) (rest := []) (n := 3) C (c_M_X11_isIn (l := l) (D := D) (ca := ca) (a := a) g_8) kw_1426 kw_1427 kw_102 kw_1428 hP hS hl rfl rfl (by decide) (by decide +kernel) ⟨Nat.le_of_ble_eq_true rfl, Nat.le_of_ble_eq_true rfl⟩ rfl rfl (Nat.le_of_ble_eq_true rfl) dX11_logged_8 (fun H locs hP hS => ?_)
  refine W.eq (g2 := F0 m 11 ls [.int v_2]) rfl ?_
  refine lv_if_eq (tgt := 45) hx hb dX11_logged_11 (by decide) (fun h_11 => ?_) (fun h_11 => ?_)
  · have hf := fb_t h_11 hf
    exact w_M_X11_logged__0_45 C hr hf hP hS (lv_sub hl [] rfl)
  · have hf := fb_f h_11 hf
    exact w_M_X11_logged__0_14 C hr hf hP hS (lv_sub hl [0, 1, 2] rfl)
set_option maxRecDepth 20000 in
theorem c_M_X11_logged__0 {l : Launch} {D : va_G} {ca : Nat → ClassId} {a : Nat → Nat} {t : fw_S} {x1 : Int32} {x2 : Int32} {u : fw_S} {r : Int64} (hf : f_M_X11_logged__0 t x1 x2 = some (r, u)) : MC (WM ca a) D (tyv ca) l yX11_logged (.code yX11_logged prog_13_method_77_code 3 (some .long) :: lw_gd) rm_M_X11_logged__0 [.ref (a 0), .int x1, .int x2] (some (.long r)) t u := by
  refine fw_met (okM ca a) (by decide +kernel) rfl rfl (Nat.le_of_ble_eq_true rfl) ?_
  intro p e s m args below meth c A Q ls C hr hk hP hS hl hQ
  exact w_M_X11_logged__0_0 C (fun _ => fw_rl C hr hk hQ) hf hP hS (lv_sub hl [0, 1, 2] rfl)
/-! ReactiveSheetModel.told(I)I ['m'] -/
abbrev rm_M_X11_told___0 : Room := { frames := 3, cells := 0, slots := 0, locals := 66 }
def b_M_X11_told___0_102  (t : fw_S) (x2 : Int32) : Option (Int32 × fw_S) := some (x2, t)
def b_M_X11_told___0_94 (k70 : fw_S → Int32 → Int32 → Int32 → Option (Int32 × fw_S)) (t : fw_S) (x1 : Int32) (x3 : Int32) (z0 : Int32) (z1 : Int32) : Option (Int32 × fw_S) := k70 t x1 (z0 + z1) (x3 + 1)
def b_M_X11_told___0_93 (k70 : fw_S → Int32 → Int32 → Int32 → Option (Int32 × fw_S)) (t : fw_S) (x1 : Int32) (x3 : Int32) (z0 : Int32) : Option (Int32 × fw_S) := b_M_X11_told___0_94 k70 t x1 x3 z0 ((0 : Int32))
def b_M_X11_told___0_89 (k70 : fw_S → Int32 → Int32 → Int32 → Option (Int32 × fw_S)) (t : fw_S) (x1 : Int32) (x3 : Int32) (z0 : Int32) : Option (Int32 × fw_S) := b_M_X11_told___0_94 k70 t x1 x3 z0 ((1 : Int32))
def b_M_X11_told___0_76 (k70 : fw_S → Int32 → Int32 → Int32 → Option (Int32 × fw_S)) (t : fw_S) (x1 : Int32) (x2 : Int32) (x3 : Int32) : Option (Int32 × fw_S) := fb_g (¬ (x3 < 0 ∨ 32 ≤ x3.toNatClampNeg)) (if (st_F t 0 x3.toNatClampNeg) = (x1 + ((1 : Int32))) then b_M_X11_told___0_89 k70 t x1 x3 x2 else b_M_X11_told___0_93 k70 t x1 x3 x2)
def b_M_X11_told___0_70  : Nat → (fw_S → Int32 → Int32 → Int32 → Option (Int32 × fw_S))
  | 0 => fun _ _ _ _ => none
  | n + 1 => fun t x1 x2 x3 => if ((32 : Int32)) ≤ x3 then b_M_X11_told___0_102 t x2 else b_M_X11_told___0_76 (b_M_X11_told___0_70 n) t x1 x2 x3
def b_M_X11_told___0_68  (t : fw_S) (x1 : Int32) (x2 : Int32) : Option (Int32 × fw_S) := b_M_X11_told___0_70 3000 t x1 x2 ((0 : Int32))
def b_M_X11_told___0_135  (t : fw_S) (x2 : Int32) : Option (Int32 × fw_S) := some (x2, t)
def b_M_X11_told___0_127 (k106 : fw_S → Int32 → Int32 → Option (Int32 × fw_S)) (t : fw_S) (x3 : Int32) (z0 : Int32) (z1 : Int32) : Option (Int32 × fw_S) := k106 t (z0 + z1) (x3 + 1)
def b_M_X11_told___0_126 (k106 : fw_S → Int32 → Int32 → Option (Int32 × fw_S)) (t : fw_S) (x3 : Int32) (z0 : Int32) : Option (Int32 × fw_S) := b_M_X11_told___0_127 k106 t x3 z0 ((0 : Int32))
def b_M_X11_told___0_122 (k106 : fw_S → Int32 → Int32 → Option (Int32 × fw_S)) (t : fw_S) (x3 : Int32) (z0 : Int32) : Option (Int32 × fw_S) := b_M_X11_told___0_127 k106 t x3 z0 ((1 : Int32))
def b_M_X11_told___0_112 (k106 : fw_S → Int32 → Int32 → Option (Int32 × fw_S)) (t : fw_S) (x2 : Int32) (x3 : Int32) : Option (Int32 × fw_S) := fb_g (¬ (x3 < 0 ∨ 32 ≤ x3.toNatClampNeg)) (if (st_F t 8 x3.toNatClampNeg) = 0 then b_M_X11_told___0_126 k106 t x3 x2 else b_M_X11_told___0_122 k106 t x3 x2)
def b_M_X11_told___0_106  : Nat → (fw_S → Int32 → Int32 → Option (Int32 × fw_S))
  | 0 => fun _ _ _ => none
  | n + 1 => fun t x2 x3 => if ((32 : Int32)) ≤ x3 then b_M_X11_told___0_135 t x2 else b_M_X11_told___0_112 (b_M_X11_told___0_106 n) t x2 x3
def b_M_X11_told___0_104  (t : fw_S) (x2 : Int32) : Option (Int32 × fw_S) := b_M_X11_told___0_106 3000 t x2 ((0 : Int32))
def b_M_X11_told___0_168  (t : fw_S) (x2 : Int32) : Option (Int32 × fw_S) := some (x2, t)
def b_M_X11_told___0_160 (k139 : fw_S → Int32 → Int32 → Option (Int32 × fw_S)) (t : fw_S) (x3 : Int32) (z0 : Int32) (z1 : Int32) : Option (Int32 × fw_S) := k139 t (z0 + z1) (x3 + 1)
def b_M_X11_told___0_159 (k139 : fw_S → Int32 → Int32 → Option (Int32 × fw_S)) (t : fw_S) (x3 : Int32) (z0 : Int32) : Option (Int32 × fw_S) := b_M_X11_told___0_160 k139 t x3 z0 ((0 : Int32))
def b_M_X11_told___0_155 (k139 : fw_S → Int32 → Int32 → Option (Int32 × fw_S)) (t : fw_S) (x3 : Int32) (z0 : Int32) : Option (Int32 × fw_S) := b_M_X11_told___0_160 k139 t x3 z0 ((1 : Int32))
def b_M_X11_told___0_145 (k139 : fw_S → Int32 → Int32 → Option (Int32 × fw_S)) (t : fw_S) (x2 : Int32) (x3 : Int32) : Option (Int32 × fw_S) := fb_g (¬ (x3 < 0 ∨ 32 ≤ x3.toNatClampNeg)) (if (st_F t 7 x3.toNatClampNeg) = 0 then b_M_X11_told___0_159 k139 t x3 x2 else b_M_X11_told___0_155 k139 t x3 x2)
def b_M_X11_told___0_139  : Nat → (fw_S → Int32 → Int32 → Option (Int32 × fw_S))
  | 0 => fun _ _ _ => none
  | n + 1 => fun t x2 x3 => if ((32 : Int32)) ≤ x3 then b_M_X11_told___0_168 t x2 else b_M_X11_told___0_145 (b_M_X11_told___0_139 n) t x2 x3
def b_M_X11_told___0_137  (t : fw_S) (x2 : Int32) : Option (Int32 × fw_S) := b_M_X11_told___0_139 3000 t x2 ((0 : Int32))
def b_M_X11_told___0_193  (t : fw_S) (x2 : Int32) : Option (Int32 × fw_S) := some (x2, t)
def b_M_X11_told___0_178 (k172 : fw_S → Int32 → Int32 → Option (Int32 × fw_S)) (t : fw_S) (x2 : Int32) (x3 : Int32) : Option (Int32 × fw_S) := fb_g (¬ (x3 < 0 ∨ 32 ≤ x3.toNatClampNeg)) (k172 t (x2 + (st_F t 2 x3.toNatClampNeg)) (x3 + 1))
def b_M_X11_told___0_172  : Nat → (fw_S → Int32 → Int32 → Option (Int32 × fw_S))
  | 0 => fun _ _ _ => none
  | n + 1 => fun t x2 x3 => if ((32 : Int32)) ≤ x3 then b_M_X11_told___0_193 t x2 else b_M_X11_told___0_178 (b_M_X11_told___0_172 n) t x2 x3
def b_M_X11_told___0_170  (t : fw_S) (x2 : Int32) : Option (Int32 × fw_S) := b_M_X11_told___0_172 3000 t x2 ((0 : Int32))
def b_M_X11_told___0_195  (t : fw_S)  : Option (Int32 × fw_S) := some (st_I t 14, t)
def b_M_X11_told___0_200  (t : fw_S)  : Option (Int32 × fw_S) := some (st_I t 12, t)
def b_M_X11_told___0_205  (t : fw_S)  : Option (Int32 × fw_S) := some (st_I t 13, t)
def b_M_X11_told___0_222  (t : fw_S) (z0 : Int32) : Option (Int32 × fw_S) := some (z0, t)
def b_M_X11_told___0_221  (t : fw_S)  : Option (Int32 × fw_S) := b_M_X11_told___0_222 t ((0 : Int32))
def b_M_X11_told___0_217  (t : fw_S)  : Option (Int32 × fw_S) := b_M_X11_told___0_222 t ((1 : Int32))
def b_M_X11_told___0_210  (t : fw_S)  : Option (Int32 × fw_S) := if (st_I t 0) = 0 then b_M_X11_told___0_221 t else b_M_X11_told___0_217 t
def b_M_X11_told___0_223  (t : fw_S)  : Option (Int32 × fw_S) := fb_b (f_M_X11_batched__0 t) fun v_2 t_1 => (some (v_2, t_1))
def b_M_X11_told___0_228  (t : fw_S)  : Option (Int32 × fw_S) := some (st_I t 5, t)
def b_M_X11_told___0_233  (t : fw_S)  : Option (Int32 × fw_S) := some (st_I t 6, t)
def b_M_X11_told___0_267  (t : fw_S) (x2 : Int32) : Option (Int32 × fw_S) := some (x2, t)
def b_M_X11_told___0_250 (k244 : fw_S → Int32 → Int32 → Option (Int32 × fw_S)) (t : fw_S) (x2 : Int32) (x3 : Int32) : Option (Int32 × fw_S) := fb_g (¬ (x3 < 0 ∨ 32 ≤ x3.toNatClampNeg)) (fb_b (f_M_J9_max_7cf53 t x2 (st_F t 40 x3.toNatClampNeg)) fun v_2 t_1 => (k244 t_1 v_2 (x3 + 1)))
def b_M_X11_told___0_244  : Nat → (fw_S → Int32 → Int32 → Option (Int32 × fw_S))
  | 0 => fun _ _ _ => none
  | n + 1 => fun t x2 x3 => if ((32 : Int32)) ≤ x3 then b_M_X11_told___0_267 t x2 else b_M_X11_told___0_250 (b_M_X11_told___0_244 n) t x2 x3
def b_M_X11_told___0_238  (t : fw_S) (x2 : Int32) : Option (Int32 × fw_S) := fb_v (f_M_X11_tellHeights__0 t) fun t_1 => (b_M_X11_told___0_244 3000 t_1 x2 ((0 : Int32)))
def b_M_X11_told___0_269  (t : fw_S)  : Option (Int32 × fw_S) := some ((-1 : Int32), t)
def b_M_X11_told___0_0  (t : fw_S) (x1 : Int32) : Option (Int32 × fw_S) := if x1 = 0 then b_M_X11_told___0_68 t x1 ((0 : Int32)) else if x1 = 1 then b_M_X11_told___0_68 t x1 ((0 : Int32)) else if x1 = 2 then b_M_X11_told___0_104 t ((0 : Int32)) else if x1 = 3 then b_M_X11_told___0_137 t ((0 : Int32)) else if x1 = 4 then b_M_X11_told___0_170 t ((0 : Int32)) else if x1 = 5 then b_M_X11_told___0_195 t else if x1 = 6 then b_M_X11_told___0_200 t else if x1 = 7 then b_M_X11_told___0_205 t else if x1 = 8 then b_M_X11_told___0_210 t else if x1 = 9 then b_M_X11_told___0_223 t else if x1 = 10 then b_M_X11_told___0_228 t else if x1 = 11 then b_M_X11_told___0_233 t else if x1 = 12 then b_M_X11_told___0_238 t ((0 : Int32)) else b_M_X11_told___0_269 t
def f_M_X11_told___0 (t : fw_S) (x1 : Int32) : Option (Int32 × fw_S) := b_M_X11_told___0_0 t x1
set_option maxRecDepth 20000 in
theorem w_M_X11_told___0_102 {p : Program} {l : Launch} {e : Env} {s : State} {m : MethodId} {args : Array Value} {below : List Frame} {meth : Method} {c : Code} {A : Nat → Prop} {Q : State → Prop} {D : va_G} {ca : Nat → ClassId} {a : Nat → Nat} {u : fw_S} {r : Int32}  (C : CX (WM ca a) D (tyv ca) p s m args c A prog_13_method_78_code 4 RX11) (hr : True → RX (WM ca a) D p l e rm_M_X11_told___0 s m args below meth c A prog_13_method_78_code Q .ireturn [.int r] u) {t : fw_S} {x2 : Int32} {H : Heap} {locs : List Loc} {ls : Array Slot} (hf : b_M_X11_told___0_102  t x2 = some (r, u)) (hP : va_P D classes (WM ca a t) H) (hS : va_S A s.heap H locs) (hl : lv_has ls 4 [(2, .int x2)]) : W p l e rm_M_X11_told___0 s m args below meth c H locs 0 0 Q (F0 m 102 ls []) := by
  obtain ⟨hx, hb, hml, hown, hts, hN, hK, hD, hA⟩ := id C
  have hf : (some (x2, t)) = some (r, u) := hf
  refine lv_iload_n hx hb dX11_told__102 rfl (lv_at hl 0 rfl) ?_
  obtain ⟨e_103, e2_103⟩ := fb_e hf
  subst e_103; subst e2_103
  exact hr trivial _ _ _ _ hP hS dX11_told__103
set_option maxRecDepth 20000 in
theorem w_M_X11_told___0_94 {p : Program} {l : Launch} {e : Env} {s : State} {m : MethodId} {args : Array Value} {below : List Frame} {meth : Method} {c : Code} {A : Nat → Prop} {Q : State → Prop} {D : va_G} {ca : Nat → ClassId} {a : Nat → Nat} {u : fw_S} {r : Int32} {k70 : fw_S → Int32 → Int32 → Int32 → Option (Int32 × fw_S)} (C : CX (WM ca a) D (tyv ca) p s m args c A prog_13_method_78_code 4 RX11) (hr : True → RX (WM ca a) D p l e rm_M_X11_told___0 s m args below meth c A prog_13_method_78_code Q .ireturn [.int r] u) (hk70 : ∀ (t : fw_S) (x1 : Int32) (x2 : Int32) (x3 : Int32) (H : Heap) (locs : List Loc) (ls : Array Slot), k70 t x1 x2 x3 = some (r, u) → va_P D classes (WM ca a t) H → va_S A s.heap H locs → lv_has ls 4 [(0, .ref (a 0)), (1, .int x1), (2, .int x2), (3, .int x3)] → W p l e rm_M_X11_told___0 s m args below meth c H locs 0 0 Q (F0 m 70 ls [])) {t : fw_S} {x1 : Int32} {x3 : Int32} {z0 : Int32} {z1 : Int32} {H : Heap} {locs : List Loc} {ls : Array Slot} (hf : b_M_X11_told___0_94 k70 t x1 x3 z0 z1 = some (r, u)) (hP : va_P D classes (WM ca a t) H) (hS : va_S A s.heap H locs) (hl : lv_has ls 4 [(0, .ref (a 0)), (1, .int x1), (3, .int x3)]) : W p l e rm_M_X11_told___0 s m args below meth c H locs 0 0 Q (F0 m 94 ls [.int z1, .int z0]) := by
  obtain ⟨hx, hb, hml, hown, hts, hN, hK, hD, hA⟩ := id C
  have hf : (k70 t x1 (z0 + z1) (x3 + 1)) = some (r, u) := hf
  refine lv_iadd hx hb dX11_told__94 ?_
  refine lv_istore_n (lv' := [(2, .int (z0 + z1)), (0, .ref (a 0)), (1, .int x1), (3, .int x3)]) hx hb dX11_told__95 rfl hl (by decide) rfl (fun ls hl => ?_)
  refine lv_iinc (v := x3 + 1) (lv' := [(3, .int (x3 + 1)), (2, .int (z0 + z1)), (0, .ref (a 0)), (1, .int x1)]) hx hb dX11_told__96 hl (k := 3) rfl rfl (by decide) rfl (fun ls hl => ?_)
  refine lv_goto (tgt := 70) hx hb dX11_told__99 (by decide) ?_
  exact hk70 t x1 (z0 + z1) (x3 + 1) _ _ _ hf hP hS (lv_sub hl [2, 3, 1, 0] rfl)
set_option maxRecDepth 20000 in
theorem w_M_X11_told___0_93 {p : Program} {l : Launch} {e : Env} {s : State} {m : MethodId} {args : Array Value} {below : List Frame} {meth : Method} {c : Code} {A : Nat → Prop} {Q : State → Prop} {D : va_G} {ca : Nat → ClassId} {a : Nat → Nat} {u : fw_S} {r : Int32} {k70 : fw_S → Int32 → Int32 → Int32 → Option (Int32 × fw_S)} (C : CX (WM ca a) D (tyv ca) p s m args c A prog_13_method_78_code 4 RX11) (hr : True → RX (WM ca a) D p l e rm_M_X11_told___0 s m args below meth c A prog_13_method_78_code Q .ireturn [.int r] u) (hk70 : ∀ (t : fw_S) (x1 : Int32) (x2 : Int32) (x3 : Int32) (H : Heap) (locs : List Loc) (ls : Array Slot), k70 t x1 x2 x3 = some (r, u) → va_P D classes (WM ca a t) H → va_S A s.heap H locs → lv_has ls 4 [(0, .ref (a 0)), (1, .int x1), (2, .int x2), (3, .int x3)] → W p l e rm_M_X11_told___0 s m args below meth c H locs 0 0 Q (F0 m 70 ls [])) {t : fw_S} {x1 : Int32} {x3 : Int32} {z0 : Int32} {H : Heap} {locs : List Loc} {ls : Array Slot} (hf : b_M_X11_told___0_93 k70 t x1 x3 z0 = some (r, u)) (hP : va_P D classes (WM ca a t) H) (hS : va_S A s.heap H locs) (hl : lv_has ls 4 [(0, .ref (a 0)), (1, .int x1), (3, .int x3)]) : W p l e rm_M_X11_told___0 s m args below meth c H locs 0 0 Q (F0 m 93 ls [.int z0]) := by
  obtain ⟨hx, hb, hml, hown, hts, hN, hK, hD, hA⟩ := id C
  have hf : (b_M_X11_told___0_94 k70 t x1 x3 z0 ((0 : Int32))) = some (r, u) := hf
  refine lv_iconst (v := 0) hx hb dX11_told__93 (by decide) ?_
  exact w_M_X11_told___0_94 C hr hk70 hf hP hS (lv_sub hl [0, 1, 2] rfl)
set_option maxRecDepth 20000 in
theorem w_M_X11_told___0_89 {p : Program} {l : Launch} {e : Env} {s : State} {m : MethodId} {args : Array Value} {below : List Frame} {meth : Method} {c : Code} {A : Nat → Prop} {Q : State → Prop} {D : va_G} {ca : Nat → ClassId} {a : Nat → Nat} {u : fw_S} {r : Int32} {k70 : fw_S → Int32 → Int32 → Int32 → Option (Int32 × fw_S)} (C : CX (WM ca a) D (tyv ca) p s m args c A prog_13_method_78_code 4 RX11) (hr : True → RX (WM ca a) D p l e rm_M_X11_told___0 s m args below meth c A prog_13_method_78_code Q .ireturn [.int r] u) (hk70 : ∀ (t : fw_S) (x1 : Int32) (x2 : Int32) (x3 : Int32) (H : Heap) (locs : List Loc) (ls : Array Slot), k70 t x1 x2 x3 = some (r, u) → va_P D classes (WM ca a t) H → va_S A s.heap H locs → lv_has ls 4 [(0, .ref (a 0)), (1, .int x1), (2, .int x2), (3, .int x3)] → W p l e rm_M_X11_told___0 s m args below meth c H locs 0 0 Q (F0 m 70 ls [])) {t : fw_S} {x1 : Int32} {x3 : Int32} {z0 : Int32} {H : Heap} {locs : List Loc} {ls : Array Slot} (hf : b_M_X11_told___0_89 k70 t x1 x3 z0 = some (r, u)) (hP : va_P D classes (WM ca a t) H) (hS : va_S A s.heap H locs) (hl : lv_has ls 4 [(0, .ref (a 0)), (1, .int x1), (3, .int x3)]) : W p l e rm_M_X11_told___0 s m args below meth c H locs 0 0 Q (F0 m 89 ls [.int z0]) := by
  obtain ⟨hx, hb, hml, hown, hts, hN, hK, hD, hA⟩ := id C
  have hf : (b_M_X11_told___0_94 k70 t x1 x3 z0 ((1 : Int32))) = some (r, u) := hf
  refine lv_iconst (v := 1) hx hb dX11_told__89 (by decide) ?_
  refine lv_goto (tgt := 94) hx hb dX11_told__90 (by decide) ?_
  exact w_M_X11_told___0_94 C hr hk70 hf hP hS (lv_sub hl [0, 1, 2] rfl)
set_option maxRecDepth 20000 in
theorem w_M_X11_told___0_76 {p : Program} {l : Launch} {e : Env} {s : State} {m : MethodId} {args : Array Value} {below : List Frame} {meth : Method} {c : Code} {A : Nat → Prop} {Q : State → Prop} {D : va_G} {ca : Nat → ClassId} {a : Nat → Nat} {u : fw_S} {r : Int32} {k70 : fw_S → Int32 → Int32 → Int32 → Option (Int32 × fw_S)} (C : CX (WM ca a) D (tyv ca) p s m args c A prog_13_method_78_code 4 RX11) (hr : True → RX (WM ca a) D p l e rm_M_X11_told___0 s m args below meth c A prog_13_method_78_code Q .ireturn [.int r] u) (hk70 : ∀ (t : fw_S) (x1 : Int32) (x2 : Int32) (x3 : Int32) (H : Heap) (locs : List Loc) (ls : Array Slot), k70 t x1 x2 x3 = some (r, u) → va_P D classes (WM ca a t) H → va_S A s.heap H locs → lv_has ls 4 [(0, .ref (a 0)), (1, .int x1), (2, .int x2), (3, .int x3)] → W p l e rm_M_X11_told___0 s m args below meth c H locs 0 0 Q (F0 m 70 ls [])) {t : fw_S} {x1 : Int32} {x2 : Int32} {x3 : Int32} {H : Heap} {locs : List Loc} {ls : Array Slot} (hf : b_M_X11_told___0_76 k70 t x1 x2 x3 = some (r, u)) (hP : va_P D classes (WM ca a t) H) (hS : va_S A s.heap H locs) (hl : lv_has ls 4 [(0, .ref (a 0)), (1, .int x1), (2, .int x2), (3, .int x3)]) : W p l e rm_M_X11_told___0 s m args below meth c H locs 0 0 Q (F0 m 76 ls []) := by
  obtain ⟨hx, hb, hml, hown, hts, hN, hK, hD, hA⟩ := id C
  have hf : (fb_g (¬ (x3 < 0 ∨ 32 ≤ x3.toNatClampNeg)) (if (st_F t 0 x3.toNatClampNeg) = (x1 + ((1 : Int32))) then b_M_X11_told___0_89 k70 t x1 x3 x2 else b_M_X11_told___0_93 k70 t x1 x3 x2)) = some (r, u) := hf
  refine lv_iload_n hx hb dX11_told__76 rfl (lv_at hl 2 rfl) ?_
  refine lv_aload_n hx hb dX11_told__77 rfl (lv_at hl 0 rfl) ?_
  refine va_get (D := D) (ci := 11) (v := .ref (a 1)) (C := RX11) (T := TX11) (N := 76) hx hb hts inX11 hown hK hP 0 (heM_0 ca a t) rfl 0 (by decide) (hts _ kw_1192) (fun _ h9 => h9) rfl dX11_told__78 ?_
  refine lv_iload_n hx hb dX11_told__81 rfl (lv_at hl 3 rfl) ?_
  obtain ⟨h_82, hf⟩ := fb_if hf
  refine va_iald hx hb hK hP 1 0 (haM_1 ca a t) rfl h_82 dX11_told__82 ?_
  refine lv_iload_n hx hb dX11_told__83 rfl (lv_at hl 1 rfl) ?_
  refine lv_iconst (v := 1) hx hb dX11_told__84 (by decide) ?_
  refine lv_iadd hx hb dX11_told__85 ?_
  refine lv_icmp_ne (tgt := 93) hx hb dX11_told__86 (by decide) (fun h_86 => ?_) (fun h_86 => ?_)
  · have hf := fb_f h_86 hf
    exact w_M_X11_told___0_93 C hr hk70 hf hP hS (lv_sub hl [0, 1, 3] rfl)
  · have hf := fb_t h_86 hf
    exact w_M_X11_told___0_89 C hr hk70 hf hP hS (lv_sub hl [0, 1, 3] rfl)
set_option maxRecDepth 20000 in
theorem w_M_X11_told___0_70 {p : Program} {l : Launch} {e : Env} {s : State} {m : MethodId} {args : Array Value} {below : List Frame} {meth : Method} {c : Code} {A : Nat → Prop} {Q : State → Prop} {D : va_G} {ca : Nat → ClassId} {a : Nat → Nat} {u : fw_S} {r : Int32}  (C : CX (WM ca a) D (tyv ca) p s m args c A prog_13_method_78_code 4 RX11) (hr : True → RX (WM ca a) D p l e rm_M_X11_told___0 s m args below meth c A prog_13_method_78_code Q .ireturn [.int r] u) : ∀ (n : Nat) (t : fw_S) (x1 : Int32) (x2 : Int32) (x3 : Int32) (H : Heap) (locs : List Loc) (ls : Array Slot), b_M_X11_told___0_70  n t x1 x2 x3 = some (r, u) → va_P D classes (WM ca a t) H → va_S A s.heap H locs → lv_has ls 4 [(0, .ref (a 0)), (1, .int x1), (2, .int x2), (3, .int x3)] → W p l e rm_M_X11_told___0 s m args below meth c H locs 0 0 Q (F0 m 70 ls []) := by
  obtain ⟨hx, hb, hml, hown, hts, hN, hK, hD, hA⟩ := id C
  intro n
  induction n with
  | zero => intro t x1 x2 x3 H locs ls hf; cases hf
  | succ n hk70 =>
    intro t x1 x2 x3 H locs ls hf hP hS hl
    have hf : (if ((32 : Int32)) ≤ x3 then b_M_X11_told___0_102 t x2 else b_M_X11_told___0_76 (b_M_X11_told___0_70 n) t x1 x2 x3) = some (r, u) := hf
    refine lv_iload_n hx hb dX11_told__70 rfl (lv_at hl 3 rfl) ?_
    refine lv_bipush (v := 32) hx hb dX11_told__71 (by decide) ?_
    refine lv_icmp_ge (tgt := 102) hx hb dX11_told__73 (by decide) (fun h_73 => ?_) (fun h_73 => ?_)
    · have hf := fb_t h_73 hf
      exact w_M_X11_told___0_102 C hr hf hP hS (lv_sub hl [2] rfl)
    · have hf := fb_f h_73 hf
      exact w_M_X11_told___0_76 C hr hk70 hf hP hS (lv_sub hl [0, 1, 2, 3] rfl)
set_option maxRecDepth 20000 in
theorem w_M_X11_told___0_68 {p : Program} {l : Launch} {e : Env} {s : State} {m : MethodId} {args : Array Value} {below : List Frame} {meth : Method} {c : Code} {A : Nat → Prop} {Q : State → Prop} {D : va_G} {ca : Nat → ClassId} {a : Nat → Nat} {u : fw_S} {r : Int32}  (C : CX (WM ca a) D (tyv ca) p s m args c A prog_13_method_78_code 4 RX11) (hr : True → RX (WM ca a) D p l e rm_M_X11_told___0 s m args below meth c A prog_13_method_78_code Q .ireturn [.int r] u) {t : fw_S} {x1 : Int32} {x2 : Int32} {H : Heap} {locs : List Loc} {ls : Array Slot} (hf : b_M_X11_told___0_68  t x1 x2 = some (r, u)) (hP : va_P D classes (WM ca a t) H) (hS : va_S A s.heap H locs) (hl : lv_has ls 4 [(0, .ref (a 0)), (1, .int x1), (2, .int x2)]) : W p l e rm_M_X11_told___0 s m args below meth c H locs 0 0 Q (F0 m 68 ls []) := by
  obtain ⟨hx, hb, hml, hown, hts, hN, hK, hD, hA⟩ := id C
  have hf : (b_M_X11_told___0_70 3000 t x1 x2 ((0 : Int32))) = some (r, u) := hf
  refine lv_iconst (v := 0) hx hb dX11_told__68 (by decide) ?_
  refine lv_istore_n (lv' := [(3, .int ((0 : Int32))), (0, .ref (a 0)), (1, .int x1), (2, .int x2)]) hx hb dX11_told__69 rfl hl (by decide) rfl (fun ls hl => ?_)
  exact w_M_X11_told___0_70 C hr 3000 t x1 x2 ((0 : Int32)) _ _ _ hf hP hS (lv_sub hl [1, 2, 3, 0] rfl)
set_option maxRecDepth 20000 in
theorem w_M_X11_told___0_135 {p : Program} {l : Launch} {e : Env} {s : State} {m : MethodId} {args : Array Value} {below : List Frame} {meth : Method} {c : Code} {A : Nat → Prop} {Q : State → Prop} {D : va_G} {ca : Nat → ClassId} {a : Nat → Nat} {u : fw_S} {r : Int32}  (C : CX (WM ca a) D (tyv ca) p s m args c A prog_13_method_78_code 4 RX11) (hr : True → RX (WM ca a) D p l e rm_M_X11_told___0 s m args below meth c A prog_13_method_78_code Q .ireturn [.int r] u) {t : fw_S} {x2 : Int32} {H : Heap} {locs : List Loc} {ls : Array Slot} (hf : b_M_X11_told___0_135  t x2 = some (r, u)) (hP : va_P D classes (WM ca a t) H) (hS : va_S A s.heap H locs) (hl : lv_has ls 4 [(2, .int x2)]) : W p l e rm_M_X11_told___0 s m args below meth c H locs 0 0 Q (F0 m 135 ls []) := by
  obtain ⟨hx, hb, hml, hown, hts, hN, hK, hD, hA⟩ := id C
  have hf : (some (x2, t)) = some (r, u) := hf
  refine lv_iload_n hx hb dX11_told__135 rfl (lv_at hl 0 rfl) ?_
  obtain ⟨e_136, e2_136⟩ := fb_e hf
  subst e_136; subst e2_136
  exact hr trivial _ _ _ _ hP hS dX11_told__136
set_option maxRecDepth 20000 in
theorem w_M_X11_told___0_127 {p : Program} {l : Launch} {e : Env} {s : State} {m : MethodId} {args : Array Value} {below : List Frame} {meth : Method} {c : Code} {A : Nat → Prop} {Q : State → Prop} {D : va_G} {ca : Nat → ClassId} {a : Nat → Nat} {u : fw_S} {r : Int32} {k106 : fw_S → Int32 → Int32 → Option (Int32 × fw_S)} (C : CX (WM ca a) D (tyv ca) p s m args c A prog_13_method_78_code 4 RX11) (hr : True → RX (WM ca a) D p l e rm_M_X11_told___0 s m args below meth c A prog_13_method_78_code Q .ireturn [.int r] u) (hk106 : ∀ (t : fw_S) (x2 : Int32) (x3 : Int32) (H : Heap) (locs : List Loc) (ls : Array Slot), k106 t x2 x3 = some (r, u) → va_P D classes (WM ca a t) H → va_S A s.heap H locs → lv_has ls 4 [(0, .ref (a 0)), (2, .int x2), (3, .int x3)] → W p l e rm_M_X11_told___0 s m args below meth c H locs 0 0 Q (F0 m 106 ls [])) {t : fw_S} {x3 : Int32} {z0 : Int32} {z1 : Int32} {H : Heap} {locs : List Loc} {ls : Array Slot} (hf : b_M_X11_told___0_127 k106 t x3 z0 z1 = some (r, u)) (hP : va_P D classes (WM ca a t) H) (hS : va_S A s.heap H locs) (hl : lv_has ls 4 [(0, .ref (a 0)), (3, .int x3)]) : W p l e rm_M_X11_told___0 s m args below meth c H locs 0 0 Q (F0 m 127 ls [.int z1, .int z0]) := by
  obtain ⟨hx, hb, hml, hown, hts, hN, hK, hD, hA⟩ := id C
  have hf : (k106 t (z0 + z1) (x3 + 1)) = some (r, u) := hf
  refine lv_iadd hx hb dX11_told__127 ?_
  refine lv_istore_n (lv' := [(2, .int (z0 + z1)), (0, .ref (a 0)), (3, .int x3)]) hx hb dX11_told__128 rfl hl (by decide) rfl (fun ls hl => ?_)
  refine lv_iinc (v := x3 + 1) (lv' := [(3, .int (x3 + 1)), (2, .int (z0 + z1)), (0, .ref (a 0))]) hx hb dX11_told__129 hl (k := 2) rfl rfl (by decide) rfl (fun ls hl => ?_)
  refine lv_goto (tgt := 106) hx hb dX11_told__132 (by decide) ?_
  exact hk106 t (z0 + z1) (x3 + 1) _ _ _ hf hP hS (lv_sub hl [2, 1, 0] rfl)
set_option maxRecDepth 20000 in
theorem w_M_X11_told___0_126 {p : Program} {l : Launch} {e : Env} {s : State} {m : MethodId} {args : Array Value} {below : List Frame} {meth : Method} {c : Code} {A : Nat → Prop} {Q : State → Prop} {D : va_G} {ca : Nat → ClassId} {a : Nat → Nat} {u : fw_S} {r : Int32} {k106 : fw_S → Int32 → Int32 → Option (Int32 × fw_S)} (C : CX (WM ca a) D (tyv ca) p s m args c A prog_13_method_78_code 4 RX11) (hr : True → RX (WM ca a) D p l e rm_M_X11_told___0 s m args below meth c A prog_13_method_78_code Q .ireturn [.int r] u) (hk106 : ∀ (t : fw_S) (x2 : Int32) (x3 : Int32) (H : Heap) (locs : List Loc) (ls : Array Slot), k106 t x2 x3 = some (r, u) → va_P D classes (WM ca a t) H → va_S A s.heap H locs → lv_has ls 4 [(0, .ref (a 0)), (2, .int x2), (3, .int x3)] → W p l e rm_M_X11_told___0 s m args below meth c H locs 0 0 Q (F0 m 106 ls [])) {t : fw_S} {x3 : Int32} {z0 : Int32} {H : Heap} {locs : List Loc} {ls : Array Slot} (hf : b_M_X11_told___0_126 k106 t x3 z0 = some (r, u)) (hP : va_P D classes (WM ca a t) H) (hS : va_S A s.heap H locs) (hl : lv_has ls 4 [(0, .ref (a 0)), (3, .int x3)]) : W p l e rm_M_X11_told___0 s m args below meth c H locs 0 0 Q (F0 m 126 ls [.int z0]) := by
  obtain ⟨hx, hb, hml, hown, hts, hN, hK, hD, hA⟩ := id C
  have hf : (b_M_X11_told___0_127 k106 t x3 z0 ((0 : Int32))) = some (r, u) := hf
  refine lv_iconst (v := 0) hx hb dX11_told__126 (by decide) ?_
  exact w_M_X11_told___0_127 C hr hk106 hf hP hS (lv_sub hl [0, 1] rfl)
set_option maxRecDepth 20000 in
theorem w_M_X11_told___0_122 {p : Program} {l : Launch} {e : Env} {s : State} {m : MethodId} {args : Array Value} {below : List Frame} {meth : Method} {c : Code} {A : Nat → Prop} {Q : State → Prop} {D : va_G} {ca : Nat → ClassId} {a : Nat → Nat} {u : fw_S} {r : Int32} {k106 : fw_S → Int32 → Int32 → Option (Int32 × fw_S)} (C : CX (WM ca a) D (tyv ca) p s m args c A prog_13_method_78_code 4 RX11) (hr : True → RX (WM ca a) D p l e rm_M_X11_told___0 s m args below meth c A prog_13_method_78_code Q .ireturn [.int r] u) (hk106 : ∀ (t : fw_S) (x2 : Int32) (x3 : Int32) (H : Heap) (locs : List Loc) (ls : Array Slot), k106 t x2 x3 = some (r, u) → va_P D classes (WM ca a t) H → va_S A s.heap H locs → lv_has ls 4 [(0, .ref (a 0)), (2, .int x2), (3, .int x3)] → W p l e rm_M_X11_told___0 s m args below meth c H locs 0 0 Q (F0 m 106 ls [])) {t : fw_S} {x3 : Int32} {z0 : Int32} {H : Heap} {locs : List Loc} {ls : Array Slot} (hf : b_M_X11_told___0_122 k106 t x3 z0 = some (r, u)) (hP : va_P D classes (WM ca a t) H) (hS : va_S A s.heap H locs) (hl : lv_has ls 4 [(0, .ref (a 0)), (3, .int x3)]) : W p l e rm_M_X11_told___0 s m args below meth c H locs 0 0 Q (F0 m 122 ls [.int z0]) := by
  obtain ⟨hx, hb, hml, hown, hts, hN, hK, hD, hA⟩ := id C
  have hf : (b_M_X11_told___0_127 k106 t x3 z0 ((1 : Int32))) = some (r, u) := hf
  refine lv_iconst (v := 1) hx hb dX11_told__122 (by decide) ?_
  refine lv_goto (tgt := 127) hx hb dX11_told__123 (by decide) ?_
  exact w_M_X11_told___0_127 C hr hk106 hf hP hS (lv_sub hl [0, 1] rfl)
set_option maxRecDepth 20000 in
theorem w_M_X11_told___0_112 {p : Program} {l : Launch} {e : Env} {s : State} {m : MethodId} {args : Array Value} {below : List Frame} {meth : Method} {c : Code} {A : Nat → Prop} {Q : State → Prop} {D : va_G} {ca : Nat → ClassId} {a : Nat → Nat} {u : fw_S} {r : Int32} {k106 : fw_S → Int32 → Int32 → Option (Int32 × fw_S)} (C : CX (WM ca a) D (tyv ca) p s m args c A prog_13_method_78_code 4 RX11) (hr : True → RX (WM ca a) D p l e rm_M_X11_told___0 s m args below meth c A prog_13_method_78_code Q .ireturn [.int r] u) (hk106 : ∀ (t : fw_S) (x2 : Int32) (x3 : Int32) (H : Heap) (locs : List Loc) (ls : Array Slot), k106 t x2 x3 = some (r, u) → va_P D classes (WM ca a t) H → va_S A s.heap H locs → lv_has ls 4 [(0, .ref (a 0)), (2, .int x2), (3, .int x3)] → W p l e rm_M_X11_told___0 s m args below meth c H locs 0 0 Q (F0 m 106 ls [])) {t : fw_S} {x2 : Int32} {x3 : Int32} {H : Heap} {locs : List Loc} {ls : Array Slot} (hf : b_M_X11_told___0_112 k106 t x2 x3 = some (r, u)) (hP : va_P D classes (WM ca a t) H) (hS : va_S A s.heap H locs) (hl : lv_has ls 4 [(0, .ref (a 0)), (2, .int x2), (3, .int x3)]) : W p l e rm_M_X11_told___0 s m args below meth c H locs 0 0 Q (F0 m 112 ls []) := by
  obtain ⟨hx, hb, hml, hown, hts, hN, hK, hD, hA⟩ := id C
  have hf : (fb_g (¬ (x3 < 0 ∨ 32 ≤ x3.toNatClampNeg)) (if (st_F t 8 x3.toNatClampNeg) = 0 then b_M_X11_told___0_126 k106 t x3 x2 else b_M_X11_told___0_122 k106 t x3 x2)) = some (r, u) := hf
  refine lv_iload_n hx hb dX11_told__112 rfl (lv_at hl 1 rfl) ?_
  refine lv_aload_n hx hb dX11_told__113 rfl (lv_at hl 0 rfl) ?_
  refine va_get (D := D) (ci := 11) (v := .ref (a 10)) (C := RX11) (T := TX11) (N := 76) hx hb hts inX11 hown hK hP 0 (heM_0 ca a t) rfl 9 (by decide) (hts _ kw_1201) (fun _ h9 => h9) rfl dX11_told__114 ?_
  refine lv_iload_n hx hb dX11_told__117 rfl (lv_at hl 2 rfl) ?_
  obtain ⟨h_118, hf⟩ := fb_if hf
  refine va_zald hx hb hK hP 10 2 (haM_10 ca a t) rfl h_118 dX11_told__118 ?_
  refine lv_if_eq (tgt := 126) hx hb dX11_told__119 (by decide) (fun h_119 => ?_) (fun h_119 => ?_)
  · have hf := fb_t h_119 hf
    exact w_M_X11_told___0_126 C hr hk106 hf hP hS (lv_sub hl [0, 2] rfl)
  · have hf := fb_f h_119 hf
    exact w_M_X11_told___0_122 C hr hk106 hf hP hS (lv_sub hl [0, 2] rfl)
set_option maxRecDepth 20000 in
theorem w_M_X11_told___0_106 {p : Program} {l : Launch} {e : Env} {s : State} {m : MethodId} {args : Array Value} {below : List Frame} {meth : Method} {c : Code} {A : Nat → Prop} {Q : State → Prop} {D : va_G} {ca : Nat → ClassId} {a : Nat → Nat} {u : fw_S} {r : Int32}  (C : CX (WM ca a) D (tyv ca) p s m args c A prog_13_method_78_code 4 RX11) (hr : True → RX (WM ca a) D p l e rm_M_X11_told___0 s m args below meth c A prog_13_method_78_code Q .ireturn [.int r] u) : ∀ (n : Nat) (t : fw_S) (x2 : Int32) (x3 : Int32) (H : Heap) (locs : List Loc) (ls : Array Slot), b_M_X11_told___0_106  n t x2 x3 = some (r, u) → va_P D classes (WM ca a t) H → va_S A s.heap H locs → lv_has ls 4 [(0, .ref (a 0)), (2, .int x2), (3, .int x3)] → W p l e rm_M_X11_told___0 s m args below meth c H locs 0 0 Q (F0 m 106 ls []) := by
  obtain ⟨hx, hb, hml, hown, hts, hN, hK, hD, hA⟩ := id C
  intro n
  induction n with
  | zero => intro t x2 x3 H locs ls hf; cases hf
  | succ n hk106 =>
    intro t x2 x3 H locs ls hf hP hS hl
    have hf : (if ((32 : Int32)) ≤ x3 then b_M_X11_told___0_135 t x2 else b_M_X11_told___0_112 (b_M_X11_told___0_106 n) t x2 x3) = some (r, u) := hf
    refine lv_iload_n hx hb dX11_told__106 rfl (lv_at hl 2 rfl) ?_
    refine lv_bipush (v := 32) hx hb dX11_told__107 (by decide) ?_
    refine lv_icmp_ge (tgt := 135) hx hb dX11_told__109 (by decide) (fun h_109 => ?_) (fun h_109 => ?_)
    · have hf := fb_t h_109 hf
      exact w_M_X11_told___0_135 C hr hf hP hS (lv_sub hl [1] rfl)
    · have hf := fb_f h_109 hf
      exact w_M_X11_told___0_112 C hr hk106 hf hP hS (lv_sub hl [0, 1, 2] rfl)
set_option maxRecDepth 20000 in
theorem w_M_X11_told___0_104 {p : Program} {l : Launch} {e : Env} {s : State} {m : MethodId} {args : Array Value} {below : List Frame} {meth : Method} {c : Code} {A : Nat → Prop} {Q : State → Prop} {D : va_G} {ca : Nat → ClassId} {a : Nat → Nat} {u : fw_S} {r : Int32}  (C : CX (WM ca a) D (tyv ca) p s m args c A prog_13_method_78_code 4 RX11) (hr : True → RX (WM ca a) D p l e rm_M_X11_told___0 s m args below meth c A prog_13_method_78_code Q .ireturn [.int r] u) {t : fw_S} {x2 : Int32} {H : Heap} {locs : List Loc} {ls : Array Slot} (hf : b_M_X11_told___0_104  t x2 = some (r, u)) (hP : va_P D classes (WM ca a t) H) (hS : va_S A s.heap H locs) (hl : lv_has ls 4 [(0, .ref (a 0)), (2, .int x2)]) : W p l e rm_M_X11_told___0 s m args below meth c H locs 0 0 Q (F0 m 104 ls []) := by
  obtain ⟨hx, hb, hml, hown, hts, hN, hK, hD, hA⟩ := id C
  have hf : (b_M_X11_told___0_106 3000 t x2 ((0 : Int32))) = some (r, u) := hf
  refine lv_iconst (v := 0) hx hb dX11_told__104 (by decide) ?_
  refine lv_istore_n (lv' := [(3, .int ((0 : Int32))), (0, .ref (a 0)), (2, .int x2)]) hx hb dX11_told__105 rfl hl (by decide) rfl (fun ls hl => ?_)
  exact w_M_X11_told___0_106 C hr 3000 t x2 ((0 : Int32)) _ _ _ hf hP hS (lv_sub hl [1, 2, 0] rfl)
set_option maxRecDepth 20000 in
theorem w_M_X11_told___0_168 {p : Program} {l : Launch} {e : Env} {s : State} {m : MethodId} {args : Array Value} {below : List Frame} {meth : Method} {c : Code} {A : Nat → Prop} {Q : State → Prop} {D : va_G} {ca : Nat → ClassId} {a : Nat → Nat} {u : fw_S} {r : Int32}  (C : CX (WM ca a) D (tyv ca) p s m args c A prog_13_method_78_code 4 RX11) (hr : True → RX (WM ca a) D p l e rm_M_X11_told___0 s m args below meth c A prog_13_method_78_code Q .ireturn [.int r] u) {t : fw_S} {x2 : Int32} {H : Heap} {locs : List Loc} {ls : Array Slot} (hf : b_M_X11_told___0_168  t x2 = some (r, u)) (hP : va_P D classes (WM ca a t) H) (hS : va_S A s.heap H locs) (hl : lv_has ls 4 [(2, .int x2)]) : W p l e rm_M_X11_told___0 s m args below meth c H locs 0 0 Q (F0 m 168 ls []) := by
  obtain ⟨hx, hb, hml, hown, hts, hN, hK, hD, hA⟩ := id C
  have hf : (some (x2, t)) = some (r, u) := hf
  refine lv_iload_n hx hb dX11_told__168 rfl (lv_at hl 0 rfl) ?_
  obtain ⟨e_169, e2_169⟩ := fb_e hf
  subst e_169; subst e2_169
  exact hr trivial _ _ _ _ hP hS dX11_told__169
set_option maxRecDepth 20000 in
theorem w_M_X11_told___0_160 {p : Program} {l : Launch} {e : Env} {s : State} {m : MethodId} {args : Array Value} {below : List Frame} {meth : Method} {c : Code} {A : Nat → Prop} {Q : State → Prop} {D : va_G} {ca : Nat → ClassId} {a : Nat → Nat} {u : fw_S} {r : Int32} {k139 : fw_S → Int32 → Int32 → Option (Int32 × fw_S)} (C : CX (WM ca a) D (tyv ca) p s m args c A prog_13_method_78_code 4 RX11) (hr : True → RX (WM ca a) D p l e rm_M_X11_told___0 s m args below meth c A prog_13_method_78_code Q .ireturn [.int r] u) (hk139 : ∀ (t : fw_S) (x2 : Int32) (x3 : Int32) (H : Heap) (locs : List Loc) (ls : Array Slot), k139 t x2 x3 = some (r, u) → va_P D classes (WM ca a t) H → va_S A s.heap H locs → lv_has ls 4 [(0, .ref (a 0)), (2, .int x2), (3, .int x3)] → W p l e rm_M_X11_told___0 s m args below meth c H locs 0 0 Q (F0 m 139 ls [])) {t : fw_S} {x3 : Int32} {z0 : Int32} {z1 : Int32} {H : Heap} {locs : List Loc} {ls : Array Slot} (hf : b_M_X11_told___0_160 k139 t x3 z0 z1 = some (r, u)) (hP : va_P D classes (WM ca a t) H) (hS : va_S A s.heap H locs) (hl : lv_has ls 4 [(0, .ref (a 0)), (3, .int x3)]) : W p l e rm_M_X11_told___0 s m args below meth c H locs 0 0 Q (F0 m 160 ls [.int z1, .int z0]) := by
  obtain ⟨hx, hb, hml, hown, hts, hN, hK, hD, hA⟩ := id C
  have hf : (k139 t (z0 + z1) (x3 + 1)) = some (r, u) := hf
  refine lv_iadd hx hb dX11_told__160 ?_
  refine lv_istore_n (lv' := [(2, .int (z0 + z1)), (0, .ref (a 0)), (3, .int x3)]) hx hb dX11_told__161 rfl hl (by decide) rfl (fun ls hl => ?_)
  refine lv_iinc (v := x3 + 1) (lv' := [(3, .int (x3 + 1)), (2, .int (z0 + z1)), (0, .ref (a 0))]) hx hb dX11_told__162 hl (k := 2) rfl rfl (by decide) rfl (fun ls hl => ?_)
  refine lv_goto (tgt := 139) hx hb dX11_told__165 (by decide) ?_
  exact hk139 t (z0 + z1) (x3 + 1) _ _ _ hf hP hS (lv_sub hl [2, 1, 0] rfl)
set_option maxRecDepth 20000 in
theorem w_M_X11_told___0_159 {p : Program} {l : Launch} {e : Env} {s : State} {m : MethodId} {args : Array Value} {below : List Frame} {meth : Method} {c : Code} {A : Nat → Prop} {Q : State → Prop} {D : va_G} {ca : Nat → ClassId} {a : Nat → Nat} {u : fw_S} {r : Int32} {k139 : fw_S → Int32 → Int32 → Option (Int32 × fw_S)} (C : CX (WM ca a) D (tyv ca) p s m args c A prog_13_method_78_code 4 RX11) (hr : True → RX (WM ca a) D p l e rm_M_X11_told___0 s m args below meth c A prog_13_method_78_code Q .ireturn [.int r] u) (hk139 : ∀ (t : fw_S) (x2 : Int32) (x3 : Int32) (H : Heap) (locs : List Loc) (ls : Array Slot), k139 t x2 x3 = some (r, u) → va_P D classes (WM ca a t) H → va_S A s.heap H locs → lv_has ls 4 [(0, .ref (a 0)), (2, .int x2), (3, .int x3)] → W p l e rm_M_X11_told___0 s m args below meth c H locs 0 0 Q (F0 m 139 ls [])) {t : fw_S} {x3 : Int32} {z0 : Int32} {H : Heap} {locs : List Loc} {ls : Array Slot} (hf : b_M_X11_told___0_159 k139 t x3 z0 = some (r, u)) (hP : va_P D classes (WM ca a t) H) (hS : va_S A s.heap H locs) (hl : lv_has ls 4 [(0, .ref (a 0)), (3, .int x3)]) : W p l e rm_M_X11_told___0 s m args below meth c H locs 0 0 Q (F0 m 159 ls [.int z0]) := by
  obtain ⟨hx, hb, hml, hown, hts, hN, hK, hD, hA⟩ := id C
  have hf : (b_M_X11_told___0_160 k139 t x3 z0 ((0 : Int32))) = some (r, u) := hf
  refine lv_iconst (v := 0) hx hb dX11_told__159 (by decide) ?_
  exact w_M_X11_told___0_160 C hr hk139 hf hP hS (lv_sub hl [0, 1] rfl)
set_option maxRecDepth 20000 in
theorem w_M_X11_told___0_155 {p : Program} {l : Launch} {e : Env} {s : State} {m : MethodId} {args : Array Value} {below : List Frame} {meth : Method} {c : Code} {A : Nat → Prop} {Q : State → Prop} {D : va_G} {ca : Nat → ClassId} {a : Nat → Nat} {u : fw_S} {r : Int32} {k139 : fw_S → Int32 → Int32 → Option (Int32 × fw_S)} (C : CX (WM ca a) D (tyv ca) p s m args c A prog_13_method_78_code 4 RX11) (hr : True → RX (WM ca a) D p l e rm_M_X11_told___0 s m args below meth c A prog_13_method_78_code Q .ireturn [.int r] u) (hk139 : ∀ (t : fw_S) (x2 : Int32) (x3 : Int32) (H : Heap) (locs : List Loc) (ls : Array Slot), k139 t x2 x3 = some (r, u) → va_P D classes (WM ca a t) H → va_S A s.heap H locs → lv_has ls 4 [(0, .ref (a 0)), (2, .int x2), (3, .int x3)] → W p l e rm_M_X11_told___0 s m args below meth c H locs 0 0 Q (F0 m 139 ls [])) {t : fw_S} {x3 : Int32} {z0 : Int32} {H : Heap} {locs : List Loc} {ls : Array Slot} (hf : b_M_X11_told___0_155 k139 t x3 z0 = some (r, u)) (hP : va_P D classes (WM ca a t) H) (hS : va_S A s.heap H locs) (hl : lv_has ls 4 [(0, .ref (a 0)), (3, .int x3)]) : W p l e rm_M_X11_told___0 s m args below meth c H locs 0 0 Q (F0 m 155 ls [.int z0]) := by
  obtain ⟨hx, hb, hml, hown, hts, hN, hK, hD, hA⟩ := id C
  have hf : (b_M_X11_told___0_160 k139 t x3 z0 ((1 : Int32))) = some (r, u) := hf
  refine lv_iconst (v := 1) hx hb dX11_told__155 (by decide) ?_
  refine lv_goto (tgt := 160) hx hb dX11_told__156 (by decide) ?_
  exact w_M_X11_told___0_160 C hr hk139 hf hP hS (lv_sub hl [0, 1] rfl)
set_option maxRecDepth 20000 in
theorem w_M_X11_told___0_145 {p : Program} {l : Launch} {e : Env} {s : State} {m : MethodId} {args : Array Value} {below : List Frame} {meth : Method} {c : Code} {A : Nat → Prop} {Q : State → Prop} {D : va_G} {ca : Nat → ClassId} {a : Nat → Nat} {u : fw_S} {r : Int32} {k139 : fw_S → Int32 → Int32 → Option (Int32 × fw_S)} (C : CX (WM ca a) D (tyv ca) p s m args c A prog_13_method_78_code 4 RX11) (hr : True → RX (WM ca a) D p l e rm_M_X11_told___0 s m args below meth c A prog_13_method_78_code Q .ireturn [.int r] u) (hk139 : ∀ (t : fw_S) (x2 : Int32) (x3 : Int32) (H : Heap) (locs : List Loc) (ls : Array Slot), k139 t x2 x3 = some (r, u) → va_P D classes (WM ca a t) H → va_S A s.heap H locs → lv_has ls 4 [(0, .ref (a 0)), (2, .int x2), (3, .int x3)] → W p l e rm_M_X11_told___0 s m args below meth c H locs 0 0 Q (F0 m 139 ls [])) {t : fw_S} {x2 : Int32} {x3 : Int32} {H : Heap} {locs : List Loc} {ls : Array Slot} (hf : b_M_X11_told___0_145 k139 t x2 x3 = some (r, u)) (hP : va_P D classes (WM ca a t) H) (hS : va_S A s.heap H locs) (hl : lv_has ls 4 [(0, .ref (a 0)), (2, .int x2), (3, .int x3)]) : W p l e rm_M_X11_told___0 s m args below meth c H locs 0 0 Q (F0 m 145 ls []) := by
  obtain ⟨hx, hb, hml, hown, hts, hN, hK, hD, hA⟩ := id C
  have hf : (fb_g (¬ (x3 < 0 ∨ 32 ≤ x3.toNatClampNeg)) (if (st_F t 7 x3.toNatClampNeg) = 0 then b_M_X11_told___0_159 k139 t x3 x2 else b_M_X11_told___0_155 k139 t x3 x2)) = some (r, u) := hf
  refine lv_iload_n hx hb dX11_told__145 rfl (lv_at hl 1 rfl) ?_
  refine lv_aload_n hx hb dX11_told__146 rfl (lv_at hl 0 rfl) ?_
  refine va_get (D := D) (ci := 11) (v := .ref (a 9)) (C := RX11) (T := TX11) (N := 76) hx hb hts inX11 hown hK hP 0 (heM_0 ca a t) rfl 8 (by decide) (hts _ kw_1200) (fun _ h9 => h9) rfl dX11_told__147 ?_
  refine lv_iload_n hx hb dX11_told__150 rfl (lv_at hl 2 rfl) ?_
  obtain ⟨h_151, hf⟩ := fb_if hf
  refine va_zald hx hb hK hP 9 2 (haM_9 ca a t) rfl h_151 dX11_told__151 ?_
  refine lv_if_eq (tgt := 159) hx hb dX11_told__152 (by decide) (fun h_152 => ?_) (fun h_152 => ?_)
  · have hf := fb_t h_152 hf
    exact w_M_X11_told___0_159 C hr hk139 hf hP hS (lv_sub hl [0, 2] rfl)
  · have hf := fb_f h_152 hf
    exact w_M_X11_told___0_155 C hr hk139 hf hP hS (lv_sub hl [0, 2] rfl)
set_option maxRecDepth 20000 in
theorem w_M_X11_told___0_139 {p : Program} {l : Launch} {e : Env} {s : State} {m : MethodId} {args : Array Value} {below : List Frame} {meth : Method} {c : Code} {A : Nat → Prop} {Q : State → Prop} {D : va_G} {ca : Nat → ClassId} {a : Nat → Nat} {u : fw_S} {r : Int32}  (C : CX (WM ca a) D (tyv ca) p s m args c A prog_13_method_78_code 4 RX11) (hr : True → RX (WM ca a) D p l e rm_M_X11_told___0 s m args below meth c A prog_13_method_78_code Q .ireturn [.int r] u) : ∀ (n : Nat) (t : fw_S) (x2 : Int32) (x3 : Int32) (H : Heap) (locs : List Loc) (ls : Array Slot), b_M_X11_told___0_139  n t x2 x3 = some (r, u) → va_P D classes (WM ca a t) H → va_S A s.heap H locs → lv_has ls 4 [(0, .ref (a 0)), (2, .int x2), (3, .int x3)] → W p l e rm_M_X11_told___0 s m args below meth c H locs 0 0 Q (F0 m 139 ls []) := by
  obtain ⟨hx, hb, hml, hown, hts, hN, hK, hD, hA⟩ := id C
  intro n
  induction n with
  | zero => intro t x2 x3 H locs ls hf; cases hf
  | succ n hk139 =>
    intro t x2 x3 H locs ls hf hP hS hl
    have hf : (if ((32 : Int32)) ≤ x3 then b_M_X11_told___0_168 t x2 else b_M_X11_told___0_145 (b_M_X11_told___0_139 n) t x2 x3) = some (r, u) := hf
    refine lv_iload_n hx hb dX11_told__139 rfl (lv_at hl 2 rfl) ?_
    refine lv_bipush (v := 32) hx hb dX11_told__140 (by decide) ?_
    refine lv_icmp_ge (tgt := 168) hx hb dX11_told__142 (by decide) (fun h_142 => ?_) (fun h_142 => ?_)
    · have hf := fb_t h_142 hf
      exact w_M_X11_told___0_168 C hr hf hP hS (lv_sub hl [1] rfl)
    · have hf := fb_f h_142 hf
      exact w_M_X11_told___0_145 C hr hk139 hf hP hS (lv_sub hl [0, 1, 2] rfl)
set_option maxRecDepth 20000 in
theorem w_M_X11_told___0_137 {p : Program} {l : Launch} {e : Env} {s : State} {m : MethodId} {args : Array Value} {below : List Frame} {meth : Method} {c : Code} {A : Nat → Prop} {Q : State → Prop} {D : va_G} {ca : Nat → ClassId} {a : Nat → Nat} {u : fw_S} {r : Int32}  (C : CX (WM ca a) D (tyv ca) p s m args c A prog_13_method_78_code 4 RX11) (hr : True → RX (WM ca a) D p l e rm_M_X11_told___0 s m args below meth c A prog_13_method_78_code Q .ireturn [.int r] u) {t : fw_S} {x2 : Int32} {H : Heap} {locs : List Loc} {ls : Array Slot} (hf : b_M_X11_told___0_137  t x2 = some (r, u)) (hP : va_P D classes (WM ca a t) H) (hS : va_S A s.heap H locs) (hl : lv_has ls 4 [(0, .ref (a 0)), (2, .int x2)]) : W p l e rm_M_X11_told___0 s m args below meth c H locs 0 0 Q (F0 m 137 ls []) := by
  obtain ⟨hx, hb, hml, hown, hts, hN, hK, hD, hA⟩ := id C
  have hf : (b_M_X11_told___0_139 3000 t x2 ((0 : Int32))) = some (r, u) := hf
  refine lv_iconst (v := 0) hx hb dX11_told__137 (by decide) ?_
  refine lv_istore_n (lv' := [(3, .int ((0 : Int32))), (0, .ref (a 0)), (2, .int x2)]) hx hb dX11_told__138 rfl hl (by decide) rfl (fun ls hl => ?_)
  exact w_M_X11_told___0_139 C hr 3000 t x2 ((0 : Int32)) _ _ _ hf hP hS (lv_sub hl [1, 2, 0] rfl)
set_option maxRecDepth 20000 in
theorem w_M_X11_told___0_193 {p : Program} {l : Launch} {e : Env} {s : State} {m : MethodId} {args : Array Value} {below : List Frame} {meth : Method} {c : Code} {A : Nat → Prop} {Q : State → Prop} {D : va_G} {ca : Nat → ClassId} {a : Nat → Nat} {u : fw_S} {r : Int32}  (C : CX (WM ca a) D (tyv ca) p s m args c A prog_13_method_78_code 4 RX11) (hr : True → RX (WM ca a) D p l e rm_M_X11_told___0 s m args below meth c A prog_13_method_78_code Q .ireturn [.int r] u) {t : fw_S} {x2 : Int32} {H : Heap} {locs : List Loc} {ls : Array Slot} (hf : b_M_X11_told___0_193  t x2 = some (r, u)) (hP : va_P D classes (WM ca a t) H) (hS : va_S A s.heap H locs) (hl : lv_has ls 4 [(2, .int x2)]) : W p l e rm_M_X11_told___0 s m args below meth c H locs 0 0 Q (F0 m 193 ls []) := by
  obtain ⟨hx, hb, hml, hown, hts, hN, hK, hD, hA⟩ := id C
  have hf : (some (x2, t)) = some (r, u) := hf
  refine lv_iload_n hx hb dX11_told__193 rfl (lv_at hl 0 rfl) ?_
  obtain ⟨e_194, e2_194⟩ := fb_e hf
  subst e_194; subst e2_194
  exact hr trivial _ _ _ _ hP hS dX11_told__194
set_option maxRecDepth 20000 in
theorem w_M_X11_told___0_178 {p : Program} {l : Launch} {e : Env} {s : State} {m : MethodId} {args : Array Value} {below : List Frame} {meth : Method} {c : Code} {A : Nat → Prop} {Q : State → Prop} {D : va_G} {ca : Nat → ClassId} {a : Nat → Nat} {u : fw_S} {r : Int32} {k172 : fw_S → Int32 → Int32 → Option (Int32 × fw_S)} (C : CX (WM ca a) D (tyv ca) p s m args c A prog_13_method_78_code 4 RX11) (hr : True → RX (WM ca a) D p l e rm_M_X11_told___0 s m args below meth c A prog_13_method_78_code Q .ireturn [.int r] u) (hk172 : ∀ (t : fw_S) (x2 : Int32) (x3 : Int32) (H : Heap) (locs : List Loc) (ls : Array Slot), k172 t x2 x3 = some (r, u) → va_P D classes (WM ca a t) H → va_S A s.heap H locs → lv_has ls 4 [(0, .ref (a 0)), (2, .int x2), (3, .int x3)] → W p l e rm_M_X11_told___0 s m args below meth c H locs 0 0 Q (F0 m 172 ls [])) {t : fw_S} {x2 : Int32} {x3 : Int32} {H : Heap} {locs : List Loc} {ls : Array Slot} (hf : b_M_X11_told___0_178 k172 t x2 x3 = some (r, u)) (hP : va_P D classes (WM ca a t) H) (hS : va_S A s.heap H locs) (hl : lv_has ls 4 [(0, .ref (a 0)), (2, .int x2), (3, .int x3)]) : W p l e rm_M_X11_told___0 s m args below meth c H locs 0 0 Q (F0 m 178 ls []) := by
  obtain ⟨hx, hb, hml, hown, hts, hN, hK, hD, hA⟩ := id C
  have hf : (fb_g (¬ (x3 < 0 ∨ 32 ≤ x3.toNatClampNeg)) (k172 t (x2 + (st_F t 2 x3.toNatClampNeg)) (x3 + 1))) = some (r, u) := hf
  refine lv_iload_n hx hb dX11_told__178 rfl (lv_at hl 1 rfl) ?_
  refine lv_aload_n hx hb dX11_told__179 rfl (lv_at hl 0 rfl) ?_
  refine va_get (D := D) (ci := 11) (v := .ref (a 3)) (C := RX11) (T := TX11) (N := 76) hx hb hts inX11 hown hK hP 0 (heM_0 ca a t) rfl 2 (by decide) (hts _ kw_1194) (fun _ h9 => h9) rfl dX11_told__180 ?_
  refine lv_iload_n hx hb dX11_told__183 rfl (lv_at hl 2 rfl) ?_
  obtain ⟨h_184, hf⟩ := fb_if hf
  refine va_iald hx hb hK hP 3 0 (haM_3 ca a t) rfl h_184 dX11_told__184 ?_
  refine lv_iadd hx hb dX11_told__185 ?_
  refine lv_istore_n (lv' := [(2, .int (x2 + (st_F t 2 x3.toNatClampNeg))), (0, .ref (a 0)), (3, .int x3)]) hx hb dX11_told__186 rfl hl (by decide) rfl (fun ls hl => ?_)
  refine lv_iinc (v := x3 + 1) (lv' := [(3, .int (x3 + 1)), (2, .int (x2 + (st_F t 2 x3.toNatClampNeg))), (0, .ref (a 0))]) hx hb dX11_told__187 hl (k := 2) rfl rfl (by decide) rfl (fun ls hl => ?_)
  refine lv_goto (tgt := 172) hx hb dX11_told__190 (by decide) ?_
  exact hk172 t (x2 + (st_F t 2 x3.toNatClampNeg)) (x3 + 1) _ _ _ hf hP hS (lv_sub hl [2, 1, 0] rfl)
set_option maxRecDepth 20000 in
theorem w_M_X11_told___0_172 {p : Program} {l : Launch} {e : Env} {s : State} {m : MethodId} {args : Array Value} {below : List Frame} {meth : Method} {c : Code} {A : Nat → Prop} {Q : State → Prop} {D : va_G} {ca : Nat → ClassId} {a : Nat → Nat} {u : fw_S} {r : Int32}  (C : CX (WM ca a) D (tyv ca) p s m args c A prog_13_method_78_code 4 RX11) (hr : True → RX (WM ca a) D p l e rm_M_X11_told___0 s m args below meth c A prog_13_method_78_code Q .ireturn [.int r] u) : ∀ (n : Nat) (t : fw_S) (x2 : Int32) (x3 : Int32) (H : Heap) (locs : List Loc) (ls : Array Slot), b_M_X11_told___0_172  n t x2 x3 = some (r, u) → va_P D classes (WM ca a t) H → va_S A s.heap H locs → lv_has ls 4 [(0, .ref (a 0)), (2, .int x2), (3, .int x3)] → W p l e rm_M_X11_told___0 s m args below meth c H locs 0 0 Q (F0 m 172 ls []) := by
  obtain ⟨hx, hb, hml, hown, hts, hN, hK, hD, hA⟩ := id C
  intro n
  induction n with
  | zero => intro t x2 x3 H locs ls hf; cases hf
  | succ n hk172 =>
    intro t x2 x3 H locs ls hf hP hS hl
    have hf : (if ((32 : Int32)) ≤ x3 then b_M_X11_told___0_193 t x2 else b_M_X11_told___0_178 (b_M_X11_told___0_172 n) t x2 x3) = some (r, u) := hf
    refine lv_iload_n hx hb dX11_told__172 rfl (lv_at hl 2 rfl) ?_
    refine lv_bipush (v := 32) hx hb dX11_told__173 (by decide) ?_
    refine lv_icmp_ge (tgt := 193) hx hb dX11_told__175 (by decide) (fun h_175 => ?_) (fun h_175 => ?_)
    · have hf := fb_t h_175 hf
      exact w_M_X11_told___0_193 C hr hf hP hS (lv_sub hl [1] rfl)
    · have hf := fb_f h_175 hf
      exact w_M_X11_told___0_178 C hr hk172 hf hP hS (lv_sub hl [0, 1, 2] rfl)
set_option maxRecDepth 20000 in
theorem w_M_X11_told___0_170 {p : Program} {l : Launch} {e : Env} {s : State} {m : MethodId} {args : Array Value} {below : List Frame} {meth : Method} {c : Code} {A : Nat → Prop} {Q : State → Prop} {D : va_G} {ca : Nat → ClassId} {a : Nat → Nat} {u : fw_S} {r : Int32}  (C : CX (WM ca a) D (tyv ca) p s m args c A prog_13_method_78_code 4 RX11) (hr : True → RX (WM ca a) D p l e rm_M_X11_told___0 s m args below meth c A prog_13_method_78_code Q .ireturn [.int r] u) {t : fw_S} {x2 : Int32} {H : Heap} {locs : List Loc} {ls : Array Slot} (hf : b_M_X11_told___0_170  t x2 = some (r, u)) (hP : va_P D classes (WM ca a t) H) (hS : va_S A s.heap H locs) (hl : lv_has ls 4 [(0, .ref (a 0)), (2, .int x2)]) : W p l e rm_M_X11_told___0 s m args below meth c H locs 0 0 Q (F0 m 170 ls []) := by
  obtain ⟨hx, hb, hml, hown, hts, hN, hK, hD, hA⟩ := id C
  have hf : (b_M_X11_told___0_172 3000 t x2 ((0 : Int32))) = some (r, u) := hf
  refine lv_iconst (v := 0) hx hb dX11_told__170 (by decide) ?_
  refine lv_istore_n (lv' := [(3, .int ((0 : Int32))), (0, .ref (a 0)), (2, .int x2)]) hx hb dX11_told__171 rfl hl (by decide) rfl (fun ls hl => ?_)
  exact w_M_X11_told___0_172 C hr 3000 t x2 ((0 : Int32)) _ _ _ hf hP hS (lv_sub hl [1, 2, 0] rfl)
set_option maxRecDepth 20000 in
theorem w_M_X11_told___0_195 {p : Program} {l : Launch} {e : Env} {s : State} {m : MethodId} {args : Array Value} {below : List Frame} {meth : Method} {c : Code} {A : Nat → Prop} {Q : State → Prop} {D : va_G} {ca : Nat → ClassId} {a : Nat → Nat} {u : fw_S} {r : Int32}  (C : CX (WM ca a) D (tyv ca) p s m args c A prog_13_method_78_code 4 RX11) (hr : True → RX (WM ca a) D p l e rm_M_X11_told___0 s m args below meth c A prog_13_method_78_code Q .ireturn [.int r] u) {t : fw_S}  {H : Heap} {locs : List Loc} {ls : Array Slot} (hf : b_M_X11_told___0_195  t  = some (r, u)) (hP : va_P D classes (WM ca a t) H) (hS : va_S A s.heap H locs) (hl : lv_has ls 4 [(0, .ref (a 0))]) : W p l e rm_M_X11_told___0 s m args below meth c H locs 0 0 Q (F0 m 195 ls []) := by
  obtain ⟨hx, hb, hml, hown, hts, hN, hK, hD, hA⟩ := id C
  have hf : (some (st_I t 14, t)) = some (r, u) := hf
  refine lv_aload_n hx hb dX11_told__195 rfl (lv_at hl 0 rfl) ?_
  refine va_get (D := D) (ci := 11) (v := .int (st_I t 14)) (C := RX11) (T := TX11) (N := 76) hx hb hts inX11 hown hK hP 0 (heM_0 ca a t) rfl 49 (by decide) (hts _ kw_1241) (fun _ h9 => h9) rfl dX11_told__196 ?_
  obtain ⟨e_199, e2_199⟩ := fb_e hf
  subst e_199; subst e2_199
  exact hr trivial _ _ _ _ hP hS dX11_told__199
set_option maxRecDepth 20000 in
theorem w_M_X11_told___0_200 {p : Program} {l : Launch} {e : Env} {s : State} {m : MethodId} {args : Array Value} {below : List Frame} {meth : Method} {c : Code} {A : Nat → Prop} {Q : State → Prop} {D : va_G} {ca : Nat → ClassId} {a : Nat → Nat} {u : fw_S} {r : Int32}  (C : CX (WM ca a) D (tyv ca) p s m args c A prog_13_method_78_code 4 RX11) (hr : True → RX (WM ca a) D p l e rm_M_X11_told___0 s m args below meth c A prog_13_method_78_code Q .ireturn [.int r] u) {t : fw_S}  {H : Heap} {locs : List Loc} {ls : Array Slot} (hf : b_M_X11_told___0_200  t  = some (r, u)) (hP : va_P D classes (WM ca a t) H) (hS : va_S A s.heap H locs) (hl : lv_has ls 4 [(0, .ref (a 0))]) : W p l e rm_M_X11_told___0 s m args below meth c H locs 0 0 Q (F0 m 200 ls []) := by
  obtain ⟨hx, hb, hml, hown, hts, hN, hK, hD, hA⟩ := id C
  have hf : (some (st_I t 12, t)) = some (r, u) := hf
  refine lv_aload_n hx hb dX11_told__200 rfl (lv_at hl 0 rfl) ?_
  refine va_get (D := D) (ci := 11) (v := .int (st_I t 12)) (C := RX11) (T := TX11) (N := 76) hx hb hts inX11 hown hK hP 0 (heM_0 ca a t) rfl 47 (by decide) (hts _ kw_1239) (fun _ h9 => h9) rfl dX11_told__201 ?_
  obtain ⟨e_204, e2_204⟩ := fb_e hf
  subst e_204; subst e2_204
  exact hr trivial _ _ _ _ hP hS dX11_told__204
set_option maxRecDepth 20000 in
theorem w_M_X11_told___0_205 {p : Program} {l : Launch} {e : Env} {s : State} {m : MethodId} {args : Array Value} {below : List Frame} {meth : Method} {c : Code} {A : Nat → Prop} {Q : State → Prop} {D : va_G} {ca : Nat → ClassId} {a : Nat → Nat} {u : fw_S} {r : Int32}  (C : CX (WM ca a) D (tyv ca) p s m args c A prog_13_method_78_code 4 RX11) (hr : True → RX (WM ca a) D p l e rm_M_X11_told___0 s m args below meth c A prog_13_method_78_code Q .ireturn [.int r] u) {t : fw_S}  {H : Heap} {locs : List Loc} {ls : Array Slot} (hf : b_M_X11_told___0_205  t  = some (r, u)) (hP : va_P D classes (WM ca a t) H) (hS : va_S A s.heap H locs) (hl : lv_has ls 4 [(0, .ref (a 0))]) : W p l e rm_M_X11_told___0 s m args below meth c H locs 0 0 Q (F0 m 205 ls []) := by
  obtain ⟨hx, hb, hml, hown, hts, hN, hK, hD, hA⟩ := id C
  have hf : (some (st_I t 13, t)) = some (r, u) := hf
  refine lv_aload_n hx hb dX11_told__205 rfl (lv_at hl 0 rfl) ?_
  refine va_get (D := D) (ci := 11) (v := .int (st_I t 13)) (C := RX11) (T := TX11) (N := 76) hx hb hts inX11 hown hK hP 0 (heM_0 ca a t) rfl 48 (by decide) (hts _ kw_1240) (fun _ h9 => h9) rfl dX11_told__206 ?_
  obtain ⟨e_209, e2_209⟩ := fb_e hf
  subst e_209; subst e2_209
  exact hr trivial _ _ _ _ hP hS dX11_told__209
set_option maxRecDepth 20000 in
theorem w_M_X11_told___0_222 {p : Program} {l : Launch} {e : Env} {s : State} {m : MethodId} {args : Array Value} {below : List Frame} {meth : Method} {c : Code} {A : Nat → Prop} {Q : State → Prop} {D : va_G} {ca : Nat → ClassId} {a : Nat → Nat} {u : fw_S} {r : Int32}  (C : CX (WM ca a) D (tyv ca) p s m args c A prog_13_method_78_code 4 RX11) (hr : True → RX (WM ca a) D p l e rm_M_X11_told___0 s m args below meth c A prog_13_method_78_code Q .ireturn [.int r] u) {t : fw_S} {z0 : Int32} {H : Heap} {locs : List Loc} {ls : Array Slot} (hf : b_M_X11_told___0_222  t z0 = some (r, u)) (hP : va_P D classes (WM ca a t) H) (hS : va_S A s.heap H locs) (hl : lv_has ls 4 []) : W p l e rm_M_X11_told___0 s m args below meth c H locs 0 0 Q (F0 m 222 ls [.int z0]) := by
  obtain ⟨hx, hb, hml, hown, hts, hN, hK, hD, hA⟩ := id C
  have hf : (some (z0, t)) = some (r, u) := hf
  obtain ⟨e_222, e2_222⟩ := fb_e hf
  subst e_222; subst e2_222
  exact hr trivial _ _ _ _ hP hS dX11_told__222
set_option maxRecDepth 20000 in
theorem w_M_X11_told___0_221 {p : Program} {l : Launch} {e : Env} {s : State} {m : MethodId} {args : Array Value} {below : List Frame} {meth : Method} {c : Code} {A : Nat → Prop} {Q : State → Prop} {D : va_G} {ca : Nat → ClassId} {a : Nat → Nat} {u : fw_S} {r : Int32}  (C : CX (WM ca a) D (tyv ca) p s m args c A prog_13_method_78_code 4 RX11) (hr : True → RX (WM ca a) D p l e rm_M_X11_told___0 s m args below meth c A prog_13_method_78_code Q .ireturn [.int r] u) {t : fw_S}  {H : Heap} {locs : List Loc} {ls : Array Slot} (hf : b_M_X11_told___0_221  t  = some (r, u)) (hP : va_P D classes (WM ca a t) H) (hS : va_S A s.heap H locs) (hl : lv_has ls 4 []) : W p l e rm_M_X11_told___0 s m args below meth c H locs 0 0 Q (F0 m 221 ls []) := by
  obtain ⟨hx, hb, hml, hown, hts, hN, hK, hD, hA⟩ := id C
  have hf : (b_M_X11_told___0_222 t ((0 : Int32))) = some (r, u) := hf
  refine lv_iconst (v := 0) hx hb dX11_told__221 (by decide) ?_
  exact w_M_X11_told___0_222 C hr hf hP hS (lv_sub hl [] rfl)
set_option maxRecDepth 20000 in
theorem w_M_X11_told___0_217 {p : Program} {l : Launch} {e : Env} {s : State} {m : MethodId} {args : Array Value} {below : List Frame} {meth : Method} {c : Code} {A : Nat → Prop} {Q : State → Prop} {D : va_G} {ca : Nat → ClassId} {a : Nat → Nat} {u : fw_S} {r : Int32}  (C : CX (WM ca a) D (tyv ca) p s m args c A prog_13_method_78_code 4 RX11) (hr : True → RX (WM ca a) D p l e rm_M_X11_told___0 s m args below meth c A prog_13_method_78_code Q .ireturn [.int r] u) {t : fw_S}  {H : Heap} {locs : List Loc} {ls : Array Slot} (hf : b_M_X11_told___0_217  t  = some (r, u)) (hP : va_P D classes (WM ca a t) H) (hS : va_S A s.heap H locs) (hl : lv_has ls 4 []) : W p l e rm_M_X11_told___0 s m args below meth c H locs 0 0 Q (F0 m 217 ls []) := by
  obtain ⟨hx, hb, hml, hown, hts, hN, hK, hD, hA⟩ := id C
  have hf : (b_M_X11_told___0_222 t ((1 : Int32))) = some (r, u) := hf
  refine lv_iconst (v := 1) hx hb dX11_told__217 (by decide) ?_
  refine lv_goto (tgt := 222) hx hb dX11_told__218 (by decide) ?_
  exact w_M_X11_told___0_222 C hr hf hP hS (lv_sub hl [] rfl)
set_option maxRecDepth 20000 in
theorem w_M_X11_told___0_210 {p : Program} {l : Launch} {e : Env} {s : State} {m : MethodId} {args : Array Value} {below : List Frame} {meth : Method} {c : Code} {A : Nat → Prop} {Q : State → Prop} {D : va_G} {ca : Nat → ClassId} {a : Nat → Nat} {u : fw_S} {r : Int32}  (C : CX (WM ca a) D (tyv ca) p s m args c A prog_13_method_78_code 4 RX11) (hr : True → RX (WM ca a) D p l e rm_M_X11_told___0 s m args below meth c A prog_13_method_78_code Q .ireturn [.int r] u) {t : fw_S}  {H : Heap} {locs : List Loc} {ls : Array Slot} (hf : b_M_X11_told___0_210  t  = some (r, u)) (hP : va_P D classes (WM ca a t) H) (hS : va_S A s.heap H locs) (hl : lv_has ls 4 [(0, .ref (a 0))]) : W p l e rm_M_X11_told___0 s m args below meth c H locs 0 0 Q (F0 m 210 ls []) := by
  obtain ⟨hx, hb, hml, hown, hts, hN, hK, hD, hA⟩ := id C
  have hf : (if (st_I t 0) = 0 then b_M_X11_told___0_221 t else b_M_X11_told___0_217 t) = some (r, u) := hf
  refine lv_aload_n hx hb dX11_told__210 rfl (lv_at hl 0 rfl) ?_
  refine va_get (D := D) (ci := 11) (v := .int (st_I t 0)) (C := RX11) (T := TX11) (N := 76) hx hb hts inX11 hown hK hP 0 (heM_0 ca a t) rfl 22 (by decide) (hts _ kw_1214) (fun _ h9 => h9) rfl dX11_told__211 ?_
  refine lv_if_eq (tgt := 221) hx hb dX11_told__214 (by decide) (fun h_214 => ?_) (fun h_214 => ?_)
  · have hf := fb_t h_214 hf
    exact w_M_X11_told___0_221 C hr hf hP hS (lv_sub hl [] rfl)
  · have hf := fb_f h_214 hf
    exact w_M_X11_told___0_217 C hr hf hP hS (lv_sub hl [] rfl)
set_option maxRecDepth 20000 in
theorem w_M_X11_told___0_223 {p : Program} {l : Launch} {e : Env} {s : State} {m : MethodId} {args : Array Value} {below : List Frame} {meth : Method} {c : Code} {A : Nat → Prop} {Q : State → Prop} {D : va_G} {ca : Nat → ClassId} {a : Nat → Nat} {u : fw_S} {r : Int32}  (C : CX (WM ca a) D (tyv ca) p s m args c A prog_13_method_78_code 4 RX11) (hr : True → RX (WM ca a) D p l e rm_M_X11_told___0 s m args below meth c A prog_13_method_78_code Q .ireturn [.int r] u) {t : fw_S}  {H : Heap} {locs : List Loc} {ls : Array Slot} (hf : b_M_X11_told___0_223  t  = some (r, u)) (hP : va_P D classes (WM ca a t) H) (hS : va_S A s.heap H locs) (hl : lv_has ls 4 [(0, .ref (a 0))]) : W p l e rm_M_X11_told___0 s m args below meth c H locs 0 0 Q (F0 m 223 ls []) := by
  obtain ⟨hx, hb, hml, hown, hts, hN, hK, hD, hA⟩ := id C
  have hf : (fb_b (f_M_X11_batched__0 t) fun v_2 t_1 => (some (v_2, t_1))) = some (r, u) := hf
  refine lv_aload_n hx hb dX11_told__223 rfl (lv_at hl 0 rfl) ?_
  obtain ⟨v_2, t_1, g_224, hf⟩ := fb_bs hf
  refine fw_V1 (As := []) (rest := []) (n := 0) (q0 := 0) C (c_M_X11_batched__0 (l := l) (D := D) (ca := ca) (a := a) g_224) kw_1620 kw_1622 kw_102 kw_1623 kw_78 hP hS hl (heM_0 ca a t) rfl rfl rfl (by decide) (by decide +kernel) ⟨Nat.le_of_ble_eq_true rfl, Nat.le_of_ble_eq_true rfl⟩ rfl rfl (Nat.le_of_ble_eq_true rfl) dX11_told__224 (fun H locs hP hS => ?_)
  refine W.eq (g2 := F0 m 227 ls [.int v_2]) rfl ?_
  obtain ⟨e_227, e2_227⟩ := fb_e hf
  subst e_227; subst e2_227
  exact hr trivial _ _ _ _ hP hS dX11_told__227
set_option maxRecDepth 20000 in
theorem w_M_X11_told___0_228 {p : Program} {l : Launch} {e : Env} {s : State} {m : MethodId} {args : Array Value} {below : List Frame} {meth : Method} {c : Code} {A : Nat → Prop} {Q : State → Prop} {D : va_G} {ca : Nat → ClassId} {a : Nat → Nat} {u : fw_S} {r : Int32}  (C : CX (WM ca a) D (tyv ca) p s m args c A prog_13_method_78_code 4 RX11) (hr : True → RX (WM ca a) D p l e rm_M_X11_told___0 s m args below meth c A prog_13_method_78_code Q .ireturn [.int r] u) {t : fw_S}  {H : Heap} {locs : List Loc} {ls : Array Slot} (hf : b_M_X11_told___0_228  t  = some (r, u)) (hP : va_P D classes (WM ca a t) H) (hS : va_S A s.heap H locs) (hl : lv_has ls 4 [(0, .ref (a 0))]) : W p l e rm_M_X11_told___0 s m args below meth c H locs 0 0 Q (F0 m 228 ls []) := by
  obtain ⟨hx, hb, hml, hown, hts, hN, hK, hD, hA⟩ := id C
  have hf : (some (st_I t 5, t)) = some (r, u) := hf
  refine lv_aload_n hx hb dX11_told__228 rfl (lv_at hl 0 rfl) ?_
  refine va_get (D := D) (ci := 11) (v := .int (st_I t 5)) (C := RX11) (T := TX11) (N := 76) hx hb hts inX11 hown hK hP 0 (heM_0 ca a t) rfl 40 (by decide) (hts _ kw_1232) (fun _ h9 => h9) rfl dX11_told__229 ?_
  obtain ⟨e_232, e2_232⟩ := fb_e hf
  subst e_232; subst e2_232
  exact hr trivial _ _ _ _ hP hS dX11_told__232
set_option maxRecDepth 20000 in
theorem w_M_X11_told___0_233 {p : Program} {l : Launch} {e : Env} {s : State} {m : MethodId} {args : Array Value} {below : List Frame} {meth : Method} {c : Code} {A : Nat → Prop} {Q : State → Prop} {D : va_G} {ca : Nat → ClassId} {a : Nat → Nat} {u : fw_S} {r : Int32}  (C : CX (WM ca a) D (tyv ca) p s m args c A prog_13_method_78_code 4 RX11) (hr : True → RX (WM ca a) D p l e rm_M_X11_told___0 s m args below meth c A prog_13_method_78_code Q .ireturn [.int r] u) {t : fw_S}  {H : Heap} {locs : List Loc} {ls : Array Slot} (hf : b_M_X11_told___0_233  t  = some (r, u)) (hP : va_P D classes (WM ca a t) H) (hS : va_S A s.heap H locs) (hl : lv_has ls 4 [(0, .ref (a 0))]) : W p l e rm_M_X11_told___0 s m args below meth c H locs 0 0 Q (F0 m 233 ls []) := by
  obtain ⟨hx, hb, hml, hown, hts, hN, hK, hD, hA⟩ := id C
  have hf : (some (st_I t 6, t)) = some (r, u) := hf
  refine lv_aload_n hx hb dX11_told__233 rfl (lv_at hl 0 rfl) ?_
  refine va_get (D := D) (ci := 11) (v := .int (st_I t 6)) (C := RX11) (T := TX11) (N := 76) hx hb hts inX11 hown hK hP 0 (heM_0 ca a t) rfl 41 (by decide) (hts _ kw_1233) (fun _ h9 => h9) rfl dX11_told__234 ?_
  obtain ⟨e_237, e2_237⟩ := fb_e hf
  subst e_237; subst e2_237
  exact hr trivial _ _ _ _ hP hS dX11_told__237
set_option maxRecDepth 20000 in
theorem w_M_X11_told___0_267 {p : Program} {l : Launch} {e : Env} {s : State} {m : MethodId} {args : Array Value} {below : List Frame} {meth : Method} {c : Code} {A : Nat → Prop} {Q : State → Prop} {D : va_G} {ca : Nat → ClassId} {a : Nat → Nat} {u : fw_S} {r : Int32}  (C : CX (WM ca a) D (tyv ca) p s m args c A prog_13_method_78_code 4 RX11) (hr : True → RX (WM ca a) D p l e rm_M_X11_told___0 s m args below meth c A prog_13_method_78_code Q .ireturn [.int r] u) {t : fw_S} {x2 : Int32} {H : Heap} {locs : List Loc} {ls : Array Slot} (hf : b_M_X11_told___0_267  t x2 = some (r, u)) (hP : va_P D classes (WM ca a t) H) (hS : va_S A s.heap H locs) (hl : lv_has ls 4 [(2, .int x2)]) : W p l e rm_M_X11_told___0 s m args below meth c H locs 0 0 Q (F0 m 267 ls []) := by
  obtain ⟨hx, hb, hml, hown, hts, hN, hK, hD, hA⟩ := id C
  have hf : (some (x2, t)) = some (r, u) := hf
  refine lv_iload_n hx hb dX11_told__267 rfl (lv_at hl 0 rfl) ?_
  obtain ⟨e_268, e2_268⟩ := fb_e hf
  subst e_268; subst e2_268
  exact hr trivial _ _ _ _ hP hS dX11_told__268
set_option maxRecDepth 20000 in
theorem w_M_X11_told___0_250 {p : Program} {l : Launch} {e : Env} {s : State} {m : MethodId} {args : Array Value} {below : List Frame} {meth : Method} {c : Code} {A : Nat → Prop} {Q : State → Prop} {D : va_G} {ca : Nat → ClassId} {a : Nat → Nat} {u : fw_S} {r : Int32} {k244 : fw_S → Int32 → Int32 → Option (Int32 × fw_S)} (C : CX (WM ca a) D (tyv ca) p s m args c A prog_13_method_78_code 4 RX11) (hr : True → RX (WM ca a) D p l e rm_M_X11_told___0 s m args below meth c A prog_13_method_78_code Q .ireturn [.int r] u) (hk244 : ∀ (t : fw_S) (x2 : Int32) (x3 : Int32) (H : Heap) (locs : List Loc) (ls : Array Slot), k244 t x2 x3 = some (r, u) → va_P D classes (WM ca a t) H → va_S A s.heap H locs → lv_has ls 4 [(0, .ref (a 0)), (2, .int x2), (3, .int x3)] → W p l e rm_M_X11_told___0 s m args below meth c H locs 0 0 Q (F0 m 244 ls [])) {t : fw_S} {x2 : Int32} {x3 : Int32} {H : Heap} {locs : List Loc} {ls : Array Slot} (hf : b_M_X11_told___0_250 k244 t x2 x3 = some (r, u)) (hP : va_P D classes (WM ca a t) H) (hS : va_S A s.heap H locs) (hl : lv_has ls 4 [(0, .ref (a 0)), (2, .int x2), (3, .int x3)]) : W p l e rm_M_X11_told___0 s m args below meth c H locs 0 0 Q (F0 m 250 ls []) := by
  obtain ⟨hx, hb, hml, hown, hts, hN, hK, hD, hA⟩ := id C
  have hf : (fb_g (¬ (x3 < 0 ∨ 32 ≤ x3.toNatClampNeg)) (fb_b (f_M_J9_max_7cf53 t x2 (st_F t 40 x3.toNatClampNeg)) fun v_2 t_1 => (k244 t_1 v_2 (x3 + 1)))) = some (r, u) := hf
  refine lv_iload_n hx hb dX11_told__250 rfl (lv_at hl 1 rfl) ?_
  refine lv_aload_n hx hb dX11_told__251 rfl (lv_at hl 0 rfl) ?_
  refine va_get (D := D) (ci := 11) (v := .ref (a 50)) (C := RX11) (T := TX11) (N := 76) hx hb hts inX11 hown hK hP 0 (heM_0 ca a t) rfl 70 (by decide) (hts _ kw_1262) (fun _ h9 => h9) rfl dX11_told__252 ?_
  refine lv_iload_n hx hb dX11_told__255 rfl (lv_at hl 2 rfl) ?_
  obtain ⟨h_256, hf⟩ := fb_if hf
  refine va_iald hx hb hK hP 50 0 (haM_50 ca a t) rfl h_256 dX11_told__256 ?_
  obtain ⟨v_2, t_1, g_257, hf⟩ := fb_bs hf
  refine fw_S1 (As := [.int x2, .int (st_F t 40 x3.toNatClampNeg)]) (rest := []) (n := 2) C (c_M_J9_max_7cf53 (l := l) (D := D) (ca := ca) (a := a) g_257) kw_1644 kw_606 kw_106 kw_607 hP hS hl rfl rfl (by decide) (by decide +kernel) ⟨Nat.le_of_ble_eq_true rfl, Nat.le_of_ble_eq_true rfl⟩ rfl rfl (Nat.le_of_ble_eq_true rfl) dX11_told__257 (fun H locs hP hS => ?_)
  refine W.eq (g2 := F0 m 260 ls [.int v_2]) rfl ?_
  refine lv_istore_n (lv' := [(2, .int v_2), (0, .ref (a 0)), (3, .int x3)]) hx hb dX11_told__260 rfl hl (by decide) rfl (fun ls hl => ?_)
  refine lv_iinc (v := x3 + 1) (lv' := [(3, .int (x3 + 1)), (2, .int v_2), (0, .ref (a 0))]) hx hb dX11_told__261 hl (k := 2) rfl rfl (by decide) rfl (fun ls hl => ?_)
  refine lv_goto (tgt := 244) hx hb dX11_told__264 (by decide) ?_
  exact hk244 t_1 v_2 (x3 + 1) _ _ _ hf hP hS (lv_sub hl [2, 1, 0] rfl)
set_option maxRecDepth 20000 in
theorem w_M_X11_told___0_244 {p : Program} {l : Launch} {e : Env} {s : State} {m : MethodId} {args : Array Value} {below : List Frame} {meth : Method} {c : Code} {A : Nat → Prop} {Q : State → Prop} {D : va_G} {ca : Nat → ClassId} {a : Nat → Nat} {u : fw_S} {r : Int32}  (C : CX (WM ca a) D (tyv ca) p s m args c A prog_13_method_78_code 4 RX11) (hr : True → RX (WM ca a) D p l e rm_M_X11_told___0 s m args below meth c A prog_13_method_78_code Q .ireturn [.int r] u) : ∀ (n : Nat) (t : fw_S) (x2 : Int32) (x3 : Int32) (H : Heap) (locs : List Loc) (ls : Array Slot), b_M_X11_told___0_244  n t x2 x3 = some (r, u) → va_P D classes (WM ca a t) H → va_S A s.heap H locs → lv_has ls 4 [(0, .ref (a 0)), (2, .int x2), (3, .int x3)] → W p l e rm_M_X11_told___0 s m args below meth c H locs 0 0 Q (F0 m 244 ls []) := by
  obtain ⟨hx, hb, hml, hown, hts, hN, hK, hD, hA⟩ := id C
  intro n
  induction n with
  | zero => intro t x2 x3 H locs ls hf; cases hf
  | succ n hk244 =>
    intro t x2 x3 H locs ls hf hP hS hl
    have hf : (if ((32 : Int32)) ≤ x3 then b_M_X11_told___0_267 t x2 else b_M_X11_told___0_250 (b_M_X11_told___0_244 n) t x2 x3) = some (r, u) := hf
    refine lv_iload_n hx hb dX11_told__244 rfl (lv_at hl 2 rfl) ?_
    refine lv_bipush (v := 32) hx hb dX11_told__245 (by decide) ?_
    refine lv_icmp_ge (tgt := 267) hx hb dX11_told__247 (by decide) (fun h_247 => ?_) (fun h_247 => ?_)
    · have hf := fb_t h_247 hf
      exact w_M_X11_told___0_267 C hr hf hP hS (lv_sub hl [1] rfl)
    · have hf := fb_f h_247 hf
      exact w_M_X11_told___0_250 C hr hk244 hf hP hS (lv_sub hl [0, 1, 2] rfl)
set_option maxRecDepth 20000 in
theorem w_M_X11_told___0_238 {p : Program} {l : Launch} {e : Env} {s : State} {m : MethodId} {args : Array Value} {below : List Frame} {meth : Method} {c : Code} {A : Nat → Prop} {Q : State → Prop} {D : va_G} {ca : Nat → ClassId} {a : Nat → Nat} {u : fw_S} {r : Int32}  (C : CX (WM ca a) D (tyv ca) p s m args c A prog_13_method_78_code 4 RX11) (hr : True → RX (WM ca a) D p l e rm_M_X11_told___0 s m args below meth c A prog_13_method_78_code Q .ireturn [.int r] u) {t : fw_S} {x2 : Int32} {H : Heap} {locs : List Loc} {ls : Array Slot} (hf : b_M_X11_told___0_238  t x2 = some (r, u)) (hP : va_P D classes (WM ca a t) H) (hS : va_S A s.heap H locs) (hl : lv_has ls 4 [(0, .ref (a 0)), (2, .int x2)]) : W p l e rm_M_X11_told___0 s m args below meth c H locs 0 0 Q (F0 m 238 ls []) := by
  obtain ⟨hx, hb, hml, hown, hts, hN, hK, hD, hA⟩ := id C
  have hf : (fb_v (f_M_X11_tellHeights__0 t) fun t_1 => (b_M_X11_told___0_244 3000 t_1 x2 ((0 : Int32)))) = some (r, u) := hf
  refine lv_aload_n hx hb dX11_told__238 rfl (lv_at hl 0 rfl) ?_
  obtain ⟨t_1, g_239, hf⟩ := fb_vs hf
  refine fw_V1 (As := []) (rest := []) (n := 0) (q0 := 0) C (c_M_X11_tellHeights__0 (l := l) (D := D) (ca := ca) (a := a) g_239) kw_1636 kw_1638 kw_102 kw_1639 kw_79 hP hS hl (heM_0 ca a t) rfl rfl rfl (by decide) (by decide +kernel) ⟨Nat.le_of_ble_eq_true rfl, Nat.le_of_ble_eq_true rfl⟩ rfl rfl (Nat.le_of_ble_eq_true rfl) dX11_told__239 (fun H locs hP hS => ?_)
  refine W.eq (g2 := F0 m 242 ls []) rfl ?_
  refine lv_iconst (v := 0) hx hb dX11_told__242 (by decide) ?_
  refine lv_istore_n (lv' := [(3, .int ((0 : Int32))), (0, .ref (a 0)), (2, .int x2)]) hx hb dX11_told__243 rfl hl (by decide) rfl (fun ls hl => ?_)
  exact w_M_X11_told___0_244 C hr 3000 t_1 x2 ((0 : Int32)) _ _ _ hf hP hS (lv_sub hl [1, 2, 0] rfl)
set_option maxRecDepth 20000 in
theorem w_M_X11_told___0_269 {p : Program} {l : Launch} {e : Env} {s : State} {m : MethodId} {args : Array Value} {below : List Frame} {meth : Method} {c : Code} {A : Nat → Prop} {Q : State → Prop} {D : va_G} {ca : Nat → ClassId} {a : Nat → Nat} {u : fw_S} {r : Int32}  (C : CX (WM ca a) D (tyv ca) p s m args c A prog_13_method_78_code 4 RX11) (hr : True → RX (WM ca a) D p l e rm_M_X11_told___0 s m args below meth c A prog_13_method_78_code Q .ireturn [.int r] u) {t : fw_S}  {H : Heap} {locs : List Loc} {ls : Array Slot} (hf : b_M_X11_told___0_269  t  = some (r, u)) (hP : va_P D classes (WM ca a t) H) (hS : va_S A s.heap H locs) (hl : lv_has ls 4 []) : W p l e rm_M_X11_told___0 s m args below meth c H locs 0 0 Q (F0 m 269 ls []) := by
  obtain ⟨hx, hb, hml, hown, hts, hN, hK, hD, hA⟩ := id C
  have hf : (some ((-1 : Int32), t)) = some (r, u) := hf
  refine lv_iconst (v := (-1)) hx hb dX11_told__269 (by decide) ?_
  obtain ⟨e_270, e2_270⟩ := fb_e hf
  subst e_270; subst e2_270
  exact hr trivial _ _ _ _ hP hS dX11_told__270
set_option maxRecDepth 20000 in
theorem w_M_X11_told___0_0 {p : Program} {l : Launch} {e : Env} {s : State} {m : MethodId} {args : Array Value} {below : List Frame} {meth : Method} {c : Code} {A : Nat → Prop} {Q : State → Prop} {D : va_G} {ca : Nat → ClassId} {a : Nat → Nat} {u : fw_S} {r : Int32}  (C : CX (WM ca a) D (tyv ca) p s m args c A prog_13_method_78_code 4 RX11) (hr : True → RX (WM ca a) D p l e rm_M_X11_told___0 s m args below meth c A prog_13_method_78_code Q .ireturn [.int r] u) {t : fw_S} {x1 : Int32} {H : Heap} {locs : List Loc} {ls : Array Slot} (hf : b_M_X11_told___0_0  t x1 = some (r, u)) (hP : va_P D classes (WM ca a t) H) (hS : va_S A s.heap H locs) (hl : lv_has ls 4 [(0, .ref (a 0)), (1, .int x1)]) : W p l e rm_M_X11_told___0 s m args below meth c H locs 0 0 Q (F0 m 0 ls []) := by
  obtain ⟨hx, hb, hml, hown, hts, hN, hK, hD, hA⟩ := id C
  have hf : (if x1 = 0 then b_M_X11_told___0_68 t x1 ((0 : Int32)) else if x1 = 1 then b_M_X11_told___0_68 t x1 ((0 : Int32)) else if x1 = 2 then b_M_X11_told___0_104 t ((0 : Int32)) else if x1 = 3 then b_M_X11_told___0_137 t ((0 : Int32)) else if x1 = 4 then b_M_X11_told___0_170 t ((0 : Int32)) else if x1 = 5 then b_M_X11_told___0_195 t else if x1 = 6 then b_M_X11_told___0_200 t else if x1 = 7 then b_M_X11_told___0_205 t else if x1 = 8 then b_M_X11_told___0_210 t else if x1 = 9 then b_M_X11_told___0_223 t else if x1 = 10 then b_M_X11_told___0_228 t else if x1 = 11 then b_M_X11_told___0_233 t else if x1 = 12 then b_M_X11_told___0_238 t ((0 : Int32)) else b_M_X11_told___0_269 t) = some (r, u) := hf
  refine lv_iconst (v := 0) hx hb dX11_told__0 (by decide) ?_
  refine lv_istore_n (lv' := [(2, .int ((0 : Int32))), (0, .ref (a 0)), (1, .int x1)]) hx hb dX11_told__1 rfl hl (by decide) rfl (fun ls hl => ?_)
  refine lv_iload_n hx hb dX11_told__2 rfl (lv_at hl 2 rfl) ?_
  by_cases h_3_0 : x1 = 0
  · have hf := fb_t h_3_0 hf
    refine lv_tableIn (tgt := 68) hx hb dX11_told__3 (by rw [h_3_0]; decide) (by rw [h_3_0]; decide) (by rw [h_3_0]; rfl) (by decide) ?_
    exact w_M_X11_told___0_68 C hr hf hP hS (lv_sub hl [1, 2, 0] rfl)
  have hf := fb_f h_3_0 hf
  by_cases h_3_1 : x1 = 1
  · have hf := fb_t h_3_1 hf
    refine lv_tableIn (tgt := 68) hx hb dX11_told__3 (by rw [h_3_1]; decide) (by rw [h_3_1]; decide) (by rw [h_3_1]; rfl) (by decide) ?_
    exact w_M_X11_told___0_68 C hr hf hP hS (lv_sub hl [1, 2, 0] rfl)
  have hf := fb_f h_3_1 hf
  by_cases h_3_2 : x1 = 2
  · have hf := fb_t h_3_2 hf
    refine lv_tableIn (tgt := 104) hx hb dX11_told__3 (by rw [h_3_2]; decide) (by rw [h_3_2]; decide) (by rw [h_3_2]; rfl) (by decide) ?_
    exact w_M_X11_told___0_104 C hr hf hP hS (lv_sub hl [1, 0] rfl)
  have hf := fb_f h_3_2 hf
  by_cases h_3_3 : x1 = 3
  · have hf := fb_t h_3_3 hf
    refine lv_tableIn (tgt := 137) hx hb dX11_told__3 (by rw [h_3_3]; decide) (by rw [h_3_3]; decide) (by rw [h_3_3]; rfl) (by decide) ?_
    exact w_M_X11_told___0_137 C hr hf hP hS (lv_sub hl [1, 0] rfl)
  have hf := fb_f h_3_3 hf
  by_cases h_3_4 : x1 = 4
  · have hf := fb_t h_3_4 hf
    refine lv_tableIn (tgt := 170) hx hb dX11_told__3 (by rw [h_3_4]; decide) (by rw [h_3_4]; decide) (by rw [h_3_4]; rfl) (by decide) ?_
    exact w_M_X11_told___0_170 C hr hf hP hS (lv_sub hl [1, 0] rfl)
  have hf := fb_f h_3_4 hf
  by_cases h_3_5 : x1 = 5
  · have hf := fb_t h_3_5 hf
    refine lv_tableIn (tgt := 195) hx hb dX11_told__3 (by rw [h_3_5]; decide) (by rw [h_3_5]; decide) (by rw [h_3_5]; rfl) (by decide) ?_
    exact w_M_X11_told___0_195 C hr hf hP hS (lv_sub hl [1] rfl)
  have hf := fb_f h_3_5 hf
  by_cases h_3_6 : x1 = 6
  · have hf := fb_t h_3_6 hf
    refine lv_tableIn (tgt := 200) hx hb dX11_told__3 (by rw [h_3_6]; decide) (by rw [h_3_6]; decide) (by rw [h_3_6]; rfl) (by decide) ?_
    exact w_M_X11_told___0_200 C hr hf hP hS (lv_sub hl [1] rfl)
  have hf := fb_f h_3_6 hf
  by_cases h_3_7 : x1 = 7
  · have hf := fb_t h_3_7 hf
    refine lv_tableIn (tgt := 205) hx hb dX11_told__3 (by rw [h_3_7]; decide) (by rw [h_3_7]; decide) (by rw [h_3_7]; rfl) (by decide) ?_
    exact w_M_X11_told___0_205 C hr hf hP hS (lv_sub hl [1] rfl)
  have hf := fb_f h_3_7 hf
  by_cases h_3_8 : x1 = 8
  · have hf := fb_t h_3_8 hf
    refine lv_tableIn (tgt := 210) hx hb dX11_told__3 (by rw [h_3_8]; decide) (by rw [h_3_8]; decide) (by rw [h_3_8]; rfl) (by decide) ?_
    exact w_M_X11_told___0_210 C hr hf hP hS (lv_sub hl [1] rfl)
  have hf := fb_f h_3_8 hf
  by_cases h_3_9 : x1 = 9
  · have hf := fb_t h_3_9 hf
    refine lv_tableIn (tgt := 223) hx hb dX11_told__3 (by rw [h_3_9]; decide) (by rw [h_3_9]; decide) (by rw [h_3_9]; rfl) (by decide) ?_
    exact w_M_X11_told___0_223 C hr hf hP hS (lv_sub hl [1] rfl)
  have hf := fb_f h_3_9 hf
  by_cases h_3_10 : x1 = 10
  · have hf := fb_t h_3_10 hf
    refine lv_tableIn (tgt := 228) hx hb dX11_told__3 (by rw [h_3_10]; decide) (by rw [h_3_10]; decide) (by rw [h_3_10]; rfl) (by decide) ?_
    exact w_M_X11_told___0_228 C hr hf hP hS (lv_sub hl [1] rfl)
  have hf := fb_f h_3_10 hf
  by_cases h_3_11 : x1 = 11
  · have hf := fb_t h_3_11 hf
    refine lv_tableIn (tgt := 233) hx hb dX11_told__3 (by rw [h_3_11]; decide) (by rw [h_3_11]; decide) (by rw [h_3_11]; rfl) (by decide) ?_
    exact w_M_X11_told___0_233 C hr hf hP hS (lv_sub hl [1] rfl)
  have hf := fb_f h_3_11 hf
  by_cases h_3_12 : x1 = 12
  · have hf := fb_t h_3_12 hf
    refine lv_tableIn (tgt := 238) hx hb dX11_told__3 (by rw [h_3_12]; decide) (by rw [h_3_12]; decide) (by rw [h_3_12]; rfl) (by decide) ?_
    exact w_M_X11_told___0_238 C hr hf hP hS (lv_sub hl [1, 0] rfl)
  have hf := fb_f h_3_12 hf
  refine lv_tableOut (tgt := 269) hx hb dX11_told__3 (by have q0 := lv_neT h_3_0 (a := 0) (by decide); have q1 := lv_neT h_3_1 (a := 1) (by decide); have q2 := lv_neT h_3_2 (a := 2) (by decide); have q3 := lv_neT h_3_3 (a := 3) (by decide); have q4 := lv_neT h_3_4 (a := 4) (by decide); have q5 := lv_neT h_3_5 (a := 5) (by decide); have q6 := lv_neT h_3_6 (a := 6) (by decide); have q7 := lv_neT h_3_7 (a := 7) (by decide); have q8 := lv_neT h_3_8 (a := 8) (by decide); have q9 := lv_neT h_3_9 (a := 9) (by decide); have q10 := lv_neT h_3_10 (a := 10) (by decide); have q11 := lv_neT h_3_11 (a := 11) (by decide); have q12 := lv_neT h_3_12 (a := 12) (by decide); omega) (by decide) ?_
  exact w_M_X11_told___0_269 C hr hf hP hS (lv_sub hl [] rfl)
set_option maxRecDepth 20000 in
theorem c_M_X11_told___0 {l : Launch} {D : va_G} {ca : Nat → ClassId} {a : Nat → Nat} {t : fw_S} {x1 : Int32} {u : fw_S} {r : Int32} (hf : f_M_X11_told___0 t x1 = some (r, u)) : MC (WM ca a) D (tyv ca) l yX11_told_ (.code yX11_told_ prog_13_method_78_code 4 (some .int) :: lw_gd) rm_M_X11_told___0 [.ref (a 0), .int x1] (some (.int r)) t u := by
  refine fw_met (okM ca a) (by decide +kernel) rfl rfl (Nat.le_of_ble_eq_true rfl) ?_
  intro p e s m args below meth c A Q ls C hr hk hP hS hl hQ
  exact w_M_X11_told___0_0 C (fun _ => fw_ri C hr hk hQ) hf hP hS (lv_sub hl [0, 1] rfl)
/-! ReactiveSheetModel.past(II)I ['m'] -/
abbrev rm_M_X11_past__0 : Room := { frames := 1, cells := 0, slots := 0, locals := 22 }
def b_M_X11_past__0_37  (t : fw_S) (z0 : Int32) : Option (Int32 × fw_S) := some (z0, t)
def b_M_X11_past__0_23  (t : fw_S)  : Option (Int32 × fw_S) := b_M_X11_past__0_37 t ((-1 : Int32))
def b_M_X11_past__0_27  (t : fw_S) (x1 : Int32) (x2 : Int32) : Option (Int32 × fw_S) := fb_g (¬ (((((4 : Int32)) * x1) + x2) < 0 ∨ 80 ≤ ((((4 : Int32)) * x1) + x2).toNatClampNeg)) (b_M_X11_past__0_37 t (st_F t 37 ((((4 : Int32)) * x1) + x2).toNatClampNeg))
def b_M_X11_past__0_14  (t : fw_S) (x1 : Int32) (x2 : Int32) : Option (Int32 × fw_S) := fb_b (f_M_X11_isIn t x2 ((0 : Int32)) ((3 : Int32))) fun v_2 t_1 => (if v_2 = 0 then b_M_X11_past__0_23 t_1 else b_M_X11_past__0_27 t_1 x1 x2)
def b_M_X11_past__0_0  (t : fw_S) (x1 : Int32) (x2 : Int32) : Option (Int32 × fw_S) := fb_b (f_M_X11_isIn t x1 ((0 : Int32)) ((st_I t 15) - ((1 : Int32)))) fun v_2 t_1 => (if v_2 = 0 then b_M_X11_past__0_23 t_1 else b_M_X11_past__0_14 t_1 x1 x2)
def f_M_X11_past__0 (t : fw_S) (x1 : Int32) (x2 : Int32) : Option (Int32 × fw_S) := b_M_X11_past__0_0 t x1 x2
set_option maxRecDepth 20000 in
theorem w_M_X11_past__0_37 {p : Program} {l : Launch} {e : Env} {s : State} {m : MethodId} {args : Array Value} {below : List Frame} {meth : Method} {c : Code} {A : Nat → Prop} {Q : State → Prop} {D : va_G} {ca : Nat → ClassId} {a : Nat → Nat} {u : fw_S} {r : Int32}  (C : CX (WM ca a) D (tyv ca) p s m args c A prog_13_method_79_code 3 RX11) (hr : True → RX (WM ca a) D p l e rm_M_X11_past__0 s m args below meth c A prog_13_method_79_code Q .ireturn [.int r] u) {t : fw_S} {z0 : Int32} {H : Heap} {locs : List Loc} {ls : Array Slot} (hf : b_M_X11_past__0_37  t z0 = some (r, u)) (hP : va_P D classes (WM ca a t) H) (hS : va_S A s.heap H locs) (hl : lv_has ls 3 []) : W p l e rm_M_X11_past__0 s m args below meth c H locs 0 0 Q (F0 m 37 ls [.int z0]) := by
  obtain ⟨hx, hb, hml, hown, hts, hN, hK, hD, hA⟩ := id C
  have hf : (some (z0, t)) = some (r, u) := hf
  obtain ⟨e_37, e2_37⟩ := fb_e hf
  subst e_37; subst e2_37
  exact hr trivial _ _ _ _ hP hS dX11_past_37
set_option maxRecDepth 20000 in
theorem w_M_X11_past__0_23 {p : Program} {l : Launch} {e : Env} {s : State} {m : MethodId} {args : Array Value} {below : List Frame} {meth : Method} {c : Code} {A : Nat → Prop} {Q : State → Prop} {D : va_G} {ca : Nat → ClassId} {a : Nat → Nat} {u : fw_S} {r : Int32}  (C : CX (WM ca a) D (tyv ca) p s m args c A prog_13_method_79_code 3 RX11) (hr : True → RX (WM ca a) D p l e rm_M_X11_past__0 s m args below meth c A prog_13_method_79_code Q .ireturn [.int r] u) {t : fw_S}  {H : Heap} {locs : List Loc} {ls : Array Slot} (hf : b_M_X11_past__0_23  t  = some (r, u)) (hP : va_P D classes (WM ca a t) H) (hS : va_S A s.heap H locs) (hl : lv_has ls 3 []) : W p l e rm_M_X11_past__0 s m args below meth c H locs 0 0 Q (F0 m 23 ls []) := by
  obtain ⟨hx, hb, hml, hown, hts, hN, hK, hD, hA⟩ := id C
  have hf : (b_M_X11_past__0_37 t ((-1 : Int32))) = some (r, u) := hf
  refine lv_iconst (v := (-1)) hx hb dX11_past_23 (by decide) ?_
  refine lv_goto (tgt := 37) hx hb dX11_past_24 (by decide) ?_
  exact w_M_X11_past__0_37 C hr hf hP hS (lv_sub hl [] rfl)
set_option maxRecDepth 20000 in
theorem w_M_X11_past__0_27 {p : Program} {l : Launch} {e : Env} {s : State} {m : MethodId} {args : Array Value} {below : List Frame} {meth : Method} {c : Code} {A : Nat → Prop} {Q : State → Prop} {D : va_G} {ca : Nat → ClassId} {a : Nat → Nat} {u : fw_S} {r : Int32}  (C : CX (WM ca a) D (tyv ca) p s m args c A prog_13_method_79_code 3 RX11) (hr : True → RX (WM ca a) D p l e rm_M_X11_past__0 s m args below meth c A prog_13_method_79_code Q .ireturn [.int r] u) {t : fw_S} {x1 : Int32} {x2 : Int32} {H : Heap} {locs : List Loc} {ls : Array Slot} (hf : b_M_X11_past__0_27  t x1 x2 = some (r, u)) (hP : va_P D classes (WM ca a t) H) (hS : va_S A s.heap H locs) (hl : lv_has ls 3 [(0, .ref (a 0)), (1, .int x1), (2, .int x2)]) : W p l e rm_M_X11_past__0 s m args below meth c H locs 0 0 Q (F0 m 27 ls []) := by
  obtain ⟨hx, hb, hml, hown, hts, hN, hK, hD, hA⟩ := id C
  have hf : (fb_g (¬ (((((4 : Int32)) * x1) + x2) < 0 ∨ 80 ≤ ((((4 : Int32)) * x1) + x2).toNatClampNeg)) (b_M_X11_past__0_37 t (st_F t 37 ((((4 : Int32)) * x1) + x2).toNatClampNeg))) = some (r, u) := hf
  refine lv_aload_n hx hb dX11_past_27 rfl (lv_at hl 0 rfl) ?_
  refine va_get (D := D) (ci := 11) (v := .ref (a 45)) (C := RX11) (T := TX11) (N := 76) hx hb hts inX11 hown hK hP 0 (heM_0 ca a t) rfl 62 (by decide) (hts _ kw_1254) (fun _ h9 => h9) rfl dX11_past_28 ?_
  refine lv_iconst (v := 4) hx hb dX11_past_31 (by decide) ?_
  refine lv_iload_n hx hb dX11_past_32 rfl (lv_at hl 1 rfl) ?_
  refine lv_imul hx hb dX11_past_33 ?_
  refine lv_iload_n hx hb dX11_past_34 rfl (lv_at hl 2 rfl) ?_
  refine lv_iadd hx hb dX11_past_35 ?_
  obtain ⟨h_36, hf⟩ := fb_if hf
  refine va_iald hx hb hK hP 45 0 (haM_45 ca a t) rfl h_36 dX11_past_36 ?_
  exact w_M_X11_past__0_37 C hr hf hP hS (lv_sub hl [] rfl)
set_option maxRecDepth 20000 in
theorem w_M_X11_past__0_14 {p : Program} {l : Launch} {e : Env} {s : State} {m : MethodId} {args : Array Value} {below : List Frame} {meth : Method} {c : Code} {A : Nat → Prop} {Q : State → Prop} {D : va_G} {ca : Nat → ClassId} {a : Nat → Nat} {u : fw_S} {r : Int32}  (C : CX (WM ca a) D (tyv ca) p s m args c A prog_13_method_79_code 3 RX11) (hr : True → RX (WM ca a) D p l e rm_M_X11_past__0 s m args below meth c A prog_13_method_79_code Q .ireturn [.int r] u) {t : fw_S} {x1 : Int32} {x2 : Int32} {H : Heap} {locs : List Loc} {ls : Array Slot} (hf : b_M_X11_past__0_14  t x1 x2 = some (r, u)) (hP : va_P D classes (WM ca a t) H) (hS : va_S A s.heap H locs) (hl : lv_has ls 3 [(0, .ref (a 0)), (1, .int x1), (2, .int x2)]) : W p l e rm_M_X11_past__0 s m args below meth c H locs 0 0 Q (F0 m 14 ls []) := by
  obtain ⟨hx, hb, hml, hown, hts, hN, hK, hD, hA⟩ := id C
  have hf : (fb_b (f_M_X11_isIn t x2 ((0 : Int32)) ((3 : Int32))) fun v_2 t_1 => (if v_2 = 0 then b_M_X11_past__0_23 t_1 else b_M_X11_past__0_27 t_1 x1 x2)) = some (r, u) := hf
  refine lv_iload_n hx hb dX11_past_14 rfl (lv_at hl 2 rfl) ?_
  refine lv_iconst (v := 0) hx hb dX11_past_15 (by decide) ?_
  refine lv_iconst (v := 3) hx hb dX11_past_16 (by decide) ?_
  obtain ⟨v_2, t_1, g_17, hf⟩ := fb_bs hf
  refine fw_S1 (As := [.int x2, .int ((0 : Int32)), .int ((3 : Int32))]) (rest := []) (n := 3) C (c_M_X11_isIn (l := l) (D := D) (ca := ca) (a := a) g_17) kw_1426 kw_1427 kw_102 kw_1428 hP hS hl rfl rfl (by decide) (by decide +kernel) ⟨Nat.le_of_ble_eq_true rfl, Nat.le_of_ble_eq_true rfl⟩ rfl rfl (Nat.le_of_ble_eq_true rfl) dX11_past_17 (fun H locs hP hS => ?_)
  refine W.eq (g2 := F0 m 20 ls [.int v_2]) rfl ?_
  refine lv_if_ne (tgt := 27) hx hb dX11_past_20 (by decide) (fun h_20 => ?_) (fun h_20 => ?_)
  · have hf := fb_f h_20 hf
    exact w_M_X11_past__0_27 C hr hf hP hS (lv_sub hl [0, 1, 2] rfl)
  · have hf := fb_t h_20 hf
    exact w_M_X11_past__0_23 C hr hf hP hS (lv_sub hl [] rfl)
set_option maxRecDepth 20000 in
theorem w_M_X11_past__0_0 {p : Program} {l : Launch} {e : Env} {s : State} {m : MethodId} {args : Array Value} {below : List Frame} {meth : Method} {c : Code} {A : Nat → Prop} {Q : State → Prop} {D : va_G} {ca : Nat → ClassId} {a : Nat → Nat} {u : fw_S} {r : Int32}  (C : CX (WM ca a) D (tyv ca) p s m args c A prog_13_method_79_code 3 RX11) (hr : True → RX (WM ca a) D p l e rm_M_X11_past__0 s m args below meth c A prog_13_method_79_code Q .ireturn [.int r] u) {t : fw_S} {x1 : Int32} {x2 : Int32} {H : Heap} {locs : List Loc} {ls : Array Slot} (hf : b_M_X11_past__0_0  t x1 x2 = some (r, u)) (hP : va_P D classes (WM ca a t) H) (hS : va_S A s.heap H locs) (hl : lv_has ls 3 [(0, .ref (a 0)), (1, .int x1), (2, .int x2)]) : W p l e rm_M_X11_past__0 s m args below meth c H locs 0 0 Q (F0 m 0 ls []) := by
  obtain ⟨hx, hb, hml, hown, hts, hN, hK, hD, hA⟩ := id C
  have hf : (fb_b (f_M_X11_isIn t x1 ((0 : Int32)) ((st_I t 15) - ((1 : Int32)))) fun v_2 t_1 => (if v_2 = 0 then b_M_X11_past__0_23 t_1 else b_M_X11_past__0_14 t_1 x1 x2)) = some (r, u) := hf
  refine lv_iload_n hx hb dX11_past_0 rfl (lv_at hl 1 rfl) ?_
  refine lv_iconst (v := 0) hx hb dX11_past_1 (by decide) ?_
  refine lv_aload_n hx hb dX11_past_2 rfl (lv_at hl 0 rfl) ?_
  refine va_get (D := D) (ci := 11) (v := .int (st_I t 15)) (C := RX11) (T := TX11) (N := 76) hx hb hts inX11 hown hK hP 0 (heM_0 ca a t) rfl 50 (by decide) (hts _ kw_1242) (fun _ h9 => h9) rfl dX11_past_3 ?_
  refine lv_iconst (v := 1) hx hb dX11_past_6 (by decide) ?_
  refine lv_isub hx hb dX11_past_7 ?_
  obtain ⟨v_2, t_1, g_8, hf⟩ := fb_bs hf
  refine fw_S1 (As := [.int x1, .int ((0 : Int32)), .int ((st_I t 15) - ((1 : Int32)))]) (rest := []) (n := 3) C (c_M_X11_isIn (l := l) (D := D) (ca := ca) (a := a) g_8) kw_1426 kw_1427 kw_102 kw_1428 hP hS hl rfl rfl (by decide) (by decide +kernel) ⟨Nat.le_of_ble_eq_true rfl, Nat.le_of_ble_eq_true rfl⟩ rfl rfl (Nat.le_of_ble_eq_true rfl) dX11_past_8 (fun H locs hP hS => ?_)
  refine W.eq (g2 := F0 m 11 ls [.int v_2]) rfl ?_
  refine lv_if_eq (tgt := 23) hx hb dX11_past_11 (by decide) (fun h_11 => ?_) (fun h_11 => ?_)
  · have hf := fb_t h_11 hf
    exact w_M_X11_past__0_23 C hr hf hP hS (lv_sub hl [] rfl)
  · have hf := fb_f h_11 hf
    exact w_M_X11_past__0_14 C hr hf hP hS (lv_sub hl [0, 1, 2] rfl)
set_option maxRecDepth 20000 in
theorem c_M_X11_past__0 {l : Launch} {D : va_G} {ca : Nat → ClassId} {a : Nat → Nat} {t : fw_S} {x1 : Int32} {x2 : Int32} {u : fw_S} {r : Int32} (hf : f_M_X11_past__0 t x1 x2 = some (r, u)) : MC (WM ca a) D (tyv ca) l yX11_past (.code yX11_past prog_13_method_79_code 3 (some .int) :: lw_gd) rm_M_X11_past__0 [.ref (a 0), .int x1, .int x2] (some (.int r)) t u := by
  refine fw_met (okM ca a) (by decide +kernel) rfl rfl (Nat.le_of_ble_eq_true rfl) ?_
  intro p e s m args below meth c A Q ls C hr hk hP hS hl hQ
  exact w_M_X11_past__0_0 C (fun _ => fw_ri C hr hk hQ) hf hP hS (lv_sub hl [0, 1, 2] rfl)
/-! ReactiveSheetModel.isList(I)Z [] -/
abbrev rm_M_X11_isList : Room := { frames := 1, cells := 0, slots := 0, locals := 22 }
def b_M_X11_isList_0  (t : fw_S) (x0 : Int32) : Option (Int32 × fw_S) := fb_b (f_M_X11_isIn t x0 ((0 : Int32)) ((3 : Int32))) fun v_2 t_1 => (fb_g (v_2 = 0 ∨ v_2 = 1) (some (v_2, t_1)))
def f_M_X11_isList (t : fw_S) (x0 : Int32) : Option (Int32 × fw_S) := b_M_X11_isList_0 t x0
set_option maxRecDepth 20000 in
theorem w_M_X11_isList_0 {p : Program} {l : Launch} {e : Env} {s : State} {m : MethodId} {args : Array Value} {below : List Frame} {meth : Method} {c : Code} {A : Nat → Prop} {Q : State → Prop} {D : va_G} {ca : Nat → ClassId} {a : Nat → Nat} {u : fw_S} {r : Int32}  (C : CX (WM ca a) D (tyv ca) p s m args c A prog_13_method_80_code 1 RX11) (hr : (r = 0 ∨ r = 1) → RX (WM ca a) D p l e rm_M_X11_isList s m args below meth c A prog_13_method_80_code Q .ireturn [.int r] u) {t : fw_S} {x0 : Int32} {H : Heap} {locs : List Loc} {ls : Array Slot} (hf : b_M_X11_isList_0  t x0 = some (r, u)) (hP : va_P D classes (WM ca a t) H) (hS : va_S A s.heap H locs) (hl : lv_has ls 1 [(0, .int x0)]) : W p l e rm_M_X11_isList s m args below meth c H locs 0 0 Q (F0 m 0 ls []) := by
  obtain ⟨hx, hb, hml, hown, hts, hN, hK, hD, hA⟩ := id C
  have hf : (fb_b (f_M_X11_isIn t x0 ((0 : Int32)) ((3 : Int32))) fun v_2 t_1 => (fb_g (v_2 = 0 ∨ v_2 = 1) (some (v_2, t_1)))) = some (r, u) := hf
  refine lv_iload_n hx hb dX11_isList_0 rfl (lv_at hl 0 rfl) ?_
  refine lv_iconst (v := 0) hx hb dX11_isList_1 (by decide) ?_
  refine lv_iconst (v := 3) hx hb dX11_isList_2 (by decide) ?_
  obtain ⟨v_2, t_1, g_3, hf⟩ := fb_bs hf
  refine fw_S1 (As := [.int x0, .int ((0 : Int32)), .int ((3 : Int32))]) (rest := []) (n := 3) C (c_M_X11_isIn (l := l) (D := D) (ca := ca) (a := a) g_3) kw_1426 kw_1427 kw_102 kw_1428 hP hS hl rfl rfl (by decide) (by decide +kernel) ⟨Nat.le_of_ble_eq_true rfl, Nat.le_of_ble_eq_true rfl⟩ rfl rfl (Nat.le_of_ble_eq_true rfl) dX11_isList_3 (fun H locs hP hS => ?_)
  refine W.eq (g2 := F0 m 6 ls [.int v_2]) rfl ?_
  obtain ⟨h_6, hf⟩ := fb_if hf
  obtain ⟨e_6, e2_6⟩ := fb_e hf
  subst e_6; subst e2_6
  exact hr h_6 _ _ _ _ hP hS dX11_isList_6
set_option maxRecDepth 20000 in
theorem c_M_X11_isList {l : Launch} {D : va_G} {ca : Nat → ClassId} {a : Nat → Nat} {t : fw_S} {x0 : Int32} {u : fw_S} {r : Int32} (hf : f_M_X11_isList t x0 = some (r, u)) : MC (WM ca a) D (tyv ca) l yX11_isList (.code yX11_isList prog_13_method_80_code 1 (some .boolean) :: lw_gd) rm_M_X11_isList [.int x0] (some (.int r)) t u := by
  refine fw_met (okM ca a) (by decide +kernel) rfl rfl (Nat.le_of_ble_eq_true rfl) ?_
  intro p e s m args below meth c A Q ls C hr hk hP hS hl hQ
  exact w_M_X11_isList_0 C (fun hz => fw_rz C hr hk hz hQ) hf hP hS (lv_sub hl [0] rfl)
/-! ReactiveSheetModel.list(II)I ['m'] -/
abbrev rm_M_X11_list__0 : Room := { frames := 2, cells := 0, slots := 0, locals := 42 }
def b_M_X11_list__0_58  (t : fw_S)  : Option (Int32 × fw_S) := some ((1 : Int32), t)
def b_M_X11_list__0_40 (k34 : fw_S → Int32 → Int32 → Option (Int32 × fw_S)) (t : fw_S) (x1 : Int32) (x3 : Int32) : Option (Int32 × fw_S) := fb_g (¬ (((((40 : Int32)) * x1) + x3) < 0 ∨ 160 ≤ ((((40 : Int32)) * x1) + x3).toNatClampNeg)) (fb_l (up_G t 7 (vp_updL (st_G t 7) ((((40 : Int32)) * x1) + x3).toNatClampNeg ((0 : Int64)))) fun t_1 => (k34 t_1 x1 (x3 + 1)))
def b_M_X11_list__0_34  : Nat → (fw_S → Int32 → Int32 → Option (Int32 × fw_S))
  | 0 => fun _ _ _ => none
  | n + 1 => fun t x1 x3 => if ((40 : Int32)) ≤ x3 then b_M_X11_list__0_58 t else b_M_X11_list__0_40 (b_M_X11_list__0_34 n) t x1 x3
def b_M_X11_list__0_25  (t : fw_S) (x1 : Int32) (x2 : Int32) : Option (Int32 × fw_S) := fb_g (¬ (x1 < 0 ∨ 4 ≤ x1.toNatClampNeg)) (fb_l (up_F t 38 (upd (st_F t 38) x1.toNatClampNeg x2)) fun t_1 => (b_M_X11_list__0_34 3000 t_1 x1 ((0 : Int32))))
def b_M_X11_list__0_22  (t : fw_S)  : Option (Int32 × fw_S) := some ((-14 : Int32), t)
def b_M_X11_list__0_18  (t : fw_S) (x1 : Int32) (x2 : Int32) : Option (Int32 × fw_S) := if 0 ≤ x2 then b_M_X11_list__0_25 t x1 x2 else b_M_X11_list__0_22 t
def b_M_X11_list__0_15  (t : fw_S)  : Option (Int32 × fw_S) := some ((-2 : Int32), t)
def b_M_X11_list__0_9  (t : fw_S) (x1 : Int32) (x2 : Int32) : Option (Int32 × fw_S) := if x2 ≤ ((40 : Int32)) then b_M_X11_list__0_18 t x1 x2 else b_M_X11_list__0_15 t
def b_M_X11_list__0_7  (t : fw_S)  : Option (Int32 × fw_S) := some ((-1 : Int32), t)
def b_M_X11_list__0_0  (t : fw_S) (x1 : Int32) (x2 : Int32) : Option (Int32 × fw_S) := fb_b (f_M_X11_isList t x1) fun v_2 t_1 => (if v_2 = 0 then b_M_X11_list__0_7 t_1 else b_M_X11_list__0_9 t_1 x1 x2)
def f_M_X11_list__0 (t : fw_S) (x1 : Int32) (x2 : Int32) : Option (Int32 × fw_S) := b_M_X11_list__0_0 t x1 x2
set_option maxRecDepth 20000 in
theorem w_M_X11_list__0_58 {p : Program} {l : Launch} {e : Env} {s : State} {m : MethodId} {args : Array Value} {below : List Frame} {meth : Method} {c : Code} {A : Nat → Prop} {Q : State → Prop} {D : va_G} {ca : Nat → ClassId} {a : Nat → Nat} {u : fw_S} {r : Int32}  (C : CX (WM ca a) D (tyv ca) p s m args c A prog_13_method_81_code 4 RX11) (hr : True → RX (WM ca a) D p l e rm_M_X11_list__0 s m args below meth c A prog_13_method_81_code Q .ireturn [.int r] u) {t : fw_S}  {H : Heap} {locs : List Loc} {ls : Array Slot} (hf : b_M_X11_list__0_58  t  = some (r, u)) (hP : va_P D classes (WM ca a t) H) (hS : va_S A s.heap H locs) (hl : lv_has ls 4 []) : W p l e rm_M_X11_list__0 s m args below meth c H locs 0 0 Q (F0 m 58 ls []) := by
  obtain ⟨hx, hb, hml, hown, hts, hN, hK, hD, hA⟩ := id C
  have hf : (some ((1 : Int32), t)) = some (r, u) := hf
  refine lv_iconst (v := 1) hx hb dX11_list_58 (by decide) ?_
  obtain ⟨e_59, e2_59⟩ := fb_e hf
  subst e_59; subst e2_59
  exact hr trivial _ _ _ _ hP hS dX11_list_59
set_option maxRecDepth 20000 in
theorem w_M_X11_list__0_40 {p : Program} {l : Launch} {e : Env} {s : State} {m : MethodId} {args : Array Value} {below : List Frame} {meth : Method} {c : Code} {A : Nat → Prop} {Q : State → Prop} {D : va_G} {ca : Nat → ClassId} {a : Nat → Nat} {u : fw_S} {r : Int32} {k34 : fw_S → Int32 → Int32 → Option (Int32 × fw_S)} (C : CX (WM ca a) D (tyv ca) p s m args c A prog_13_method_81_code 4 RX11) (hr : True → RX (WM ca a) D p l e rm_M_X11_list__0 s m args below meth c A prog_13_method_81_code Q .ireturn [.int r] u) (hk34 : ∀ (t : fw_S) (x1 : Int32) (x3 : Int32) (H : Heap) (locs : List Loc) (ls : Array Slot), k34 t x1 x3 = some (r, u) → va_P D classes (WM ca a t) H → va_S A s.heap H locs → lv_has ls 4 [(0, .ref (a 0)), (1, .int x1), (3, .int x3)] → W p l e rm_M_X11_list__0 s m args below meth c H locs 0 0 Q (F0 m 34 ls [])) {t : fw_S} {x1 : Int32} {x3 : Int32} {H : Heap} {locs : List Loc} {ls : Array Slot} (hf : b_M_X11_list__0_40 k34 t x1 x3 = some (r, u)) (hP : va_P D classes (WM ca a t) H) (hS : va_S A s.heap H locs) (hl : lv_has ls 4 [(0, .ref (a 0)), (1, .int x1), (3, .int x3)]) : W p l e rm_M_X11_list__0 s m args below meth c H locs 0 0 Q (F0 m 40 ls []) := by
  obtain ⟨hx, hb, hml, hown, hts, hN, hK, hD, hA⟩ := id C
  have hf : (fb_g (¬ (((((40 : Int32)) * x1) + x3) < 0 ∨ 160 ≤ ((((40 : Int32)) * x1) + x3).toNatClampNeg)) (fb_l (up_G t 7 (vp_updL (st_G t 7) ((((40 : Int32)) * x1) + x3).toNatClampNeg ((0 : Int64)))) fun t_1 => (k34 t_1 x1 (x3 + 1)))) = some (r, u) := hf
  refine lv_aload_n hx hb dX11_list_40 rfl (lv_at hl 0 rfl) ?_
  refine va_get (D := D) (ci := 11) (v := .ref (a 46)) (C := RX11) (T := TX11) (N := 76) hx hb hts inX11 hown hK hP 0 (heM_0 ca a t) rfl 63 (by decide) (hts _ kw_1255) (fun _ h9 => h9) rfl dX11_list_41 ?_
  refine lv_bipush (v := 40) hx hb dX11_list_44 (by decide) ?_
  refine lv_iload_n hx hb dX11_list_46 rfl (lv_at hl 1 rfl) ?_
  refine lv_imul hx hb dX11_list_47 ?_
  refine lv_iload_n hx hb dX11_list_48 rfl (lv_at hl 2 rfl) ?_
  refine lv_iadd hx hb dX11_list_49 ?_
  refine lv_lconst (v := 0) hx hb dX11_list_50 (by decide) ?_
  obtain ⟨h_51, hf⟩ := fb_if hf
  refine va_last hx hb hK hP (hD t) hS 46 1 (haM_46 ca a t) rfl h_51 dX11_list_51 (fun H locs hP _ hS => ?_)
  rw [saM_46] at hP
  obtain ⟨t_1, e_51, hf⟩ := fb_ls hf
  rw [← e_51] at hP
  refine lv_iinc (v := x3 + 1) (lv' := [(3, .int (x3 + 1)), (0, .ref (a 0)), (1, .int x1)]) hx hb dX11_list_52 hl (k := 2) rfl rfl (by decide) rfl (fun ls hl => ?_)
  refine lv_goto (tgt := 34) hx hb dX11_list_55 (by decide) ?_
  exact hk34 t_1 x1 (x3 + 1) _ _ _ hf hP hS (lv_sub hl [1, 2, 0] rfl)
set_option maxRecDepth 20000 in
theorem w_M_X11_list__0_34 {p : Program} {l : Launch} {e : Env} {s : State} {m : MethodId} {args : Array Value} {below : List Frame} {meth : Method} {c : Code} {A : Nat → Prop} {Q : State → Prop} {D : va_G} {ca : Nat → ClassId} {a : Nat → Nat} {u : fw_S} {r : Int32}  (C : CX (WM ca a) D (tyv ca) p s m args c A prog_13_method_81_code 4 RX11) (hr : True → RX (WM ca a) D p l e rm_M_X11_list__0 s m args below meth c A prog_13_method_81_code Q .ireturn [.int r] u) : ∀ (n : Nat) (t : fw_S) (x1 : Int32) (x3 : Int32) (H : Heap) (locs : List Loc) (ls : Array Slot), b_M_X11_list__0_34  n t x1 x3 = some (r, u) → va_P D classes (WM ca a t) H → va_S A s.heap H locs → lv_has ls 4 [(0, .ref (a 0)), (1, .int x1), (3, .int x3)] → W p l e rm_M_X11_list__0 s m args below meth c H locs 0 0 Q (F0 m 34 ls []) := by
  obtain ⟨hx, hb, hml, hown, hts, hN, hK, hD, hA⟩ := id C
  intro n
  induction n with
  | zero => intro t x1 x3 H locs ls hf; cases hf
  | succ n hk34 =>
    intro t x1 x3 H locs ls hf hP hS hl
    have hf : (if ((40 : Int32)) ≤ x3 then b_M_X11_list__0_58 t else b_M_X11_list__0_40 (b_M_X11_list__0_34 n) t x1 x3) = some (r, u) := hf
    refine lv_iload_n hx hb dX11_list_34 rfl (lv_at hl 2 rfl) ?_
    refine lv_bipush (v := 40) hx hb dX11_list_35 (by decide) ?_
    refine lv_icmp_ge (tgt := 58) hx hb dX11_list_37 (by decide) (fun h_37 => ?_) (fun h_37 => ?_)
    · have hf := fb_t h_37 hf
      exact w_M_X11_list__0_58 C hr hf hP hS (lv_sub hl [] rfl)
    · have hf := fb_f h_37 hf
      exact w_M_X11_list__0_40 C hr hk34 hf hP hS (lv_sub hl [0, 1, 2] rfl)
set_option maxRecDepth 20000 in
theorem w_M_X11_list__0_25 {p : Program} {l : Launch} {e : Env} {s : State} {m : MethodId} {args : Array Value} {below : List Frame} {meth : Method} {c : Code} {A : Nat → Prop} {Q : State → Prop} {D : va_G} {ca : Nat → ClassId} {a : Nat → Nat} {u : fw_S} {r : Int32}  (C : CX (WM ca a) D (tyv ca) p s m args c A prog_13_method_81_code 4 RX11) (hr : True → RX (WM ca a) D p l e rm_M_X11_list__0 s m args below meth c A prog_13_method_81_code Q .ireturn [.int r] u) {t : fw_S} {x1 : Int32} {x2 : Int32} {H : Heap} {locs : List Loc} {ls : Array Slot} (hf : b_M_X11_list__0_25  t x1 x2 = some (r, u)) (hP : va_P D classes (WM ca a t) H) (hS : va_S A s.heap H locs) (hl : lv_has ls 4 [(0, .ref (a 0)), (1, .int x1), (2, .int x2)]) : W p l e rm_M_X11_list__0 s m args below meth c H locs 0 0 Q (F0 m 25 ls []) := by
  obtain ⟨hx, hb, hml, hown, hts, hN, hK, hD, hA⟩ := id C
  have hf : (fb_g (¬ (x1 < 0 ∨ 4 ≤ x1.toNatClampNeg)) (fb_l (up_F t 38 (upd (st_F t 38) x1.toNatClampNeg x2)) fun t_1 => (b_M_X11_list__0_34 3000 t_1 x1 ((0 : Int32))))) = some (r, u) := hf
  refine lv_aload_n hx hb dX11_list_25 rfl (lv_at hl 0 rfl) ?_
  refine va_get (D := D) (ci := 11) (v := .ref (a 47)) (C := RX11) (T := TX11) (N := 76) hx hb hts inX11 hown hK hP 0 (heM_0 ca a t) rfl 64 (by decide) (hts _ kw_1256) (fun _ h9 => h9) rfl dX11_list_26 ?_
  refine lv_iload_n hx hb dX11_list_29 rfl (lv_at hl 1 rfl) ?_
  refine lv_iload_n hx hb dX11_list_30 rfl (lv_at hl 2 rfl) ?_
  obtain ⟨h_31, hf⟩ := fb_if hf
  refine va_iast hx hb hK hP (hD t) hS 47 0 (haM_47 ca a t) rfl h_31 dX11_list_31 (fun H locs hP _ hS => ?_)
  rw [saM_47] at hP
  obtain ⟨t_1, e_31, hf⟩ := fb_ls hf
  rw [← e_31] at hP
  refine lv_iconst (v := 0) hx hb dX11_list_32 (by decide) ?_
  refine lv_istore_n (lv' := [(3, .int ((0 : Int32))), (0, .ref (a 0)), (1, .int x1), (2, .int x2)]) hx hb dX11_list_33 rfl hl (by decide) rfl (fun ls hl => ?_)
  exact w_M_X11_list__0_34 C hr 3000 t_1 x1 ((0 : Int32)) _ _ _ hf hP hS (lv_sub hl [1, 2, 0] rfl)
set_option maxRecDepth 20000 in
theorem w_M_X11_list__0_22 {p : Program} {l : Launch} {e : Env} {s : State} {m : MethodId} {args : Array Value} {below : List Frame} {meth : Method} {c : Code} {A : Nat → Prop} {Q : State → Prop} {D : va_G} {ca : Nat → ClassId} {a : Nat → Nat} {u : fw_S} {r : Int32}  (C : CX (WM ca a) D (tyv ca) p s m args c A prog_13_method_81_code 4 RX11) (hr : True → RX (WM ca a) D p l e rm_M_X11_list__0 s m args below meth c A prog_13_method_81_code Q .ireturn [.int r] u) {t : fw_S}  {H : Heap} {locs : List Loc} {ls : Array Slot} (hf : b_M_X11_list__0_22  t  = some (r, u)) (hP : va_P D classes (WM ca a t) H) (hS : va_S A s.heap H locs) (hl : lv_has ls 4 []) : W p l e rm_M_X11_list__0 s m args below meth c H locs 0 0 Q (F0 m 22 ls []) := by
  obtain ⟨hx, hb, hml, hown, hts, hN, hK, hD, hA⟩ := id C
  have hf : (some ((-14 : Int32), t)) = some (r, u) := hf
  refine lv_bipush (v := (-14)) hx hb dX11_list_22 (by decide) ?_
  obtain ⟨e_24, e2_24⟩ := fb_e hf
  subst e_24; subst e2_24
  exact hr trivial _ _ _ _ hP hS dX11_list_24
set_option maxRecDepth 20000 in
theorem w_M_X11_list__0_18 {p : Program} {l : Launch} {e : Env} {s : State} {m : MethodId} {args : Array Value} {below : List Frame} {meth : Method} {c : Code} {A : Nat → Prop} {Q : State → Prop} {D : va_G} {ca : Nat → ClassId} {a : Nat → Nat} {u : fw_S} {r : Int32}  (C : CX (WM ca a) D (tyv ca) p s m args c A prog_13_method_81_code 4 RX11) (hr : True → RX (WM ca a) D p l e rm_M_X11_list__0 s m args below meth c A prog_13_method_81_code Q .ireturn [.int r] u) {t : fw_S} {x1 : Int32} {x2 : Int32} {H : Heap} {locs : List Loc} {ls : Array Slot} (hf : b_M_X11_list__0_18  t x1 x2 = some (r, u)) (hP : va_P D classes (WM ca a t) H) (hS : va_S A s.heap H locs) (hl : lv_has ls 4 [(0, .ref (a 0)), (1, .int x1), (2, .int x2)]) : W p l e rm_M_X11_list__0 s m args below meth c H locs 0 0 Q (F0 m 18 ls []) := by
  obtain ⟨hx, hb, hml, hown, hts, hN, hK, hD, hA⟩ := id C
  have hf : (if 0 ≤ x2 then b_M_X11_list__0_25 t x1 x2 else b_M_X11_list__0_22 t) = some (r, u) := hf
  refine lv_iload_n hx hb dX11_list_18 rfl (lv_at hl 2 rfl) ?_
  refine lv_if_ge (tgt := 25) hx hb dX11_list_19 (by decide) (fun h_19 => ?_) (fun h_19 => ?_)
  · have hf := fb_t h_19 hf
    exact w_M_X11_list__0_25 C hr hf hP hS (lv_sub hl [0, 1, 2] rfl)
  · have hf := fb_f h_19 hf
    exact w_M_X11_list__0_22 C hr hf hP hS (lv_sub hl [] rfl)
set_option maxRecDepth 20000 in
theorem w_M_X11_list__0_15 {p : Program} {l : Launch} {e : Env} {s : State} {m : MethodId} {args : Array Value} {below : List Frame} {meth : Method} {c : Code} {A : Nat → Prop} {Q : State → Prop} {D : va_G} {ca : Nat → ClassId} {a : Nat → Nat} {u : fw_S} {r : Int32}  (C : CX (WM ca a) D (tyv ca) p s m args c A prog_13_method_81_code 4 RX11) (hr : True → RX (WM ca a) D p l e rm_M_X11_list__0 s m args below meth c A prog_13_method_81_code Q .ireturn [.int r] u) {t : fw_S}  {H : Heap} {locs : List Loc} {ls : Array Slot} (hf : b_M_X11_list__0_15  t  = some (r, u)) (hP : va_P D classes (WM ca a t) H) (hS : va_S A s.heap H locs) (hl : lv_has ls 4 []) : W p l e rm_M_X11_list__0 s m args below meth c H locs 0 0 Q (F0 m 15 ls []) := by
  obtain ⟨hx, hb, hml, hown, hts, hN, hK, hD, hA⟩ := id C
  have hf : (some ((-2 : Int32), t)) = some (r, u) := hf
  refine lv_bipush (v := (-2)) hx hb dX11_list_15 (by decide) ?_
  obtain ⟨e_17, e2_17⟩ := fb_e hf
  subst e_17; subst e2_17
  exact hr trivial _ _ _ _ hP hS dX11_list_17
set_option maxRecDepth 20000 in
theorem w_M_X11_list__0_9 {p : Program} {l : Launch} {e : Env} {s : State} {m : MethodId} {args : Array Value} {below : List Frame} {meth : Method} {c : Code} {A : Nat → Prop} {Q : State → Prop} {D : va_G} {ca : Nat → ClassId} {a : Nat → Nat} {u : fw_S} {r : Int32}  (C : CX (WM ca a) D (tyv ca) p s m args c A prog_13_method_81_code 4 RX11) (hr : True → RX (WM ca a) D p l e rm_M_X11_list__0 s m args below meth c A prog_13_method_81_code Q .ireturn [.int r] u) {t : fw_S} {x1 : Int32} {x2 : Int32} {H : Heap} {locs : List Loc} {ls : Array Slot} (hf : b_M_X11_list__0_9  t x1 x2 = some (r, u)) (hP : va_P D classes (WM ca a t) H) (hS : va_S A s.heap H locs) (hl : lv_has ls 4 [(0, .ref (a 0)), (1, .int x1), (2, .int x2)]) : W p l e rm_M_X11_list__0 s m args below meth c H locs 0 0 Q (F0 m 9 ls []) := by
  obtain ⟨hx, hb, hml, hown, hts, hN, hK, hD, hA⟩ := id C
  have hf : (if x2 ≤ ((40 : Int32)) then b_M_X11_list__0_18 t x1 x2 else b_M_X11_list__0_15 t) = some (r, u) := hf
  refine lv_iload_n hx hb dX11_list_9 rfl (lv_at hl 2 rfl) ?_
  refine lv_bipush (v := 40) hx hb dX11_list_10 (by decide) ?_
  refine lv_icmp_le (tgt := 18) hx hb dX11_list_12 (by decide) (fun h_12 => ?_) (fun h_12 => ?_)
  · have hf := fb_t h_12 hf
    exact w_M_X11_list__0_18 C hr hf hP hS (lv_sub hl [0, 1, 2] rfl)
  · have hf := fb_f h_12 hf
    exact w_M_X11_list__0_15 C hr hf hP hS (lv_sub hl [] rfl)
set_option maxRecDepth 20000 in
theorem w_M_X11_list__0_7 {p : Program} {l : Launch} {e : Env} {s : State} {m : MethodId} {args : Array Value} {below : List Frame} {meth : Method} {c : Code} {A : Nat → Prop} {Q : State → Prop} {D : va_G} {ca : Nat → ClassId} {a : Nat → Nat} {u : fw_S} {r : Int32}  (C : CX (WM ca a) D (tyv ca) p s m args c A prog_13_method_81_code 4 RX11) (hr : True → RX (WM ca a) D p l e rm_M_X11_list__0 s m args below meth c A prog_13_method_81_code Q .ireturn [.int r] u) {t : fw_S}  {H : Heap} {locs : List Loc} {ls : Array Slot} (hf : b_M_X11_list__0_7  t  = some (r, u)) (hP : va_P D classes (WM ca a t) H) (hS : va_S A s.heap H locs) (hl : lv_has ls 4 []) : W p l e rm_M_X11_list__0 s m args below meth c H locs 0 0 Q (F0 m 7 ls []) := by
  obtain ⟨hx, hb, hml, hown, hts, hN, hK, hD, hA⟩ := id C
  have hf : (some ((-1 : Int32), t)) = some (r, u) := hf
  refine lv_iconst (v := (-1)) hx hb dX11_list_7 (by decide) ?_
  obtain ⟨e_8, e2_8⟩ := fb_e hf
  subst e_8; subst e2_8
  exact hr trivial _ _ _ _ hP hS dX11_list_8
set_option maxRecDepth 20000 in
theorem w_M_X11_list__0_0 {p : Program} {l : Launch} {e : Env} {s : State} {m : MethodId} {args : Array Value} {below : List Frame} {meth : Method} {c : Code} {A : Nat → Prop} {Q : State → Prop} {D : va_G} {ca : Nat → ClassId} {a : Nat → Nat} {u : fw_S} {r : Int32}  (C : CX (WM ca a) D (tyv ca) p s m args c A prog_13_method_81_code 4 RX11) (hr : True → RX (WM ca a) D p l e rm_M_X11_list__0 s m args below meth c A prog_13_method_81_code Q .ireturn [.int r] u) {t : fw_S} {x1 : Int32} {x2 : Int32} {H : Heap} {locs : List Loc} {ls : Array Slot} (hf : b_M_X11_list__0_0  t x1 x2 = some (r, u)) (hP : va_P D classes (WM ca a t) H) (hS : va_S A s.heap H locs) (hl : lv_has ls 4 [(0, .ref (a 0)), (1, .int x1), (2, .int x2)]) : W p l e rm_M_X11_list__0 s m args below meth c H locs 0 0 Q (F0 m 0 ls []) := by
  obtain ⟨hx, hb, hml, hown, hts, hN, hK, hD, hA⟩ := id C
  have hf : (fb_b (f_M_X11_isList t x1) fun v_2 t_1 => (if v_2 = 0 then b_M_X11_list__0_7 t_1 else b_M_X11_list__0_9 t_1 x1 x2)) = some (r, u) := hf
  refine lv_iload_n hx hb dX11_list_0 rfl (lv_at hl 1 rfl) ?_
  obtain ⟨v_2, t_1, g_1, hf⟩ := fb_bs hf
  refine fw_S1 (As := [.int x1]) (rest := []) (n := 1) C (c_M_X11_isList (l := l) (D := D) (ca := ca) (a := a) g_1) kw_1737 kw_1738 kw_102 kw_1739 hP hS hl rfl rfl (by decide) (by decide +kernel) ⟨Nat.le_of_ble_eq_true rfl, Nat.le_of_ble_eq_true rfl⟩ rfl rfl (Nat.le_of_ble_eq_true rfl) dX11_list_1 (fun H locs hP hS => ?_)
  refine W.eq (g2 := F0 m 4 ls [.int v_2]) rfl ?_
  refine lv_if_ne (tgt := 9) hx hb dX11_list_4 (by decide) (fun h_4 => ?_) (fun h_4 => ?_)
  · have hf := fb_f h_4 hf
    exact w_M_X11_list__0_9 C hr hf hP hS (lv_sub hl [0, 1, 2] rfl)
  · have hf := fb_t h_4 hf
    exact w_M_X11_list__0_7 C hr hf hP hS (lv_sub hl [] rfl)
set_option maxRecDepth 20000 in
theorem c_M_X11_list__0 {l : Launch} {D : va_G} {ca : Nat → ClassId} {a : Nat → Nat} {t : fw_S} {x1 : Int32} {x2 : Int32} {u : fw_S} {r : Int32} (hf : f_M_X11_list__0 t x1 x2 = some (r, u)) : MC (WM ca a) D (tyv ca) l yX11_list (.code yX11_list prog_13_method_81_code 4 (some .int) :: lw_gd) rm_M_X11_list__0 [.ref (a 0), .int x1, .int x2] (some (.int r)) t u := by
  refine fw_met (okM ca a) (by decide +kernel) rfl rfl (Nat.le_of_ble_eq_true rfl) ?_
  intro p e s m args below meth c A Q ls C hr hk hP hS hl hQ
  exact w_M_X11_list__0_0 C (fun _ => fw_ri C hr hk hQ) hf hP hS (lv_sub hl [0, 1, 2] rfl)
/-! ReactiveSheetModel.set(IIJ)I ['m'] -/
abbrev rm_M_X11_set__0 : Room := { frames := 2, cells := 0, slots := 0, locals := 42 }
def b_M_X11_set__0_40  (t : fw_S) (x1 : Int32) (x2 : Int32) (y3 : Int64) : Option (Int32 × fw_S) := fb_g (¬ (((((40 : Int32)) * x1) + x2) < 0 ∨ 160 ≤ ((((40 : Int32)) * x1) + x2).toNatClampNeg)) (fb_l (up_G t 7 (vp_updL (st_G t 7) ((((40 : Int32)) * x1) + x2).toNatClampNeg y3)) fun t_1 => (some ((1 : Int32), t_1)))
def b_M_X11_set__0_37  (t : fw_S)  : Option (Int32 × fw_S) := some ((-13 : Int32), t)
def b_M_X11_set__0_21  (t : fw_S) (x1 : Int32) (x2 : Int32) (y3 : Int64) : Option (Int32 × fw_S) := fb_g (¬ (x1 < 0 ∨ 4 ≤ x1.toNatClampNeg)) (fb_b (f_M_X11_isIn t x2 ((0 : Int32)) ((st_F t 38 x1.toNatClampNeg) - ((1 : Int32)))) fun v_2 t_1 => (if v_2 = 0 then b_M_X11_set__0_37 t_1 else b_M_X11_set__0_40 t_1 x1 x2 y3))
def b_M_X11_set__0_18  (t : fw_S)  : Option (Int32 × fw_S) := some ((-11 : Int32), t)
def b_M_X11_set__0_9  (t : fw_S) (x1 : Int32) (x2 : Int32) (y3 : Int64) : Option (Int32 × fw_S) := fb_g (¬ (x1 < 0 ∨ 4 ≤ x1.toNatClampNeg)) (if 0 ≤ (st_F t 38 x1.toNatClampNeg) then b_M_X11_set__0_21 t x1 x2 y3 else b_M_X11_set__0_18 t)
def b_M_X11_set__0_7  (t : fw_S)  : Option (Int32 × fw_S) := some ((-1 : Int32), t)
def b_M_X11_set__0_0  (t : fw_S) (x1 : Int32) (x2 : Int32) (y3 : Int64) : Option (Int32 × fw_S) := fb_b (f_M_X11_isList t x1) fun v_2 t_1 => (if v_2 = 0 then b_M_X11_set__0_7 t_1 else b_M_X11_set__0_9 t_1 x1 x2 y3)
def f_M_X11_set__0 (t : fw_S) (x1 : Int32) (x2 : Int32) (y3 : Int64) : Option (Int32 × fw_S) := b_M_X11_set__0_0 t x1 x2 y3
set_option maxRecDepth 20000 in
theorem w_M_X11_set__0_40 {p : Program} {l : Launch} {e : Env} {s : State} {m : MethodId} {args : Array Value} {below : List Frame} {meth : Method} {c : Code} {A : Nat → Prop} {Q : State → Prop} {D : va_G} {ca : Nat → ClassId} {a : Nat → Nat} {u : fw_S} {r : Int32}  (C : CX (WM ca a) D (tyv ca) p s m args c A prog_13_method_82_code 5 RX11) (hr : True → RX (WM ca a) D p l e rm_M_X11_set__0 s m args below meth c A prog_13_method_82_code Q .ireturn [.int r] u) {t : fw_S} {x1 : Int32} {x2 : Int32} {y3 : Int64} {H : Heap} {locs : List Loc} {ls : Array Slot} (hf : b_M_X11_set__0_40  t x1 x2 y3 = some (r, u)) (hP : va_P D classes (WM ca a t) H) (hS : va_S A s.heap H locs) (hl : lv_has ls 5 [(0, .ref (a 0)), (1, .int x1), (2, .int x2), (3, .long y3)]) : W p l e rm_M_X11_set__0 s m args below meth c H locs 0 0 Q (F0 m 40 ls []) := by
  obtain ⟨hx, hb, hml, hown, hts, hN, hK, hD, hA⟩ := id C
  have hf : (fb_g (¬ (((((40 : Int32)) * x1) + x2) < 0 ∨ 160 ≤ ((((40 : Int32)) * x1) + x2).toNatClampNeg)) (fb_l (up_G t 7 (vp_updL (st_G t 7) ((((40 : Int32)) * x1) + x2).toNatClampNeg y3)) fun t_1 => (some ((1 : Int32), t_1)))) = some (r, u) := hf
  refine lv_aload_n hx hb dX11_set_40 rfl (lv_at hl 0 rfl) ?_
  refine va_get (D := D) (ci := 11) (v := .ref (a 46)) (C := RX11) (T := TX11) (N := 76) hx hb hts inX11 hown hK hP 0 (heM_0 ca a t) rfl 63 (by decide) (hts _ kw_1255) (fun _ h9 => h9) rfl dX11_set_41 ?_
  refine lv_bipush (v := 40) hx hb dX11_set_44 (by decide) ?_
  refine lv_iload_n hx hb dX11_set_46 rfl (lv_at hl 1 rfl) ?_
  refine lv_imul hx hb dX11_set_47 ?_
  refine lv_iload_n hx hb dX11_set_48 rfl (lv_at hl 2 rfl) ?_
  refine lv_iadd hx hb dX11_set_49 ?_
  refine lv_lload_n hx hb dX11_set_50 rfl (lv_at hl 3 rfl) ?_
  obtain ⟨h_51, hf⟩ := fb_if hf
  refine va_last hx hb hK hP (hD t) hS 46 1 (haM_46 ca a t) rfl h_51 dX11_set_51 (fun H locs hP _ hS => ?_)
  rw [saM_46] at hP
  obtain ⟨t_1, e_51, hf⟩ := fb_ls hf
  rw [← e_51] at hP
  refine lv_iconst (v := 1) hx hb dX11_set_52 (by decide) ?_
  obtain ⟨e_53, e2_53⟩ := fb_e hf
  subst e_53; subst e2_53
  exact hr trivial _ _ _ _ hP hS dX11_set_53
set_option maxRecDepth 20000 in
theorem w_M_X11_set__0_37 {p : Program} {l : Launch} {e : Env} {s : State} {m : MethodId} {args : Array Value} {below : List Frame} {meth : Method} {c : Code} {A : Nat → Prop} {Q : State → Prop} {D : va_G} {ca : Nat → ClassId} {a : Nat → Nat} {u : fw_S} {r : Int32}  (C : CX (WM ca a) D (tyv ca) p s m args c A prog_13_method_82_code 5 RX11) (hr : True → RX (WM ca a) D p l e rm_M_X11_set__0 s m args below meth c A prog_13_method_82_code Q .ireturn [.int r] u) {t : fw_S}  {H : Heap} {locs : List Loc} {ls : Array Slot} (hf : b_M_X11_set__0_37  t  = some (r, u)) (hP : va_P D classes (WM ca a t) H) (hS : va_S A s.heap H locs) (hl : lv_has ls 5 []) : W p l e rm_M_X11_set__0 s m args below meth c H locs 0 0 Q (F0 m 37 ls []) := by
  obtain ⟨hx, hb, hml, hown, hts, hN, hK, hD, hA⟩ := id C
  have hf : (some ((-13 : Int32), t)) = some (r, u) := hf
  refine lv_bipush (v := (-13)) hx hb dX11_set_37 (by decide) ?_
  obtain ⟨e_39, e2_39⟩ := fb_e hf
  subst e_39; subst e2_39
  exact hr trivial _ _ _ _ hP hS dX11_set_39
set_option maxRecDepth 20000 in
theorem w_M_X11_set__0_21 {p : Program} {l : Launch} {e : Env} {s : State} {m : MethodId} {args : Array Value} {below : List Frame} {meth : Method} {c : Code} {A : Nat → Prop} {Q : State → Prop} {D : va_G} {ca : Nat → ClassId} {a : Nat → Nat} {u : fw_S} {r : Int32}  (C : CX (WM ca a) D (tyv ca) p s m args c A prog_13_method_82_code 5 RX11) (hr : True → RX (WM ca a) D p l e rm_M_X11_set__0 s m args below meth c A prog_13_method_82_code Q .ireturn [.int r] u) {t : fw_S} {x1 : Int32} {x2 : Int32} {y3 : Int64} {H : Heap} {locs : List Loc} {ls : Array Slot} (hf : b_M_X11_set__0_21  t x1 x2 y3 = some (r, u)) (hP : va_P D classes (WM ca a t) H) (hS : va_S A s.heap H locs) (hl : lv_has ls 5 [(0, .ref (a 0)), (1, .int x1), (2, .int x2), (3, .long y3)]) : W p l e rm_M_X11_set__0 s m args below meth c H locs 0 0 Q (F0 m 21 ls []) := by
  obtain ⟨hx, hb, hml, hown, hts, hN, hK, hD, hA⟩ := id C
  have hf : (fb_g (¬ (x1 < 0 ∨ 4 ≤ x1.toNatClampNeg)) (fb_b (f_M_X11_isIn t x2 ((0 : Int32)) ((st_F t 38 x1.toNatClampNeg) - ((1 : Int32)))) fun v_2 t_1 => (if v_2 = 0 then b_M_X11_set__0_37 t_1 else b_M_X11_set__0_40 t_1 x1 x2 y3))) = some (r, u) := hf
  refine lv_iload_n hx hb dX11_set_21 rfl (lv_at hl 2 rfl) ?_
  refine lv_iconst (v := 0) hx hb dX11_set_22 (by decide) ?_
  refine lv_aload_n hx hb dX11_set_23 rfl (lv_at hl 0 rfl) ?_
  refine va_get (D := D) (ci := 11) (v := .ref (a 47)) (C := RX11) (T := TX11) (N := 76) hx hb hts inX11 hown hK hP 0 (heM_0 ca a t) rfl 64 (by decide) (hts _ kw_1256) (fun _ h9 => h9) rfl dX11_set_24 ?_
  refine lv_iload_n hx hb dX11_set_27 rfl (lv_at hl 1 rfl) ?_
  obtain ⟨h_28, hf⟩ := fb_if hf
  refine va_iald hx hb hK hP 47 0 (haM_47 ca a t) rfl h_28 dX11_set_28 ?_
  refine lv_iconst (v := 1) hx hb dX11_set_29 (by decide) ?_
  refine lv_isub hx hb dX11_set_30 ?_
  obtain ⟨v_2, t_1, g_31, hf⟩ := fb_bs hf
  refine fw_S1 (As := [.int x2, .int ((0 : Int32)), .int ((st_F t 38 x1.toNatClampNeg) - ((1 : Int32)))]) (rest := []) (n := 3) C (c_M_X11_isIn (l := l) (D := D) (ca := ca) (a := a) g_31) kw_1426 kw_1427 kw_102 kw_1428 hP hS hl rfl rfl (by decide) (by decide +kernel) ⟨Nat.le_of_ble_eq_true rfl, Nat.le_of_ble_eq_true rfl⟩ rfl rfl (Nat.le_of_ble_eq_true rfl) dX11_set_31 (fun H locs hP hS => ?_)
  refine W.eq (g2 := F0 m 34 ls [.int v_2]) rfl ?_
  refine lv_if_ne (tgt := 40) hx hb dX11_set_34 (by decide) (fun h_34 => ?_) (fun h_34 => ?_)
  · have hf := fb_f h_34 hf
    exact w_M_X11_set__0_40 C hr hf hP hS (lv_sub hl [0, 1, 2, 3] rfl)
  · have hf := fb_t h_34 hf
    exact w_M_X11_set__0_37 C hr hf hP hS (lv_sub hl [] rfl)
set_option maxRecDepth 20000 in
theorem w_M_X11_set__0_18 {p : Program} {l : Launch} {e : Env} {s : State} {m : MethodId} {args : Array Value} {below : List Frame} {meth : Method} {c : Code} {A : Nat → Prop} {Q : State → Prop} {D : va_G} {ca : Nat → ClassId} {a : Nat → Nat} {u : fw_S} {r : Int32}  (C : CX (WM ca a) D (tyv ca) p s m args c A prog_13_method_82_code 5 RX11) (hr : True → RX (WM ca a) D p l e rm_M_X11_set__0 s m args below meth c A prog_13_method_82_code Q .ireturn [.int r] u) {t : fw_S}  {H : Heap} {locs : List Loc} {ls : Array Slot} (hf : b_M_X11_set__0_18  t  = some (r, u)) (hP : va_P D classes (WM ca a t) H) (hS : va_S A s.heap H locs) (hl : lv_has ls 5 []) : W p l e rm_M_X11_set__0 s m args below meth c H locs 0 0 Q (F0 m 18 ls []) := by
  obtain ⟨hx, hb, hml, hown, hts, hN, hK, hD, hA⟩ := id C
  have hf : (some ((-11 : Int32), t)) = some (r, u) := hf
  refine lv_bipush (v := (-11)) hx hb dX11_set_18 (by decide) ?_
  obtain ⟨e_20, e2_20⟩ := fb_e hf
  subst e_20; subst e2_20
  exact hr trivial _ _ _ _ hP hS dX11_set_20
set_option maxRecDepth 20000 in
theorem w_M_X11_set__0_9 {p : Program} {l : Launch} {e : Env} {s : State} {m : MethodId} {args : Array Value} {below : List Frame} {meth : Method} {c : Code} {A : Nat → Prop} {Q : State → Prop} {D : va_G} {ca : Nat → ClassId} {a : Nat → Nat} {u : fw_S} {r : Int32}  (C : CX (WM ca a) D (tyv ca) p s m args c A prog_13_method_82_code 5 RX11) (hr : True → RX (WM ca a) D p l e rm_M_X11_set__0 s m args below meth c A prog_13_method_82_code Q .ireturn [.int r] u) {t : fw_S} {x1 : Int32} {x2 : Int32} {y3 : Int64} {H : Heap} {locs : List Loc} {ls : Array Slot} (hf : b_M_X11_set__0_9  t x1 x2 y3 = some (r, u)) (hP : va_P D classes (WM ca a t) H) (hS : va_S A s.heap H locs) (hl : lv_has ls 5 [(0, .ref (a 0)), (1, .int x1), (2, .int x2), (3, .long y3)]) : W p l e rm_M_X11_set__0 s m args below meth c H locs 0 0 Q (F0 m 9 ls []) := by
  obtain ⟨hx, hb, hml, hown, hts, hN, hK, hD, hA⟩ := id C
  have hf : (fb_g (¬ (x1 < 0 ∨ 4 ≤ x1.toNatClampNeg)) (if 0 ≤ (st_F t 38 x1.toNatClampNeg) then b_M_X11_set__0_21 t x1 x2 y3 else b_M_X11_set__0_18 t)) = some (r, u) := hf
  refine lv_aload_n hx hb dX11_set_9 rfl (lv_at hl 0 rfl) ?_
  refine va_get (D := D) (ci := 11) (v := .ref (a 47)) (C := RX11) (T := TX11) (N := 76) hx hb hts inX11 hown hK hP 0 (heM_0 ca a t) rfl 64 (by decide) (hts _ kw_1256) (fun _ h9 => h9) rfl dX11_set_10 ?_
  refine lv_iload_n hx hb dX11_set_13 rfl (lv_at hl 1 rfl) ?_
  obtain ⟨h_14, hf⟩ := fb_if hf
  refine va_iald hx hb hK hP 47 0 (haM_47 ca a t) rfl h_14 dX11_set_14 ?_
  refine lv_if_ge (tgt := 21) hx hb dX11_set_15 (by decide) (fun h_15 => ?_) (fun h_15 => ?_)
  · have hf := fb_t h_15 hf
    exact w_M_X11_set__0_21 C hr hf hP hS (lv_sub hl [0, 1, 2, 3] rfl)
  · have hf := fb_f h_15 hf
    exact w_M_X11_set__0_18 C hr hf hP hS (lv_sub hl [] rfl)
set_option maxRecDepth 20000 in
theorem w_M_X11_set__0_7 {p : Program} {l : Launch} {e : Env} {s : State} {m : MethodId} {args : Array Value} {below : List Frame} {meth : Method} {c : Code} {A : Nat → Prop} {Q : State → Prop} {D : va_G} {ca : Nat → ClassId} {a : Nat → Nat} {u : fw_S} {r : Int32}  (C : CX (WM ca a) D (tyv ca) p s m args c A prog_13_method_82_code 5 RX11) (hr : True → RX (WM ca a) D p l e rm_M_X11_set__0 s m args below meth c A prog_13_method_82_code Q .ireturn [.int r] u) {t : fw_S}  {H : Heap} {locs : List Loc} {ls : Array Slot} (hf : b_M_X11_set__0_7  t  = some (r, u)) (hP : va_P D classes (WM ca a t) H) (hS : va_S A s.heap H locs) (hl : lv_has ls 5 []) : W p l e rm_M_X11_set__0 s m args below meth c H locs 0 0 Q (F0 m 7 ls []) := by
  obtain ⟨hx, hb, hml, hown, hts, hN, hK, hD, hA⟩ := id C
  have hf : (some ((-1 : Int32), t)) = some (r, u) := hf
  refine lv_iconst (v := (-1)) hx hb dX11_set_7 (by decide) ?_
  obtain ⟨e_8, e2_8⟩ := fb_e hf
  subst e_8; subst e2_8
  exact hr trivial _ _ _ _ hP hS dX11_set_8
set_option maxRecDepth 20000 in
theorem w_M_X11_set__0_0 {p : Program} {l : Launch} {e : Env} {s : State} {m : MethodId} {args : Array Value} {below : List Frame} {meth : Method} {c : Code} {A : Nat → Prop} {Q : State → Prop} {D : va_G} {ca : Nat → ClassId} {a : Nat → Nat} {u : fw_S} {r : Int32}  (C : CX (WM ca a) D (tyv ca) p s m args c A prog_13_method_82_code 5 RX11) (hr : True → RX (WM ca a) D p l e rm_M_X11_set__0 s m args below meth c A prog_13_method_82_code Q .ireturn [.int r] u) {t : fw_S} {x1 : Int32} {x2 : Int32} {y3 : Int64} {H : Heap} {locs : List Loc} {ls : Array Slot} (hf : b_M_X11_set__0_0  t x1 x2 y3 = some (r, u)) (hP : va_P D classes (WM ca a t) H) (hS : va_S A s.heap H locs) (hl : lv_has ls 5 [(0, .ref (a 0)), (1, .int x1), (2, .int x2), (3, .long y3)]) : W p l e rm_M_X11_set__0 s m args below meth c H locs 0 0 Q (F0 m 0 ls []) := by
  obtain ⟨hx, hb, hml, hown, hts, hN, hK, hD, hA⟩ := id C
  have hf : (fb_b (f_M_X11_isList t x1) fun v_2 t_1 => (if v_2 = 0 then b_M_X11_set__0_7 t_1 else b_M_X11_set__0_9 t_1 x1 x2 y3)) = some (r, u) := hf
  refine lv_iload_n hx hb dX11_set_0 rfl (lv_at hl 1 rfl) ?_
  obtain ⟨v_2, t_1, g_1, hf⟩ := fb_bs hf
  refine fw_S1 (As := [.int x1]) (rest := []) (n := 1) C (c_M_X11_isList (l := l) (D := D) (ca := ca) (a := a) g_1) kw_1737 kw_1738 kw_102 kw_1739 hP hS hl rfl rfl (by decide) (by decide +kernel) ⟨Nat.le_of_ble_eq_true rfl, Nat.le_of_ble_eq_true rfl⟩ rfl rfl (Nat.le_of_ble_eq_true rfl) dX11_set_1 (fun H locs hP hS => ?_)
  refine W.eq (g2 := F0 m 4 ls [.int v_2]) rfl ?_
  refine lv_if_ne (tgt := 9) hx hb dX11_set_4 (by decide) (fun h_4 => ?_) (fun h_4 => ?_)
  · have hf := fb_f h_4 hf
    exact w_M_X11_set__0_9 C hr hf hP hS (lv_sub hl [0, 1, 2, 3] rfl)
  · have hf := fb_t h_4 hf
    exact w_M_X11_set__0_7 C hr hf hP hS (lv_sub hl [] rfl)
set_option maxRecDepth 20000 in
theorem c_M_X11_set__0 {l : Launch} {D : va_G} {ca : Nat → ClassId} {a : Nat → Nat} {t : fw_S} {x1 : Int32} {x2 : Int32} {y3 : Int64} {u : fw_S} {r : Int32} (hf : f_M_X11_set__0 t x1 x2 y3 = some (r, u)) : MC (WM ca a) D (tyv ca) l yX11_set (.code yX11_set prog_13_method_82_code 5 (some .int) :: lw_gd) rm_M_X11_set__0 [.ref (a 0), .int x1, .int x2, .long y3] (some (.int r)) t u := by
  refine fw_met (okM ca a) (by decide +kernel) rfl rfl (Nat.le_of_ble_eq_true rfl) ?_
  intro p e s m args below meth c A Q ls C hr hk hP hS hl hQ
  exact w_M_X11_set__0_0 C (fun _ => fw_ri C hr hk hQ) hf hP hS (lv_sub hl [0, 1, 2, 3] rfl)
/-! ReactiveSheetModel.get(II)J ['m'] -/
abbrev rm_M_X11_get__0 : Room := { frames := 2, cells := 0, slots := 0, locals := 42 }
def b_M_X11_get__0_40  (t : fw_S) (w0 : Int64) : Option (Int64 × fw_S) := some (w0, t)
def b_M_X11_get__0_23  (t : fw_S)  : Option (Int64 × fw_S) := b_M_X11_get__0_40 t ((-9223372036854775808 : Int64))
def b_M_X11_get__0_29  (t : fw_S) (x1 : Int32) (x2 : Int32) : Option (Int64 × fw_S) := fb_g (¬ (((((40 : Int32)) * x1) + x2) < 0 ∨ 160 ≤ ((((40 : Int32)) * x1) + x2).toNatClampNeg)) (b_M_X11_get__0_40 t (st_G t 7 ((((40 : Int32)) * x1) + x2).toNatClampNeg))
def b_M_X11_get__0_7  (t : fw_S) (x1 : Int32) (x2 : Int32) : Option (Int64 × fw_S) := fb_g (¬ (x1 < 0 ∨ 4 ≤ x1.toNatClampNeg)) (fb_b (f_M_X11_isIn t x2 ((0 : Int32)) ((st_F t 38 x1.toNatClampNeg) - ((1 : Int32)))) fun v_2 t_1 => (if v_2 = 0 then b_M_X11_get__0_23 t_1 else b_M_X11_get__0_29 t_1 x1 x2))
def b_M_X11_get__0_0  (t : fw_S) (x1 : Int32) (x2 : Int32) : Option (Int64 × fw_S) := fb_b (f_M_X11_isList t x1) fun v_2 t_1 => (if v_2 = 0 then b_M_X11_get__0_23 t_1 else b_M_X11_get__0_7 t_1 x1 x2)
def f_M_X11_get__0 (t : fw_S) (x1 : Int32) (x2 : Int32) : Option (Int64 × fw_S) := b_M_X11_get__0_0 t x1 x2
set_option maxRecDepth 20000 in
theorem w_M_X11_get__0_40 {p : Program} {l : Launch} {e : Env} {s : State} {m : MethodId} {args : Array Value} {below : List Frame} {meth : Method} {c : Code} {A : Nat → Prop} {Q : State → Prop} {D : va_G} {ca : Nat → ClassId} {a : Nat → Nat} {u : fw_S} {r : Int64}  (C : CX (WM ca a) D (tyv ca) p s m args c A prog_13_method_83_code 3 RX11) (hr : True → RX (WM ca a) D p l e rm_M_X11_get__0 s m args below meth c A prog_13_method_83_code Q .lreturn [.long r] u) {t : fw_S} {w0 : Int64} {H : Heap} {locs : List Loc} {ls : Array Slot} (hf : b_M_X11_get__0_40  t w0 = some (r, u)) (hP : va_P D classes (WM ca a t) H) (hS : va_S A s.heap H locs) (hl : lv_has ls 3 []) : W p l e rm_M_X11_get__0 s m args below meth c H locs 0 0 Q (F0 m 40 ls [.long w0]) := by
  obtain ⟨hx, hb, hml, hown, hts, hN, hK, hD, hA⟩ := id C
  have hf : (some (w0, t)) = some (r, u) := hf
  obtain ⟨e_40, e2_40⟩ := fb_e hf
  subst e_40; subst e2_40
  exact hr trivial _ _ _ _ hP hS dX11_get_40
set_option maxRecDepth 20000 in
theorem w_M_X11_get__0_23 {p : Program} {l : Launch} {e : Env} {s : State} {m : MethodId} {args : Array Value} {below : List Frame} {meth : Method} {c : Code} {A : Nat → Prop} {Q : State → Prop} {D : va_G} {ca : Nat → ClassId} {a : Nat → Nat} {u : fw_S} {r : Int64}  (C : CX (WM ca a) D (tyv ca) p s m args c A prog_13_method_83_code 3 RX11) (hr : True → RX (WM ca a) D p l e rm_M_X11_get__0 s m args below meth c A prog_13_method_83_code Q .lreturn [.long r] u) {t : fw_S}  {H : Heap} {locs : List Loc} {ls : Array Slot} (hf : b_M_X11_get__0_23  t  = some (r, u)) (hP : va_P D classes (WM ca a t) H) (hS : va_S A s.heap H locs) (hl : lv_has ls 3 []) : W p l e rm_M_X11_get__0 s m args below meth c H locs 0 0 Q (F0 m 23 ls []) := by
  obtain ⟨hx, hb, hml, hown, hts, hN, hK, hD, hA⟩ := id C
  have hf : (b_M_X11_get__0_40 t ((-9223372036854775808 : Int64))) = some (r, u) := hf
  refine lv_ldc2 (v := (-9223372036854775808)) hx hb hown (hts _ kw_1506) dX11_get_23 ?_
  refine lv_goto (tgt := 40) hx hb dX11_get_26 (by decide) ?_
  exact w_M_X11_get__0_40 C hr hf hP hS (lv_sub hl [] rfl)
set_option maxRecDepth 20000 in
theorem w_M_X11_get__0_29 {p : Program} {l : Launch} {e : Env} {s : State} {m : MethodId} {args : Array Value} {below : List Frame} {meth : Method} {c : Code} {A : Nat → Prop} {Q : State → Prop} {D : va_G} {ca : Nat → ClassId} {a : Nat → Nat} {u : fw_S} {r : Int64}  (C : CX (WM ca a) D (tyv ca) p s m args c A prog_13_method_83_code 3 RX11) (hr : True → RX (WM ca a) D p l e rm_M_X11_get__0 s m args below meth c A prog_13_method_83_code Q .lreturn [.long r] u) {t : fw_S} {x1 : Int32} {x2 : Int32} {H : Heap} {locs : List Loc} {ls : Array Slot} (hf : b_M_X11_get__0_29  t x1 x2 = some (r, u)) (hP : va_P D classes (WM ca a t) H) (hS : va_S A s.heap H locs) (hl : lv_has ls 3 [(0, .ref (a 0)), (1, .int x1), (2, .int x2)]) : W p l e rm_M_X11_get__0 s m args below meth c H locs 0 0 Q (F0 m 29 ls []) := by
  obtain ⟨hx, hb, hml, hown, hts, hN, hK, hD, hA⟩ := id C
  have hf : (fb_g (¬ (((((40 : Int32)) * x1) + x2) < 0 ∨ 160 ≤ ((((40 : Int32)) * x1) + x2).toNatClampNeg)) (b_M_X11_get__0_40 t (st_G t 7 ((((40 : Int32)) * x1) + x2).toNatClampNeg))) = some (r, u) := hf
  refine lv_aload_n hx hb dX11_get_29 rfl (lv_at hl 0 rfl) ?_
  refine va_get (D := D) (ci := 11) (v := .ref (a 46)) (C := RX11) (T := TX11) (N := 76) hx hb hts inX11 hown hK hP 0 (heM_0 ca a t) rfl 63 (by decide) (hts _ kw_1255) (fun _ h9 => h9) rfl dX11_get_30 ?_
  refine lv_bipush (v := 40) hx hb dX11_get_33 (by decide) ?_
  refine lv_iload_n hx hb dX11_get_35 rfl (lv_at hl 1 rfl) ?_
  refine lv_imul hx hb dX11_get_36 ?_
  refine lv_iload_n hx hb dX11_get_37 rfl (lv_at hl 2 rfl) ?_
  refine lv_iadd hx hb dX11_get_38 ?_
  obtain ⟨h_39, hf⟩ := fb_if hf
  refine va_lald hx hb hK hP 46 1 (haM_46 ca a t) rfl h_39 dX11_get_39 ?_
  exact w_M_X11_get__0_40 C hr hf hP hS (lv_sub hl [] rfl)
set_option maxRecDepth 20000 in
theorem w_M_X11_get__0_7 {p : Program} {l : Launch} {e : Env} {s : State} {m : MethodId} {args : Array Value} {below : List Frame} {meth : Method} {c : Code} {A : Nat → Prop} {Q : State → Prop} {D : va_G} {ca : Nat → ClassId} {a : Nat → Nat} {u : fw_S} {r : Int64}  (C : CX (WM ca a) D (tyv ca) p s m args c A prog_13_method_83_code 3 RX11) (hr : True → RX (WM ca a) D p l e rm_M_X11_get__0 s m args below meth c A prog_13_method_83_code Q .lreturn [.long r] u) {t : fw_S} {x1 : Int32} {x2 : Int32} {H : Heap} {locs : List Loc} {ls : Array Slot} (hf : b_M_X11_get__0_7  t x1 x2 = some (r, u)) (hP : va_P D classes (WM ca a t) H) (hS : va_S A s.heap H locs) (hl : lv_has ls 3 [(0, .ref (a 0)), (1, .int x1), (2, .int x2)]) : W p l e rm_M_X11_get__0 s m args below meth c H locs 0 0 Q (F0 m 7 ls []) := by
  obtain ⟨hx, hb, hml, hown, hts, hN, hK, hD, hA⟩ := id C
  have hf : (fb_g (¬ (x1 < 0 ∨ 4 ≤ x1.toNatClampNeg)) (fb_b (f_M_X11_isIn t x2 ((0 : Int32)) ((st_F t 38 x1.toNatClampNeg) - ((1 : Int32)))) fun v_2 t_1 => (if v_2 = 0 then b_M_X11_get__0_23 t_1 else b_M_X11_get__0_29 t_1 x1 x2))) = some (r, u) := hf
  refine lv_iload_n hx hb dX11_get_7 rfl (lv_at hl 2 rfl) ?_
  refine lv_iconst (v := 0) hx hb dX11_get_8 (by decide) ?_
  refine lv_aload_n hx hb dX11_get_9 rfl (lv_at hl 0 rfl) ?_
  refine va_get (D := D) (ci := 11) (v := .ref (a 47)) (C := RX11) (T := TX11) (N := 76) hx hb hts inX11 hown hK hP 0 (heM_0 ca a t) rfl 64 (by decide) (hts _ kw_1256) (fun _ h9 => h9) rfl dX11_get_10 ?_
  refine lv_iload_n hx hb dX11_get_13 rfl (lv_at hl 1 rfl) ?_
  obtain ⟨h_14, hf⟩ := fb_if hf
  refine va_iald hx hb hK hP 47 0 (haM_47 ca a t) rfl h_14 dX11_get_14 ?_
  refine lv_iconst (v := 1) hx hb dX11_get_15 (by decide) ?_
  refine lv_isub hx hb dX11_get_16 ?_
  obtain ⟨v_2, t_1, g_17, hf⟩ := fb_bs hf
  refine fw_S1 (As := [.int x2, .int ((0 : Int32)), .int ((st_F t 38 x1.toNatClampNeg) - ((1 : Int32)))]) (rest := []) (n := 3) C (c_M_X11_isIn (l := l) (D := D) (ca := ca) (a := a) g_17) kw_1426 kw_1427 kw_102 kw_1428 hP hS hl rfl rfl (by decide) (by decide +kernel) ⟨Nat.le_of_ble_eq_true rfl, Nat.le_of_ble_eq_true rfl⟩ rfl rfl (Nat.le_of_ble_eq_true rfl) dX11_get_17 (fun H locs hP hS => ?_)
  refine W.eq (g2 := F0 m 20 ls [.int v_2]) rfl ?_
  refine lv_if_ne (tgt := 29) hx hb dX11_get_20 (by decide) (fun h_20 => ?_) (fun h_20 => ?_)
  · have hf := fb_f h_20 hf
    exact w_M_X11_get__0_29 C hr hf hP hS (lv_sub hl [0, 1, 2] rfl)
  · have hf := fb_t h_20 hf
    exact w_M_X11_get__0_23 C hr hf hP hS (lv_sub hl [] rfl)
set_option maxRecDepth 20000 in
theorem w_M_X11_get__0_0 {p : Program} {l : Launch} {e : Env} {s : State} {m : MethodId} {args : Array Value} {below : List Frame} {meth : Method} {c : Code} {A : Nat → Prop} {Q : State → Prop} {D : va_G} {ca : Nat → ClassId} {a : Nat → Nat} {u : fw_S} {r : Int64}  (C : CX (WM ca a) D (tyv ca) p s m args c A prog_13_method_83_code 3 RX11) (hr : True → RX (WM ca a) D p l e rm_M_X11_get__0 s m args below meth c A prog_13_method_83_code Q .lreturn [.long r] u) {t : fw_S} {x1 : Int32} {x2 : Int32} {H : Heap} {locs : List Loc} {ls : Array Slot} (hf : b_M_X11_get__0_0  t x1 x2 = some (r, u)) (hP : va_P D classes (WM ca a t) H) (hS : va_S A s.heap H locs) (hl : lv_has ls 3 [(0, .ref (a 0)), (1, .int x1), (2, .int x2)]) : W p l e rm_M_X11_get__0 s m args below meth c H locs 0 0 Q (F0 m 0 ls []) := by
  obtain ⟨hx, hb, hml, hown, hts, hN, hK, hD, hA⟩ := id C
  have hf : (fb_b (f_M_X11_isList t x1) fun v_2 t_1 => (if v_2 = 0 then b_M_X11_get__0_23 t_1 else b_M_X11_get__0_7 t_1 x1 x2)) = some (r, u) := hf
  refine lv_iload_n hx hb dX11_get_0 rfl (lv_at hl 1 rfl) ?_
  obtain ⟨v_2, t_1, g_1, hf⟩ := fb_bs hf
  refine fw_S1 (As := [.int x1]) (rest := []) (n := 1) C (c_M_X11_isList (l := l) (D := D) (ca := ca) (a := a) g_1) kw_1737 kw_1738 kw_102 kw_1739 hP hS hl rfl rfl (by decide) (by decide +kernel) ⟨Nat.le_of_ble_eq_true rfl, Nat.le_of_ble_eq_true rfl⟩ rfl rfl (Nat.le_of_ble_eq_true rfl) dX11_get_1 (fun H locs hP hS => ?_)
  refine W.eq (g2 := F0 m 4 ls [.int v_2]) rfl ?_
  refine lv_if_eq (tgt := 23) hx hb dX11_get_4 (by decide) (fun h_4 => ?_) (fun h_4 => ?_)
  · have hf := fb_t h_4 hf
    exact w_M_X11_get__0_23 C hr hf hP hS (lv_sub hl [] rfl)
  · have hf := fb_f h_4 hf
    exact w_M_X11_get__0_7 C hr hf hP hS (lv_sub hl [0, 1, 2] rfl)
set_option maxRecDepth 20000 in
theorem c_M_X11_get__0 {l : Launch} {D : va_G} {ca : Nat → ClassId} {a : Nat → Nat} {t : fw_S} {x1 : Int32} {x2 : Int32} {u : fw_S} {r : Int64} (hf : f_M_X11_get__0 t x1 x2 = some (r, u)) : MC (WM ca a) D (tyv ca) l yX11_get (.code yX11_get prog_13_method_83_code 3 (some .long) :: lw_gd) rm_M_X11_get__0 [.ref (a 0), .int x1, .int x2] (some (.long r)) t u := by
  refine fw_met (okM ca a) (by decide +kernel) rfl rfl (Nat.le_of_ble_eq_true rfl) ?_
  intro p e s m args below meth c A Q ls C hr hk hP hS hl hQ
  exact w_M_X11_get__0_0 C (fun _ => fw_rl C hr hk hQ) hf hP hS (lv_sub hl [0, 1, 2] rfl)
/-! ReactiveSheetModel.move(IIIII)I ['m'] -/
abbrev rm_M_X11_move__0 : Room := { frames := 2, cells := 0, slots := 0, locals := 42 }
def b_M_X11_move__0_14  (t : fw_S)  : Option (Int32 × fw_S) := some ((-1 : Int32), t)
def b_M_X11_move__0_34  (t : fw_S)  : Option (Int32 × fw_S) := some ((-11 : Int32), t)
def b_M_X11_move__0_78  (t : fw_S)  : Option (Int32 × fw_S) := some ((-13 : Int32), t)
def b_M_X11_move__0_146  (t : fw_S) (x5 : Int32) : Option (Int32 × fw_S) := some (x5, t)
def b_M_X11_move__0_109 (k84 : fw_S → Int32 → Int32 → Int32 → Int32 → Int32 → Int32 → Option (Int32 × fw_S)) (t : fw_S) (x1 : Int32) (x2 : Int32) (x3 : Int32) (x4 : Int32) (x5 : Int32) (x6 : Int32) (z0 : Int32) : Option (Int32 × fw_S) := fb_g (¬ ((((((40 : Int32)) * x1) + x2) + z0) < 0 ∨ 160 ≤ (((((40 : Int32)) * x1) + x2) + z0).toNatClampNeg)) (fb_g (¬ ((((((40 : Int32)) * x3) + x4) + z0) < 0 ∨ 160 ≤ (((((40 : Int32)) * x3) + x4) + z0).toNatClampNeg)) (fb_l (up_G t 7 (vp_updL (st_G t 7) (((((40 : Int32)) * x3) + x4) + z0).toNatClampNeg (st_G t 7 (((((40 : Int32)) * x1) + x2) + z0).toNatClampNeg))) fun t_1 => (k84 t_1 x1 x2 x3 x4 x5 (x6 + 1))))
def b_M_X11_move__0_107 (k84 : fw_S → Int32 → Int32 → Int32 → Int32 → Int32 → Int32 → Option (Int32 × fw_S)) (t : fw_S) (x1 : Int32) (x2 : Int32) (x3 : Int32) (x4 : Int32) (x5 : Int32) (x6 : Int32) : Option (Int32 × fw_S) := b_M_X11_move__0_109 k84 t x1 x2 x3 x4 x5 x6 x6
def b_M_X11_move__0_97 (k84 : fw_S → Int32 → Int32 → Int32 → Int32 → Int32 → Int32 → Option (Int32 × fw_S)) (t : fw_S) (x1 : Int32) (x2 : Int32) (x3 : Int32) (x4 : Int32) (x5 : Int32) (x6 : Int32) : Option (Int32 × fw_S) := b_M_X11_move__0_109 k84 t x1 x2 x3 x4 x5 x6 ((x5 - ((1 : Int32))) - x6)
def b_M_X11_move__0_91 (k84 : fw_S → Int32 → Int32 → Int32 → Int32 → Int32 → Int32 → Option (Int32 × fw_S)) (t : fw_S) (x1 : Int32) (x2 : Int32) (x3 : Int32) (x4 : Int32) (x5 : Int32) (x6 : Int32) : Option (Int32 × fw_S) := if x4 ≤ x2 then b_M_X11_move__0_107 k84 t x1 x2 x3 x4 x5 x6 else b_M_X11_move__0_97 k84 t x1 x2 x3 x4 x5 x6
def b_M_X11_move__0_84  : Nat → (fw_S → Int32 → Int32 → Int32 → Int32 → Int32 → Int32 → Option (Int32 × fw_S))
  | 0 => fun _ _ _ _ _ _ _ => none
  | n + 1 => fun t x1 x2 x3 x4 x5 x6 => if x5 ≤ x6 then b_M_X11_move__0_146 t x5 else b_M_X11_move__0_91 (b_M_X11_move__0_84 n) t x1 x2 x3 x4 x5 x6
def b_M_X11_move__0_81  (t : fw_S) (x1 : Int32) (x2 : Int32) (x3 : Int32) (x4 : Int32) (x5 : Int32) : Option (Int32 × fw_S) := b_M_X11_move__0_84 3000 t x1 x2 x3 x4 x5 ((0 : Int32))
def b_M_X11_move__0_64  (t : fw_S) (x1 : Int32) (x2 : Int32) (x3 : Int32) (x4 : Int32) (x5 : Int32) : Option (Int32 × fw_S) := fb_g (¬ (x3 < 0 ∨ 4 ≤ x3.toNatClampNeg)) (if x4 ≤ ((st_F t 38 x3.toNatClampNeg) - x5) then b_M_X11_move__0_81 t x1 x2 x3 x4 x5 else b_M_X11_move__0_78 t)
def b_M_X11_move__0_51  (t : fw_S) (x1 : Int32) (x2 : Int32) (x3 : Int32) (x4 : Int32) (x5 : Int32) : Option (Int32 × fw_S) := fb_g (¬ (x1 < 0 ∨ 4 ≤ x1.toNatClampNeg)) (if ((st_F t 38 x1.toNatClampNeg) - x5) < x2 then b_M_X11_move__0_78 t else b_M_X11_move__0_64 t x1 x2 x3 x4 x5)
def b_M_X11_move__0_46  (t : fw_S) (x1 : Int32) (x2 : Int32) (x3 : Int32) (x4 : Int32) (x5 : Int32) : Option (Int32 × fw_S) := if x4 < 0 then b_M_X11_move__0_78 t else b_M_X11_move__0_51 t x1 x2 x3 x4 x5
def b_M_X11_move__0_42  (t : fw_S) (x1 : Int32) (x2 : Int32) (x3 : Int32) (x4 : Int32) (x5 : Int32) : Option (Int32 × fw_S) := if x2 < 0 then b_M_X11_move__0_78 t else b_M_X11_move__0_46 t x1 x2 x3 x4 x5
def b_M_X11_move__0_37  (t : fw_S) (x1 : Int32) (x2 : Int32) (x3 : Int32) (x4 : Int32) (x5 : Int32) : Option (Int32 × fw_S) := if x5 < 0 then b_M_X11_move__0_78 t else b_M_X11_move__0_42 t x1 x2 x3 x4 x5
def b_M_X11_move__0_25  (t : fw_S) (x1 : Int32) (x2 : Int32) (x3 : Int32) (x4 : Int32) (x5 : Int32) : Option (Int32 × fw_S) := fb_g (¬ (x3 < 0 ∨ 4 ≤ x3.toNatClampNeg)) (if 0 ≤ (st_F t 38 x3.toNatClampNeg) then b_M_X11_move__0_37 t x1 x2 x3 x4 x5 else b_M_X11_move__0_34 t)
def b_M_X11_move__0_16  (t : fw_S) (x1 : Int32) (x2 : Int32) (x3 : Int32) (x4 : Int32) (x5 : Int32) : Option (Int32 × fw_S) := fb_g (¬ (x1 < 0 ∨ 4 ≤ x1.toNatClampNeg)) (if (st_F t 38 x1.toNatClampNeg) < 0 then b_M_X11_move__0_34 t else b_M_X11_move__0_25 t x1 x2 x3 x4 x5)
def b_M_X11_move__0_7  (t : fw_S) (x1 : Int32) (x2 : Int32) (x3 : Int32) (x4 : Int32) (x5 : Int32) : Option (Int32 × fw_S) := fb_b (f_M_X11_isList t x3) fun v_2 t_1 => (if v_2 = 0 then b_M_X11_move__0_14 t_1 else b_M_X11_move__0_16 t_1 x1 x2 x3 x4 x5)
def b_M_X11_move__0_0  (t : fw_S) (x1 : Int32) (x2 : Int32) (x3 : Int32) (x4 : Int32) (x5 : Int32) : Option (Int32 × fw_S) := fb_b (f_M_X11_isList t x1) fun v_2 t_1 => (if v_2 = 0 then b_M_X11_move__0_14 t_1 else b_M_X11_move__0_7 t_1 x1 x2 x3 x4 x5)
def f_M_X11_move__0 (t : fw_S) (x1 : Int32) (x2 : Int32) (x3 : Int32) (x4 : Int32) (x5 : Int32) : Option (Int32 × fw_S) := b_M_X11_move__0_0 t x1 x2 x3 x4 x5
set_option maxRecDepth 20000 in
theorem w_M_X11_move__0_14 {p : Program} {l : Launch} {e : Env} {s : State} {m : MethodId} {args : Array Value} {below : List Frame} {meth : Method} {c : Code} {A : Nat → Prop} {Q : State → Prop} {D : va_G} {ca : Nat → ClassId} {a : Nat → Nat} {u : fw_S} {r : Int32}  (C : CX (WM ca a) D (tyv ca) p s m args c A prog_13_method_84_code 8 RX11) (hr : True → RX (WM ca a) D p l e rm_M_X11_move__0 s m args below meth c A prog_13_method_84_code Q .ireturn [.int r] u) {t : fw_S}  {H : Heap} {locs : List Loc} {ls : Array Slot} (hf : b_M_X11_move__0_14  t  = some (r, u)) (hP : va_P D classes (WM ca a t) H) (hS : va_S A s.heap H locs) (hl : lv_has ls 8 []) : W p l e rm_M_X11_move__0 s m args below meth c H locs 0 0 Q (F0 m 14 ls []) := by
  obtain ⟨hx, hb, hml, hown, hts, hN, hK, hD, hA⟩ := id C
  have hf : (some ((-1 : Int32), t)) = some (r, u) := hf
  refine lv_iconst (v := (-1)) hx hb dX11_move_14 (by decide) ?_
  obtain ⟨e_15, e2_15⟩ := fb_e hf
  subst e_15; subst e2_15
  exact hr trivial _ _ _ _ hP hS dX11_move_15
set_option maxRecDepth 20000 in
theorem w_M_X11_move__0_34 {p : Program} {l : Launch} {e : Env} {s : State} {m : MethodId} {args : Array Value} {below : List Frame} {meth : Method} {c : Code} {A : Nat → Prop} {Q : State → Prop} {D : va_G} {ca : Nat → ClassId} {a : Nat → Nat} {u : fw_S} {r : Int32}  (C : CX (WM ca a) D (tyv ca) p s m args c A prog_13_method_84_code 8 RX11) (hr : True → RX (WM ca a) D p l e rm_M_X11_move__0 s m args below meth c A prog_13_method_84_code Q .ireturn [.int r] u) {t : fw_S}  {H : Heap} {locs : List Loc} {ls : Array Slot} (hf : b_M_X11_move__0_34  t  = some (r, u)) (hP : va_P D classes (WM ca a t) H) (hS : va_S A s.heap H locs) (hl : lv_has ls 8 []) : W p l e rm_M_X11_move__0 s m args below meth c H locs 0 0 Q (F0 m 34 ls []) := by
  obtain ⟨hx, hb, hml, hown, hts, hN, hK, hD, hA⟩ := id C
  have hf : (some ((-11 : Int32), t)) = some (r, u) := hf
  refine lv_bipush (v := (-11)) hx hb dX11_move_34 (by decide) ?_
  obtain ⟨e_36, e2_36⟩ := fb_e hf
  subst e_36; subst e2_36
  exact hr trivial _ _ _ _ hP hS dX11_move_36
set_option maxRecDepth 20000 in
theorem w_M_X11_move__0_78 {p : Program} {l : Launch} {e : Env} {s : State} {m : MethodId} {args : Array Value} {below : List Frame} {meth : Method} {c : Code} {A : Nat → Prop} {Q : State → Prop} {D : va_G} {ca : Nat → ClassId} {a : Nat → Nat} {u : fw_S} {r : Int32}  (C : CX (WM ca a) D (tyv ca) p s m args c A prog_13_method_84_code 8 RX11) (hr : True → RX (WM ca a) D p l e rm_M_X11_move__0 s m args below meth c A prog_13_method_84_code Q .ireturn [.int r] u) {t : fw_S}  {H : Heap} {locs : List Loc} {ls : Array Slot} (hf : b_M_X11_move__0_78  t  = some (r, u)) (hP : va_P D classes (WM ca a t) H) (hS : va_S A s.heap H locs) (hl : lv_has ls 8 []) : W p l e rm_M_X11_move__0 s m args below meth c H locs 0 0 Q (F0 m 78 ls []) := by
  obtain ⟨hx, hb, hml, hown, hts, hN, hK, hD, hA⟩ := id C
  have hf : (some ((-13 : Int32), t)) = some (r, u) := hf
  refine lv_bipush (v := (-13)) hx hb dX11_move_78 (by decide) ?_
  obtain ⟨e_80, e2_80⟩ := fb_e hf
  subst e_80; subst e2_80
  exact hr trivial _ _ _ _ hP hS dX11_move_80
set_option maxRecDepth 20000 in
theorem w_M_X11_move__0_146 {p : Program} {l : Launch} {e : Env} {s : State} {m : MethodId} {args : Array Value} {below : List Frame} {meth : Method} {c : Code} {A : Nat → Prop} {Q : State → Prop} {D : va_G} {ca : Nat → ClassId} {a : Nat → Nat} {u : fw_S} {r : Int32}  (C : CX (WM ca a) D (tyv ca) p s m args c A prog_13_method_84_code 8 RX11) (hr : True → RX (WM ca a) D p l e rm_M_X11_move__0 s m args below meth c A prog_13_method_84_code Q .ireturn [.int r] u) {t : fw_S} {x5 : Int32} {H : Heap} {locs : List Loc} {ls : Array Slot} (hf : b_M_X11_move__0_146  t x5 = some (r, u)) (hP : va_P D classes (WM ca a t) H) (hS : va_S A s.heap H locs) (hl : lv_has ls 8 [(5, .int x5)]) : W p l e rm_M_X11_move__0 s m args below meth c H locs 0 0 Q (F0 m 146 ls []) := by
  obtain ⟨hx, hb, hml, hown, hts, hN, hK, hD, hA⟩ := id C
  have hf : (some (x5, t)) = some (r, u) := hf
  refine lv_iload hx hb dX11_move_146 (lv_at hl 0 rfl) ?_
  obtain ⟨e_148, e2_148⟩ := fb_e hf
  subst e_148; subst e2_148
  exact hr trivial _ _ _ _ hP hS dX11_move_148
set_option maxRecDepth 20000 in
theorem w_M_X11_move__0_109 {p : Program} {l : Launch} {e : Env} {s : State} {m : MethodId} {args : Array Value} {below : List Frame} {meth : Method} {c : Code} {A : Nat → Prop} {Q : State → Prop} {D : va_G} {ca : Nat → ClassId} {a : Nat → Nat} {u : fw_S} {r : Int32} {k84 : fw_S → Int32 → Int32 → Int32 → Int32 → Int32 → Int32 → Option (Int32 × fw_S)} (C : CX (WM ca a) D (tyv ca) p s m args c A prog_13_method_84_code 8 RX11) (hr : True → RX (WM ca a) D p l e rm_M_X11_move__0 s m args below meth c A prog_13_method_84_code Q .ireturn [.int r] u) (hk84 : ∀ (t : fw_S) (x1 : Int32) (x2 : Int32) (x3 : Int32) (x4 : Int32) (x5 : Int32) (x6 : Int32) (H : Heap) (locs : List Loc) (ls : Array Slot), k84 t x1 x2 x3 x4 x5 x6 = some (r, u) → va_P D classes (WM ca a t) H → va_S A s.heap H locs → lv_has ls 8 [(0, .ref (a 0)), (1, .int x1), (2, .int x2), (3, .int x3), (4, .int x4), (5, .int x5), (6, .int x6)] → W p l e rm_M_X11_move__0 s m args below meth c H locs 0 0 Q (F0 m 84 ls [])) {t : fw_S} {x1 : Int32} {x2 : Int32} {x3 : Int32} {x4 : Int32} {x5 : Int32} {x6 : Int32} {z0 : Int32} {H : Heap} {locs : List Loc} {ls : Array Slot} (hf : b_M_X11_move__0_109 k84 t x1 x2 x3 x4 x5 x6 z0 = some (r, u)) (hP : va_P D classes (WM ca a t) H) (hS : va_S A s.heap H locs) (hl : lv_has ls 8 [(0, .ref (a 0)), (1, .int x1), (2, .int x2), (3, .int x3), (4, .int x4), (5, .int x5), (6, .int x6)]) : W p l e rm_M_X11_move__0 s m args below meth c H locs 0 0 Q (F0 m 109 ls [.int z0]) := by
  obtain ⟨hx, hb, hml, hown, hts, hN, hK, hD, hA⟩ := id C
  have hf : (fb_g (¬ ((((((40 : Int32)) * x1) + x2) + z0) < 0 ∨ 160 ≤ (((((40 : Int32)) * x1) + x2) + z0).toNatClampNeg)) (fb_g (¬ ((((((40 : Int32)) * x3) + x4) + z0) < 0 ∨ 160 ≤ (((((40 : Int32)) * x3) + x4) + z0).toNatClampNeg)) (fb_l (up_G t 7 (vp_updL (st_G t 7) (((((40 : Int32)) * x3) + x4) + z0).toNatClampNeg (st_G t 7 (((((40 : Int32)) * x1) + x2) + z0).toNatClampNeg))) fun t_1 => (k84 t_1 x1 x2 x3 x4 x5 (x6 + 1))))) = some (r, u) := hf
  refine lv_istore (lv' := [(7, .int z0), (0, .ref (a 0)), (1, .int x1), (2, .int x2), (3, .int x3), (4, .int x4), (5, .int x5), (6, .int x6)]) hx hb dX11_move_109 hl (by decide) rfl (fun ls hl => ?_)
  refine lv_aload_n hx hb dX11_move_111 rfl (lv_at hl 1 rfl) ?_
  refine va_get (D := D) (ci := 11) (v := .ref (a 46)) (C := RX11) (T := TX11) (N := 76) hx hb hts inX11 hown hK hP 0 (heM_0 ca a t) rfl 63 (by decide) (hts _ kw_1255) (fun _ h9 => h9) rfl dX11_move_112 ?_
  refine lv_bipush (v := 40) hx hb dX11_move_115 (by decide) ?_
  refine lv_iload_n hx hb dX11_move_117 rfl (lv_at hl 4 rfl) ?_
  refine lv_imul hx hb dX11_move_118 ?_
  refine lv_iload hx hb dX11_move_119 (lv_at hl 5 rfl) ?_
  refine lv_iadd hx hb dX11_move_121 ?_
  refine lv_iload hx hb dX11_move_122 (lv_at hl 0 rfl) ?_
  refine lv_iadd hx hb dX11_move_124 ?_
  refine lv_aload_n hx hb dX11_move_125 rfl (lv_at hl 1 rfl) ?_
  refine va_get (D := D) (ci := 11) (v := .ref (a 46)) (C := RX11) (T := TX11) (N := 76) hx hb hts inX11 hown hK hP 0 (heM_0 ca a t) rfl 63 (by decide) (hts _ kw_1255) (fun _ h9 => h9) rfl dX11_move_126 ?_
  refine lv_bipush (v := 40) hx hb dX11_move_129 (by decide) ?_
  refine lv_iload_n hx hb dX11_move_131 rfl (lv_at hl 2 rfl) ?_
  refine lv_imul hx hb dX11_move_132 ?_
  refine lv_iload_n hx hb dX11_move_133 rfl (lv_at hl 3 rfl) ?_
  refine lv_iadd hx hb dX11_move_134 ?_
  refine lv_iload hx hb dX11_move_135 (lv_at hl 0 rfl) ?_
  refine lv_iadd hx hb dX11_move_137 ?_
  obtain ⟨h_138, hf⟩ := fb_if hf
  refine va_lald hx hb hK hP 46 1 (haM_46 ca a t) rfl h_138 dX11_move_138 ?_
  obtain ⟨h_139, hf⟩ := fb_if hf
  refine va_last hx hb hK hP (hD t) hS 46 1 (haM_46 ca a t) rfl h_139 dX11_move_139 (fun H locs hP _ hS => ?_)
  rw [saM_46] at hP
  obtain ⟨t_1, e_139, hf⟩ := fb_ls hf
  rw [← e_139] at hP
  refine lv_iinc (v := x6 + 1) (lv' := [(6, .int (x6 + 1)), (7, .int z0), (0, .ref (a 0)), (1, .int x1), (2, .int x2), (3, .int x3), (4, .int x4), (5, .int x5)]) hx hb dX11_move_140 hl (k := 7) rfl rfl (by decide) rfl (fun ls hl => ?_)
  refine lv_goto (tgt := 84) hx hb dX11_move_143 (by decide) ?_
  exact hk84 t_1 x1 x2 x3 x4 x5 (x6 + 1) _ _ _ hf hP hS (lv_sub hl [2, 3, 4, 5, 6, 7, 0] rfl)
set_option maxRecDepth 20000 in
theorem w_M_X11_move__0_107 {p : Program} {l : Launch} {e : Env} {s : State} {m : MethodId} {args : Array Value} {below : List Frame} {meth : Method} {c : Code} {A : Nat → Prop} {Q : State → Prop} {D : va_G} {ca : Nat → ClassId} {a : Nat → Nat} {u : fw_S} {r : Int32} {k84 : fw_S → Int32 → Int32 → Int32 → Int32 → Int32 → Int32 → Option (Int32 × fw_S)} (C : CX (WM ca a) D (tyv ca) p s m args c A prog_13_method_84_code 8 RX11) (hr : True → RX (WM ca a) D p l e rm_M_X11_move__0 s m args below meth c A prog_13_method_84_code Q .ireturn [.int r] u) (hk84 : ∀ (t : fw_S) (x1 : Int32) (x2 : Int32) (x3 : Int32) (x4 : Int32) (x5 : Int32) (x6 : Int32) (H : Heap) (locs : List Loc) (ls : Array Slot), k84 t x1 x2 x3 x4 x5 x6 = some (r, u) → va_P D classes (WM ca a t) H → va_S A s.heap H locs → lv_has ls 8 [(0, .ref (a 0)), (1, .int x1), (2, .int x2), (3, .int x3), (4, .int x4), (5, .int x5), (6, .int x6)] → W p l e rm_M_X11_move__0 s m args below meth c H locs 0 0 Q (F0 m 84 ls [])) {t : fw_S} {x1 : Int32} {x2 : Int32} {x3 : Int32} {x4 : Int32} {x5 : Int32} {x6 : Int32} {H : Heap} {locs : List Loc} {ls : Array Slot} (hf : b_M_X11_move__0_107 k84 t x1 x2 x3 x4 x5 x6 = some (r, u)) (hP : va_P D classes (WM ca a t) H) (hS : va_S A s.heap H locs) (hl : lv_has ls 8 [(0, .ref (a 0)), (1, .int x1), (2, .int x2), (3, .int x3), (4, .int x4), (5, .int x5), (6, .int x6)]) : W p l e rm_M_X11_move__0 s m args below meth c H locs 0 0 Q (F0 m 107 ls []) := by
  obtain ⟨hx, hb, hml, hown, hts, hN, hK, hD, hA⟩ := id C
  have hf : (b_M_X11_move__0_109 k84 t x1 x2 x3 x4 x5 x6 x6) = some (r, u) := hf
  refine lv_iload hx hb dX11_move_107 (lv_at hl 6 rfl) ?_
  exact w_M_X11_move__0_109 C hr hk84 hf hP hS (lv_sub hl [0, 1, 2, 3, 4, 5, 6] rfl)
set_option maxRecDepth 20000 in
theorem w_M_X11_move__0_97 {p : Program} {l : Launch} {e : Env} {s : State} {m : MethodId} {args : Array Value} {below : List Frame} {meth : Method} {c : Code} {A : Nat → Prop} {Q : State → Prop} {D : va_G} {ca : Nat → ClassId} {a : Nat → Nat} {u : fw_S} {r : Int32} {k84 : fw_S → Int32 → Int32 → Int32 → Int32 → Int32 → Int32 → Option (Int32 × fw_S)} (C : CX (WM ca a) D (tyv ca) p s m args c A prog_13_method_84_code 8 RX11) (hr : True → RX (WM ca a) D p l e rm_M_X11_move__0 s m args below meth c A prog_13_method_84_code Q .ireturn [.int r] u) (hk84 : ∀ (t : fw_S) (x1 : Int32) (x2 : Int32) (x3 : Int32) (x4 : Int32) (x5 : Int32) (x6 : Int32) (H : Heap) (locs : List Loc) (ls : Array Slot), k84 t x1 x2 x3 x4 x5 x6 = some (r, u) → va_P D classes (WM ca a t) H → va_S A s.heap H locs → lv_has ls 8 [(0, .ref (a 0)), (1, .int x1), (2, .int x2), (3, .int x3), (4, .int x4), (5, .int x5), (6, .int x6)] → W p l e rm_M_X11_move__0 s m args below meth c H locs 0 0 Q (F0 m 84 ls [])) {t : fw_S} {x1 : Int32} {x2 : Int32} {x3 : Int32} {x4 : Int32} {x5 : Int32} {x6 : Int32} {H : Heap} {locs : List Loc} {ls : Array Slot} (hf : b_M_X11_move__0_97 k84 t x1 x2 x3 x4 x5 x6 = some (r, u)) (hP : va_P D classes (WM ca a t) H) (hS : va_S A s.heap H locs) (hl : lv_has ls 8 [(0, .ref (a 0)), (1, .int x1), (2, .int x2), (3, .int x3), (4, .int x4), (5, .int x5), (6, .int x6)]) : W p l e rm_M_X11_move__0 s m args below meth c H locs 0 0 Q (F0 m 97 ls []) := by
  obtain ⟨hx, hb, hml, hown, hts, hN, hK, hD, hA⟩ := id C
  have hf : (b_M_X11_move__0_109 k84 t x1 x2 x3 x4 x5 x6 ((x5 - ((1 : Int32))) - x6)) = some (r, u) := hf
  refine lv_iload hx hb dX11_move_97 (lv_at hl 5 rfl) ?_
  refine lv_iconst (v := 1) hx hb dX11_move_99 (by decide) ?_
  refine lv_isub hx hb dX11_move_100 ?_
  refine lv_iload hx hb dX11_move_101 (lv_at hl 6 rfl) ?_
  refine lv_isub hx hb dX11_move_103 ?_
  refine lv_goto (tgt := 109) hx hb dX11_move_104 (by decide) ?_
  exact w_M_X11_move__0_109 C hr hk84 hf hP hS (lv_sub hl [0, 1, 2, 3, 4, 5, 6] rfl)
set_option maxRecDepth 20000 in
theorem w_M_X11_move__0_91 {p : Program} {l : Launch} {e : Env} {s : State} {m : MethodId} {args : Array Value} {below : List Frame} {meth : Method} {c : Code} {A : Nat → Prop} {Q : State → Prop} {D : va_G} {ca : Nat → ClassId} {a : Nat → Nat} {u : fw_S} {r : Int32} {k84 : fw_S → Int32 → Int32 → Int32 → Int32 → Int32 → Int32 → Option (Int32 × fw_S)} (C : CX (WM ca a) D (tyv ca) p s m args c A prog_13_method_84_code 8 RX11) (hr : True → RX (WM ca a) D p l e rm_M_X11_move__0 s m args below meth c A prog_13_method_84_code Q .ireturn [.int r] u) (hk84 : ∀ (t : fw_S) (x1 : Int32) (x2 : Int32) (x3 : Int32) (x4 : Int32) (x5 : Int32) (x6 : Int32) (H : Heap) (locs : List Loc) (ls : Array Slot), k84 t x1 x2 x3 x4 x5 x6 = some (r, u) → va_P D classes (WM ca a t) H → va_S A s.heap H locs → lv_has ls 8 [(0, .ref (a 0)), (1, .int x1), (2, .int x2), (3, .int x3), (4, .int x4), (5, .int x5), (6, .int x6)] → W p l e rm_M_X11_move__0 s m args below meth c H locs 0 0 Q (F0 m 84 ls [])) {t : fw_S} {x1 : Int32} {x2 : Int32} {x3 : Int32} {x4 : Int32} {x5 : Int32} {x6 : Int32} {H : Heap} {locs : List Loc} {ls : Array Slot} (hf : b_M_X11_move__0_91 k84 t x1 x2 x3 x4 x5 x6 = some (r, u)) (hP : va_P D classes (WM ca a t) H) (hS : va_S A s.heap H locs) (hl : lv_has ls 8 [(0, .ref (a 0)), (1, .int x1), (2, .int x2), (3, .int x3), (4, .int x4), (5, .int x5), (6, .int x6)]) : W p l e rm_M_X11_move__0 s m args below meth c H locs 0 0 Q (F0 m 91 ls []) := by
  obtain ⟨hx, hb, hml, hown, hts, hN, hK, hD, hA⟩ := id C
  have hf : (if x4 ≤ x2 then b_M_X11_move__0_107 k84 t x1 x2 x3 x4 x5 x6 else b_M_X11_move__0_97 k84 t x1 x2 x3 x4 x5 x6) = some (r, u) := hf
  refine lv_iload_n hx hb dX11_move_91 rfl (lv_at hl 2 rfl) ?_
  refine lv_iload hx hb dX11_move_92 (lv_at hl 4 rfl) ?_
  refine lv_icmp_ge (tgt := 107) hx hb dX11_move_94 (by decide) (fun h_94 => ?_) (fun h_94 => ?_)
  · have hf := fb_t h_94 hf
    exact w_M_X11_move__0_107 C hr hk84 hf hP hS (lv_sub hl [0, 1, 2, 3, 4, 5, 6] rfl)
  · have hf := fb_f h_94 hf
    exact w_M_X11_move__0_97 C hr hk84 hf hP hS (lv_sub hl [0, 1, 2, 3, 4, 5, 6] rfl)
set_option maxRecDepth 20000 in
theorem w_M_X11_move__0_84 {p : Program} {l : Launch} {e : Env} {s : State} {m : MethodId} {args : Array Value} {below : List Frame} {meth : Method} {c : Code} {A : Nat → Prop} {Q : State → Prop} {D : va_G} {ca : Nat → ClassId} {a : Nat → Nat} {u : fw_S} {r : Int32}  (C : CX (WM ca a) D (tyv ca) p s m args c A prog_13_method_84_code 8 RX11) (hr : True → RX (WM ca a) D p l e rm_M_X11_move__0 s m args below meth c A prog_13_method_84_code Q .ireturn [.int r] u) : ∀ (n : Nat) (t : fw_S) (x1 : Int32) (x2 : Int32) (x3 : Int32) (x4 : Int32) (x5 : Int32) (x6 : Int32) (H : Heap) (locs : List Loc) (ls : Array Slot), b_M_X11_move__0_84  n t x1 x2 x3 x4 x5 x6 = some (r, u) → va_P D classes (WM ca a t) H → va_S A s.heap H locs → lv_has ls 8 [(0, .ref (a 0)), (1, .int x1), (2, .int x2), (3, .int x3), (4, .int x4), (5, .int x5), (6, .int x6)] → W p l e rm_M_X11_move__0 s m args below meth c H locs 0 0 Q (F0 m 84 ls []) := by
  obtain ⟨hx, hb, hml, hown, hts, hN, hK, hD, hA⟩ := id C
  intro n
  induction n with
  | zero => intro t x1 x2 x3 x4 x5 x6 H locs ls hf; cases hf
  | succ n hk84 =>
    intro t x1 x2 x3 x4 x5 x6 H locs ls hf hP hS hl
    have hf : (if x5 ≤ x6 then b_M_X11_move__0_146 t x5 else b_M_X11_move__0_91 (b_M_X11_move__0_84 n) t x1 x2 x3 x4 x5 x6) = some (r, u) := hf
    refine lv_iload hx hb dX11_move_84 (lv_at hl 6 rfl) ?_
    refine lv_iload hx hb dX11_move_86 (lv_at hl 5 rfl) ?_
    refine lv_icmp_ge (tgt := 146) hx hb dX11_move_88 (by decide) (fun h_88 => ?_) (fun h_88 => ?_)
    · have hf := fb_t h_88 hf
      exact w_M_X11_move__0_146 C hr hf hP hS (lv_sub hl [5] rfl)
    · have hf := fb_f h_88 hf
      exact w_M_X11_move__0_91 C hr hk84 hf hP hS (lv_sub hl [0, 1, 2, 3, 4, 5, 6] rfl)
set_option maxRecDepth 20000 in
theorem w_M_X11_move__0_81 {p : Program} {l : Launch} {e : Env} {s : State} {m : MethodId} {args : Array Value} {below : List Frame} {meth : Method} {c : Code} {A : Nat → Prop} {Q : State → Prop} {D : va_G} {ca : Nat → ClassId} {a : Nat → Nat} {u : fw_S} {r : Int32}  (C : CX (WM ca a) D (tyv ca) p s m args c A prog_13_method_84_code 8 RX11) (hr : True → RX (WM ca a) D p l e rm_M_X11_move__0 s m args below meth c A prog_13_method_84_code Q .ireturn [.int r] u) {t : fw_S} {x1 : Int32} {x2 : Int32} {x3 : Int32} {x4 : Int32} {x5 : Int32} {H : Heap} {locs : List Loc} {ls : Array Slot} (hf : b_M_X11_move__0_81  t x1 x2 x3 x4 x5 = some (r, u)) (hP : va_P D classes (WM ca a t) H) (hS : va_S A s.heap H locs) (hl : lv_has ls 8 [(0, .ref (a 0)), (1, .int x1), (2, .int x2), (3, .int x3), (4, .int x4), (5, .int x5)]) : W p l e rm_M_X11_move__0 s m args below meth c H locs 0 0 Q (F0 m 81 ls []) := by
  obtain ⟨hx, hb, hml, hown, hts, hN, hK, hD, hA⟩ := id C
  have hf : (b_M_X11_move__0_84 3000 t x1 x2 x3 x4 x5 ((0 : Int32))) = some (r, u) := hf
  refine lv_iconst (v := 0) hx hb dX11_move_81 (by decide) ?_
  refine lv_istore (lv' := [(6, .int ((0 : Int32))), (0, .ref (a 0)), (1, .int x1), (2, .int x2), (3, .int x3), (4, .int x4), (5, .int x5)]) hx hb dX11_move_82 hl (by decide) rfl (fun ls hl => ?_)
  exact w_M_X11_move__0_84 C hr 3000 t x1 x2 x3 x4 x5 ((0 : Int32)) _ _ _ hf hP hS (lv_sub hl [1, 2, 3, 4, 5, 6, 0] rfl)
set_option maxRecDepth 20000 in
theorem w_M_X11_move__0_64 {p : Program} {l : Launch} {e : Env} {s : State} {m : MethodId} {args : Array Value} {below : List Frame} {meth : Method} {c : Code} {A : Nat → Prop} {Q : State → Prop} {D : va_G} {ca : Nat → ClassId} {a : Nat → Nat} {u : fw_S} {r : Int32}  (C : CX (WM ca a) D (tyv ca) p s m args c A prog_13_method_84_code 8 RX11) (hr : True → RX (WM ca a) D p l e rm_M_X11_move__0 s m args below meth c A prog_13_method_84_code Q .ireturn [.int r] u) {t : fw_S} {x1 : Int32} {x2 : Int32} {x3 : Int32} {x4 : Int32} {x5 : Int32} {H : Heap} {locs : List Loc} {ls : Array Slot} (hf : b_M_X11_move__0_64  t x1 x2 x3 x4 x5 = some (r, u)) (hP : va_P D classes (WM ca a t) H) (hS : va_S A s.heap H locs) (hl : lv_has ls 8 [(0, .ref (a 0)), (1, .int x1), (2, .int x2), (3, .int x3), (4, .int x4), (5, .int x5)]) : W p l e rm_M_X11_move__0 s m args below meth c H locs 0 0 Q (F0 m 64 ls []) := by
  obtain ⟨hx, hb, hml, hown, hts, hN, hK, hD, hA⟩ := id C
  have hf : (fb_g (¬ (x3 < 0 ∨ 4 ≤ x3.toNatClampNeg)) (if x4 ≤ ((st_F t 38 x3.toNatClampNeg) - x5) then b_M_X11_move__0_81 t x1 x2 x3 x4 x5 else b_M_X11_move__0_78 t)) = some (r, u) := hf
  refine lv_iload hx hb dX11_move_64 (lv_at hl 4 rfl) ?_
  refine lv_aload_n hx hb dX11_move_66 rfl (lv_at hl 0 rfl) ?_
  refine va_get (D := D) (ci := 11) (v := .ref (a 47)) (C := RX11) (T := TX11) (N := 76) hx hb hts inX11 hown hK hP 0 (heM_0 ca a t) rfl 64 (by decide) (hts _ kw_1256) (fun _ h9 => h9) rfl dX11_move_67 ?_
  refine lv_iload_n hx hb dX11_move_70 rfl (lv_at hl 3 rfl) ?_
  obtain ⟨h_71, hf⟩ := fb_if hf
  refine va_iald hx hb hK hP 47 0 (haM_47 ca a t) rfl h_71 dX11_move_71 ?_
  refine lv_iload hx hb dX11_move_72 (lv_at hl 5 rfl) ?_
  refine lv_isub hx hb dX11_move_74 ?_
  refine lv_icmp_le (tgt := 81) hx hb dX11_move_75 (by decide) (fun h_75 => ?_) (fun h_75 => ?_)
  · have hf := fb_t h_75 hf
    exact w_M_X11_move__0_81 C hr hf hP hS (lv_sub hl [0, 1, 2, 3, 4, 5] rfl)
  · have hf := fb_f h_75 hf
    exact w_M_X11_move__0_78 C hr hf hP hS (lv_sub hl [] rfl)
set_option maxRecDepth 20000 in
theorem w_M_X11_move__0_51 {p : Program} {l : Launch} {e : Env} {s : State} {m : MethodId} {args : Array Value} {below : List Frame} {meth : Method} {c : Code} {A : Nat → Prop} {Q : State → Prop} {D : va_G} {ca : Nat → ClassId} {a : Nat → Nat} {u : fw_S} {r : Int32}  (C : CX (WM ca a) D (tyv ca) p s m args c A prog_13_method_84_code 8 RX11) (hr : True → RX (WM ca a) D p l e rm_M_X11_move__0 s m args below meth c A prog_13_method_84_code Q .ireturn [.int r] u) {t : fw_S} {x1 : Int32} {x2 : Int32} {x3 : Int32} {x4 : Int32} {x5 : Int32} {H : Heap} {locs : List Loc} {ls : Array Slot} (hf : b_M_X11_move__0_51  t x1 x2 x3 x4 x5 = some (r, u)) (hP : va_P D classes (WM ca a t) H) (hS : va_S A s.heap H locs) (hl : lv_has ls 8 [(0, .ref (a 0)), (1, .int x1), (2, .int x2), (3, .int x3), (4, .int x4), (5, .int x5)]) : W p l e rm_M_X11_move__0 s m args below meth c H locs 0 0 Q (F0 m 51 ls []) := by
  obtain ⟨hx, hb, hml, hown, hts, hN, hK, hD, hA⟩ := id C
  have hf : (fb_g (¬ (x1 < 0 ∨ 4 ≤ x1.toNatClampNeg)) (if ((st_F t 38 x1.toNatClampNeg) - x5) < x2 then b_M_X11_move__0_78 t else b_M_X11_move__0_64 t x1 x2 x3 x4 x5)) = some (r, u) := hf
  refine lv_iload_n hx hb dX11_move_51 rfl (lv_at hl 2 rfl) ?_
  refine lv_aload_n hx hb dX11_move_52 rfl (lv_at hl 0 rfl) ?_
  refine va_get (D := D) (ci := 11) (v := .ref (a 47)) (C := RX11) (T := TX11) (N := 76) hx hb hts inX11 hown hK hP 0 (heM_0 ca a t) rfl 64 (by decide) (hts _ kw_1256) (fun _ h9 => h9) rfl dX11_move_53 ?_
  refine lv_iload_n hx hb dX11_move_56 rfl (lv_at hl 1 rfl) ?_
  obtain ⟨h_57, hf⟩ := fb_if hf
  refine va_iald hx hb hK hP 47 0 (haM_47 ca a t) rfl h_57 dX11_move_57 ?_
  refine lv_iload hx hb dX11_move_58 (lv_at hl 5 rfl) ?_
  refine lv_isub hx hb dX11_move_60 ?_
  refine lv_icmp_gt (tgt := 78) hx hb dX11_move_61 (by decide) (fun h_61 => ?_) (fun h_61 => ?_)
  · have hf := fb_t h_61 hf
    exact w_M_X11_move__0_78 C hr hf hP hS (lv_sub hl [] rfl)
  · have hf := fb_f h_61 hf
    exact w_M_X11_move__0_64 C hr hf hP hS (lv_sub hl [0, 1, 2, 3, 4, 5] rfl)
set_option maxRecDepth 20000 in
theorem w_M_X11_move__0_46 {p : Program} {l : Launch} {e : Env} {s : State} {m : MethodId} {args : Array Value} {below : List Frame} {meth : Method} {c : Code} {A : Nat → Prop} {Q : State → Prop} {D : va_G} {ca : Nat → ClassId} {a : Nat → Nat} {u : fw_S} {r : Int32}  (C : CX (WM ca a) D (tyv ca) p s m args c A prog_13_method_84_code 8 RX11) (hr : True → RX (WM ca a) D p l e rm_M_X11_move__0 s m args below meth c A prog_13_method_84_code Q .ireturn [.int r] u) {t : fw_S} {x1 : Int32} {x2 : Int32} {x3 : Int32} {x4 : Int32} {x5 : Int32} {H : Heap} {locs : List Loc} {ls : Array Slot} (hf : b_M_X11_move__0_46  t x1 x2 x3 x4 x5 = some (r, u)) (hP : va_P D classes (WM ca a t) H) (hS : va_S A s.heap H locs) (hl : lv_has ls 8 [(0, .ref (a 0)), (1, .int x1), (2, .int x2), (3, .int x3), (4, .int x4), (5, .int x5)]) : W p l e rm_M_X11_move__0 s m args below meth c H locs 0 0 Q (F0 m 46 ls []) := by
  obtain ⟨hx, hb, hml, hown, hts, hN, hK, hD, hA⟩ := id C
  have hf : (if x4 < 0 then b_M_X11_move__0_78 t else b_M_X11_move__0_51 t x1 x2 x3 x4 x5) = some (r, u) := hf
  refine lv_iload hx hb dX11_move_46 (lv_at hl 4 rfl) ?_
  refine lv_if_lt (tgt := 78) hx hb dX11_move_48 (by decide) (fun h_48 => ?_) (fun h_48 => ?_)
  · have hf := fb_t h_48 hf
    exact w_M_X11_move__0_78 C hr hf hP hS (lv_sub hl [] rfl)
  · have hf := fb_f h_48 hf
    exact w_M_X11_move__0_51 C hr hf hP hS (lv_sub hl [0, 1, 2, 3, 4, 5] rfl)
set_option maxRecDepth 20000 in
theorem w_M_X11_move__0_42 {p : Program} {l : Launch} {e : Env} {s : State} {m : MethodId} {args : Array Value} {below : List Frame} {meth : Method} {c : Code} {A : Nat → Prop} {Q : State → Prop} {D : va_G} {ca : Nat → ClassId} {a : Nat → Nat} {u : fw_S} {r : Int32}  (C : CX (WM ca a) D (tyv ca) p s m args c A prog_13_method_84_code 8 RX11) (hr : True → RX (WM ca a) D p l e rm_M_X11_move__0 s m args below meth c A prog_13_method_84_code Q .ireturn [.int r] u) {t : fw_S} {x1 : Int32} {x2 : Int32} {x3 : Int32} {x4 : Int32} {x5 : Int32} {H : Heap} {locs : List Loc} {ls : Array Slot} (hf : b_M_X11_move__0_42  t x1 x2 x3 x4 x5 = some (r, u)) (hP : va_P D classes (WM ca a t) H) (hS : va_S A s.heap H locs) (hl : lv_has ls 8 [(0, .ref (a 0)), (1, .int x1), (2, .int x2), (3, .int x3), (4, .int x4), (5, .int x5)]) : W p l e rm_M_X11_move__0 s m args below meth c H locs 0 0 Q (F0 m 42 ls []) := by
  obtain ⟨hx, hb, hml, hown, hts, hN, hK, hD, hA⟩ := id C
  have hf : (if x2 < 0 then b_M_X11_move__0_78 t else b_M_X11_move__0_46 t x1 x2 x3 x4 x5) = some (r, u) := hf
  refine lv_iload_n hx hb dX11_move_42 rfl (lv_at hl 2 rfl) ?_
  refine lv_if_lt (tgt := 78) hx hb dX11_move_43 (by decide) (fun h_43 => ?_) (fun h_43 => ?_)
  · have hf := fb_t h_43 hf
    exact w_M_X11_move__0_78 C hr hf hP hS (lv_sub hl [] rfl)
  · have hf := fb_f h_43 hf
    exact w_M_X11_move__0_46 C hr hf hP hS (lv_sub hl [0, 1, 2, 3, 4, 5] rfl)
set_option maxRecDepth 20000 in
theorem w_M_X11_move__0_37 {p : Program} {l : Launch} {e : Env} {s : State} {m : MethodId} {args : Array Value} {below : List Frame} {meth : Method} {c : Code} {A : Nat → Prop} {Q : State → Prop} {D : va_G} {ca : Nat → ClassId} {a : Nat → Nat} {u : fw_S} {r : Int32}  (C : CX (WM ca a) D (tyv ca) p s m args c A prog_13_method_84_code 8 RX11) (hr : True → RX (WM ca a) D p l e rm_M_X11_move__0 s m args below meth c A prog_13_method_84_code Q .ireturn [.int r] u) {t : fw_S} {x1 : Int32} {x2 : Int32} {x3 : Int32} {x4 : Int32} {x5 : Int32} {H : Heap} {locs : List Loc} {ls : Array Slot} (hf : b_M_X11_move__0_37  t x1 x2 x3 x4 x5 = some (r, u)) (hP : va_P D classes (WM ca a t) H) (hS : va_S A s.heap H locs) (hl : lv_has ls 8 [(0, .ref (a 0)), (1, .int x1), (2, .int x2), (3, .int x3), (4, .int x4), (5, .int x5)]) : W p l e rm_M_X11_move__0 s m args below meth c H locs 0 0 Q (F0 m 37 ls []) := by
  obtain ⟨hx, hb, hml, hown, hts, hN, hK, hD, hA⟩ := id C
  have hf : (if x5 < 0 then b_M_X11_move__0_78 t else b_M_X11_move__0_42 t x1 x2 x3 x4 x5) = some (r, u) := hf
  refine lv_iload hx hb dX11_move_37 (lv_at hl 5 rfl) ?_
  refine lv_if_lt (tgt := 78) hx hb dX11_move_39 (by decide) (fun h_39 => ?_) (fun h_39 => ?_)
  · have hf := fb_t h_39 hf
    exact w_M_X11_move__0_78 C hr hf hP hS (lv_sub hl [] rfl)
  · have hf := fb_f h_39 hf
    exact w_M_X11_move__0_42 C hr hf hP hS (lv_sub hl [0, 1, 2, 3, 4, 5] rfl)
set_option maxRecDepth 20000 in
theorem w_M_X11_move__0_25 {p : Program} {l : Launch} {e : Env} {s : State} {m : MethodId} {args : Array Value} {below : List Frame} {meth : Method} {c : Code} {A : Nat → Prop} {Q : State → Prop} {D : va_G} {ca : Nat → ClassId} {a : Nat → Nat} {u : fw_S} {r : Int32}  (C : CX (WM ca a) D (tyv ca) p s m args c A prog_13_method_84_code 8 RX11) (hr : True → RX (WM ca a) D p l e rm_M_X11_move__0 s m args below meth c A prog_13_method_84_code Q .ireturn [.int r] u) {t : fw_S} {x1 : Int32} {x2 : Int32} {x3 : Int32} {x4 : Int32} {x5 : Int32} {H : Heap} {locs : List Loc} {ls : Array Slot} (hf : b_M_X11_move__0_25  t x1 x2 x3 x4 x5 = some (r, u)) (hP : va_P D classes (WM ca a t) H) (hS : va_S A s.heap H locs) (hl : lv_has ls 8 [(0, .ref (a 0)), (1, .int x1), (2, .int x2), (3, .int x3), (4, .int x4), (5, .int x5)]) : W p l e rm_M_X11_move__0 s m args below meth c H locs 0 0 Q (F0 m 25 ls []) := by
  obtain ⟨hx, hb, hml, hown, hts, hN, hK, hD, hA⟩ := id C
  have hf : (fb_g (¬ (x3 < 0 ∨ 4 ≤ x3.toNatClampNeg)) (if 0 ≤ (st_F t 38 x3.toNatClampNeg) then b_M_X11_move__0_37 t x1 x2 x3 x4 x5 else b_M_X11_move__0_34 t)) = some (r, u) := hf
  refine lv_aload_n hx hb dX11_move_25 rfl (lv_at hl 0 rfl) ?_
  refine va_get (D := D) (ci := 11) (v := .ref (a 47)) (C := RX11) (T := TX11) (N := 76) hx hb hts inX11 hown hK hP 0 (heM_0 ca a t) rfl 64 (by decide) (hts _ kw_1256) (fun _ h9 => h9) rfl dX11_move_26 ?_
  refine lv_iload_n hx hb dX11_move_29 rfl (lv_at hl 3 rfl) ?_
  obtain ⟨h_30, hf⟩ := fb_if hf
  refine va_iald hx hb hK hP 47 0 (haM_47 ca a t) rfl h_30 dX11_move_30 ?_
  refine lv_if_ge (tgt := 37) hx hb dX11_move_31 (by decide) (fun h_31 => ?_) (fun h_31 => ?_)
  · have hf := fb_t h_31 hf
    exact w_M_X11_move__0_37 C hr hf hP hS (lv_sub hl [0, 1, 2, 3, 4, 5] rfl)
  · have hf := fb_f h_31 hf
    exact w_M_X11_move__0_34 C hr hf hP hS (lv_sub hl [] rfl)
set_option maxRecDepth 20000 in
theorem w_M_X11_move__0_16 {p : Program} {l : Launch} {e : Env} {s : State} {m : MethodId} {args : Array Value} {below : List Frame} {meth : Method} {c : Code} {A : Nat → Prop} {Q : State → Prop} {D : va_G} {ca : Nat → ClassId} {a : Nat → Nat} {u : fw_S} {r : Int32}  (C : CX (WM ca a) D (tyv ca) p s m args c A prog_13_method_84_code 8 RX11) (hr : True → RX (WM ca a) D p l e rm_M_X11_move__0 s m args below meth c A prog_13_method_84_code Q .ireturn [.int r] u) {t : fw_S} {x1 : Int32} {x2 : Int32} {x3 : Int32} {x4 : Int32} {x5 : Int32} {H : Heap} {locs : List Loc} {ls : Array Slot} (hf : b_M_X11_move__0_16  t x1 x2 x3 x4 x5 = some (r, u)) (hP : va_P D classes (WM ca a t) H) (hS : va_S A s.heap H locs) (hl : lv_has ls 8 [(0, .ref (a 0)), (1, .int x1), (2, .int x2), (3, .int x3), (4, .int x4), (5, .int x5)]) : W p l e rm_M_X11_move__0 s m args below meth c H locs 0 0 Q (F0 m 16 ls []) := by
  obtain ⟨hx, hb, hml, hown, hts, hN, hK, hD, hA⟩ := id C
  have hf : (fb_g (¬ (x1 < 0 ∨ 4 ≤ x1.toNatClampNeg)) (if (st_F t 38 x1.toNatClampNeg) < 0 then b_M_X11_move__0_34 t else b_M_X11_move__0_25 t x1 x2 x3 x4 x5)) = some (r, u) := hf
  refine lv_aload_n hx hb dX11_move_16 rfl (lv_at hl 0 rfl) ?_
  refine va_get (D := D) (ci := 11) (v := .ref (a 47)) (C := RX11) (T := TX11) (N := 76) hx hb hts inX11 hown hK hP 0 (heM_0 ca a t) rfl 64 (by decide) (hts _ kw_1256) (fun _ h9 => h9) rfl dX11_move_17 ?_
  refine lv_iload_n hx hb dX11_move_20 rfl (lv_at hl 1 rfl) ?_
  obtain ⟨h_21, hf⟩ := fb_if hf
  refine va_iald hx hb hK hP 47 0 (haM_47 ca a t) rfl h_21 dX11_move_21 ?_
  refine lv_if_lt (tgt := 34) hx hb dX11_move_22 (by decide) (fun h_22 => ?_) (fun h_22 => ?_)
  · have hf := fb_t h_22 hf
    exact w_M_X11_move__0_34 C hr hf hP hS (lv_sub hl [] rfl)
  · have hf := fb_f h_22 hf
    exact w_M_X11_move__0_25 C hr hf hP hS (lv_sub hl [0, 1, 2, 3, 4, 5] rfl)
set_option maxRecDepth 20000 in
theorem w_M_X11_move__0_7 {p : Program} {l : Launch} {e : Env} {s : State} {m : MethodId} {args : Array Value} {below : List Frame} {meth : Method} {c : Code} {A : Nat → Prop} {Q : State → Prop} {D : va_G} {ca : Nat → ClassId} {a : Nat → Nat} {u : fw_S} {r : Int32}  (C : CX (WM ca a) D (tyv ca) p s m args c A prog_13_method_84_code 8 RX11) (hr : True → RX (WM ca a) D p l e rm_M_X11_move__0 s m args below meth c A prog_13_method_84_code Q .ireturn [.int r] u) {t : fw_S} {x1 : Int32} {x2 : Int32} {x3 : Int32} {x4 : Int32} {x5 : Int32} {H : Heap} {locs : List Loc} {ls : Array Slot} (hf : b_M_X11_move__0_7  t x1 x2 x3 x4 x5 = some (r, u)) (hP : va_P D classes (WM ca a t) H) (hS : va_S A s.heap H locs) (hl : lv_has ls 8 [(0, .ref (a 0)), (1, .int x1), (2, .int x2), (3, .int x3), (4, .int x4), (5, .int x5)]) : W p l e rm_M_X11_move__0 s m args below meth c H locs 0 0 Q (F0 m 7 ls []) := by
  obtain ⟨hx, hb, hml, hown, hts, hN, hK, hD, hA⟩ := id C
  have hf : (fb_b (f_M_X11_isList t x3) fun v_2 t_1 => (if v_2 = 0 then b_M_X11_move__0_14 t_1 else b_M_X11_move__0_16 t_1 x1 x2 x3 x4 x5)) = some (r, u) := hf
  refine lv_iload_n hx hb dX11_move_7 rfl (lv_at hl 3 rfl) ?_
  obtain ⟨v_2, t_1, g_8, hf⟩ := fb_bs hf
  refine fw_S1 (As := [.int x3]) (rest := []) (n := 1) C (c_M_X11_isList (l := l) (D := D) (ca := ca) (a := a) g_8) kw_1737 kw_1738 kw_102 kw_1739 hP hS hl rfl rfl (by decide) (by decide +kernel) ⟨Nat.le_of_ble_eq_true rfl, Nat.le_of_ble_eq_true rfl⟩ rfl rfl (Nat.le_of_ble_eq_true rfl) dX11_move_8 (fun H locs hP hS => ?_)
  refine W.eq (g2 := F0 m 11 ls [.int v_2]) rfl ?_
  refine lv_if_ne (tgt := 16) hx hb dX11_move_11 (by decide) (fun h_11 => ?_) (fun h_11 => ?_)
  · have hf := fb_f h_11 hf
    exact w_M_X11_move__0_16 C hr hf hP hS (lv_sub hl [0, 1, 2, 3, 4, 5] rfl)
  · have hf := fb_t h_11 hf
    exact w_M_X11_move__0_14 C hr hf hP hS (lv_sub hl [] rfl)
set_option maxRecDepth 20000 in
theorem w_M_X11_move__0_0 {p : Program} {l : Launch} {e : Env} {s : State} {m : MethodId} {args : Array Value} {below : List Frame} {meth : Method} {c : Code} {A : Nat → Prop} {Q : State → Prop} {D : va_G} {ca : Nat → ClassId} {a : Nat → Nat} {u : fw_S} {r : Int32}  (C : CX (WM ca a) D (tyv ca) p s m args c A prog_13_method_84_code 8 RX11) (hr : True → RX (WM ca a) D p l e rm_M_X11_move__0 s m args below meth c A prog_13_method_84_code Q .ireturn [.int r] u) {t : fw_S} {x1 : Int32} {x2 : Int32} {x3 : Int32} {x4 : Int32} {x5 : Int32} {H : Heap} {locs : List Loc} {ls : Array Slot} (hf : b_M_X11_move__0_0  t x1 x2 x3 x4 x5 = some (r, u)) (hP : va_P D classes (WM ca a t) H) (hS : va_S A s.heap H locs) (hl : lv_has ls 8 [(0, .ref (a 0)), (1, .int x1), (2, .int x2), (3, .int x3), (4, .int x4), (5, .int x5)]) : W p l e rm_M_X11_move__0 s m args below meth c H locs 0 0 Q (F0 m 0 ls []) := by
  obtain ⟨hx, hb, hml, hown, hts, hN, hK, hD, hA⟩ := id C
  have hf : (fb_b (f_M_X11_isList t x1) fun v_2 t_1 => (if v_2 = 0 then b_M_X11_move__0_14 t_1 else b_M_X11_move__0_7 t_1 x1 x2 x3 x4 x5)) = some (r, u) := hf
  refine lv_iload_n hx hb dX11_move_0 rfl (lv_at hl 1 rfl) ?_
  obtain ⟨v_2, t_1, g_1, hf⟩ := fb_bs hf
  refine fw_S1 (As := [.int x1]) (rest := []) (n := 1) C (c_M_X11_isList (l := l) (D := D) (ca := ca) (a := a) g_1) kw_1737 kw_1738 kw_102 kw_1739 hP hS hl rfl rfl (by decide) (by decide +kernel) ⟨Nat.le_of_ble_eq_true rfl, Nat.le_of_ble_eq_true rfl⟩ rfl rfl (Nat.le_of_ble_eq_true rfl) dX11_move_1 (fun H locs hP hS => ?_)
  refine W.eq (g2 := F0 m 4 ls [.int v_2]) rfl ?_
  refine lv_if_eq (tgt := 14) hx hb dX11_move_4 (by decide) (fun h_4 => ?_) (fun h_4 => ?_)
  · have hf := fb_t h_4 hf
    exact w_M_X11_move__0_14 C hr hf hP hS (lv_sub hl [] rfl)
  · have hf := fb_f h_4 hf
    exact w_M_X11_move__0_7 C hr hf hP hS (lv_sub hl [0, 1, 2, 3, 4, 5] rfl)
set_option maxRecDepth 20000 in
theorem c_M_X11_move__0 {l : Launch} {D : va_G} {ca : Nat → ClassId} {a : Nat → Nat} {t : fw_S} {x1 : Int32} {x2 : Int32} {x3 : Int32} {x4 : Int32} {x5 : Int32} {u : fw_S} {r : Int32} (hf : f_M_X11_move__0 t x1 x2 x3 x4 x5 = some (r, u)) : MC (WM ca a) D (tyv ca) l yX11_move (.code yX11_move prog_13_method_84_code 8 (some .int) :: lw_gd) rm_M_X11_move__0 [.ref (a 0), .int x1, .int x2, .int x3, .int x4, .int x5] (some (.int r)) t u := by
  refine fw_met (okM ca a) (by decide +kernel) rfl rfl (Nat.le_of_ble_eq_true rfl) ?_
  intro p e s m args below meth c A Q ls C hr hk hP hS hl hQ
  exact w_M_X11_move__0_0 C (fun _ => fw_ri C hr hk hQ) hf hP hS (lv_sub hl [0, 1, 2, 3, 4, 5] rfl)
/-! ReactiveSheetModel.fill(IIII)I ['m'] -/
abbrev rm_M_X11_fill__0 : Room := { frames := 2, cells := 0, slots := 0, locals := 42 }
def b_M_X11_fill__0_14  (t : fw_S)  : Option (Int32 × fw_S) := some ((-1 : Int32), t)
def b_M_X11_fill__0_30  (t : fw_S)  : Option (Int32 × fw_S) := some ((-2 : Int32), t)
def b_M_X11_fill__0_135  (t : fw_S) (x4 : Int32) : Option (Int32 × fw_S) := some (x4, t)
def b_M_X11_fill__0_74  (t : fw_S)  : Option (Int32 × fw_S) := some ((-13 : Int32), t)
def b_M_X11_fill__0_128 (k48 : fw_S → Int32 → Int32 → Int32 → Int32 → Int32 → Option (Int32 × fw_S)) (t : fw_S) (x1 : Int32) (x2 : Int32) (x3 : Int32) (x4 : Int32) (x5 : Int32) (z1 : Int32) (w2 : Int64) : Option (Int32 × fw_S) := fb_g (¬ (z1 < 0 ∨ 160 ≤ z1.toNatClampNeg)) (fb_l (up_G t 7 (vp_updL (st_G t 7) z1.toNatClampNeg w2)) fun t_1 => (k48 t_1 x1 x2 x3 x4 (x5 + 1)))
def b_M_X11_fill__0_119 (k48 : fw_S → Int32 → Int32 → Int32 → Int32 → Int32 → Option (Int32 × fw_S)) (t : fw_S) (x1 : Int32) (x2 : Int32) (x3 : Int32) (x4 : Int32) (x5 : Int32) (z1 : Int32) : Option (Int32 × fw_S) := fb_g (¬ ((x3 + x5) < 0 ∨ 32 ≤ (x3 + x5).toNatClampNeg)) (b_M_X11_fill__0_128 k48 t x1 x2 x3 x4 x5 z1 (st_G t 0 (x3 + x5).toNatClampNeg))
def b_M_X11_fill__0_102 (k48 : fw_S → Int32 → Int32 → Int32 → Int32 → Int32 → Option (Int32 × fw_S)) (t : fw_S) (x1 : Int32) (x2 : Int32) (x3 : Int32) (x4 : Int32) (x5 : Int32) (z1 : Int32) : Option (Int32 × fw_S) := fb_g (¬ ((x3 + x5) < 0 ∨ 32 ≤ (x3 + x5).toNatClampNeg)) (b_M_X11_fill__0_128 k48 t x1 x2 x3 x4 x5 z1 (((-9223372036854775808 : Int64)) + ((st_F t 1 (x3 + x5).toNatClampNeg).toInt64)))
def b_M_X11_fill__0_77 (k48 : fw_S → Int32 → Int32 → Int32 → Int32 → Int32 → Option (Int32 × fw_S)) (t : fw_S) (x1 : Int32) (x2 : Int32) (x3 : Int32) (x4 : Int32) (x5 : Int32) : Option (Int32 × fw_S) := fb_g (¬ ((x3 + x5) < 0 ∨ 32 ≤ (x3 + x5).toNatClampNeg)) (if (st_F t 1 (x3 + x5).toNatClampNeg) = 0 then b_M_X11_fill__0_119 k48 t x1 x2 x3 x4 x5 (((((40 : Int32)) * x1) + x2) + x5) else b_M_X11_fill__0_102 k48 t x1 x2 x3 x4 x5 (((((40 : Int32)) * x1) + x2) + x5))
def b_M_X11_fill__0_59 (k48 : fw_S → Int32 → Int32 → Int32 → Int32 → Int32 → Option (Int32 × fw_S)) (t : fw_S) (x1 : Int32) (x2 : Int32) (x3 : Int32) (x4 : Int32) (x5 : Int32) : Option (Int32 × fw_S) := fb_g (¬ (x1 < 0 ∨ 4 ≤ x1.toNatClampNeg)) (if x2 ≤ (((st_F t 38 x1.toNatClampNeg) - ((1 : Int32))) - x5) then b_M_X11_fill__0_77 k48 t x1 x2 x3 x4 x5 else b_M_X11_fill__0_74 t)
def b_M_X11_fill__0_55 (k48 : fw_S → Int32 → Int32 → Int32 → Int32 → Int32 → Option (Int32 × fw_S)) (t : fw_S) (x1 : Int32) (x2 : Int32) (x3 : Int32) (x4 : Int32) (x5 : Int32) : Option (Int32 × fw_S) := if x2 < 0 then b_M_X11_fill__0_74 t else b_M_X11_fill__0_59 k48 t x1 x2 x3 x4 x5
def b_M_X11_fill__0_48  : Nat → (fw_S → Int32 → Int32 → Int32 → Int32 → Int32 → Option (Int32 × fw_S))
  | 0 => fun _ _ _ _ _ _ => none
  | n + 1 => fun t x1 x2 x3 x4 x5 => if x4 ≤ x5 then b_M_X11_fill__0_135 t x4 else b_M_X11_fill__0_55 (b_M_X11_fill__0_48 n) t x1 x2 x3 x4 x5
def b_M_X11_fill__0_45  (t : fw_S) (x1 : Int32) (x2 : Int32) (x3 : Int32) (x4 : Int32) : Option (Int32 × fw_S) := b_M_X11_fill__0_48 3000 t x1 x2 x3 x4 ((0 : Int32))
def b_M_X11_fill__0_42  (t : fw_S)  : Option (Int32 × fw_S) := some ((-11 : Int32), t)
def b_M_X11_fill__0_33  (t : fw_S) (x1 : Int32) (x2 : Int32) (x3 : Int32) (x4 : Int32) : Option (Int32 × fw_S) := fb_g (¬ (x1 < 0 ∨ 4 ≤ x1.toNatClampNeg)) (if 0 ≤ (st_F t 38 x1.toNatClampNeg) then b_M_X11_fill__0_45 t x1 x2 x3 x4 else b_M_X11_fill__0_42 t)
def b_M_X11_fill__0_21  (t : fw_S) (x1 : Int32) (x2 : Int32) (x3 : Int32) (x4 : Int32) : Option (Int32 × fw_S) := if x4 ≤ (((32 : Int32)) - x3) then b_M_X11_fill__0_33 t x1 x2 x3 x4 else b_M_X11_fill__0_30 t
def b_M_X11_fill__0_16  (t : fw_S) (x1 : Int32) (x2 : Int32) (x3 : Int32) (x4 : Int32) : Option (Int32 × fw_S) := if x4 < 0 then b_M_X11_fill__0_30 t else b_M_X11_fill__0_21 t x1 x2 x3 x4
def b_M_X11_fill__0_7  (t : fw_S) (x1 : Int32) (x2 : Int32) (x3 : Int32) (x4 : Int32) : Option (Int32 × fw_S) := fb_b (f_M_X11_isCell t x3) fun v_2 t_1 => (if v_2 = 0 then b_M_X11_fill__0_14 t_1 else b_M_X11_fill__0_16 t_1 x1 x2 x3 x4)
def b_M_X11_fill__0_0  (t : fw_S) (x1 : Int32) (x2 : Int32) (x3 : Int32) (x4 : Int32) : Option (Int32 × fw_S) := fb_b (f_M_X11_isList t x1) fun v_2 t_1 => (if v_2 = 0 then b_M_X11_fill__0_14 t_1 else b_M_X11_fill__0_7 t_1 x1 x2 x3 x4)
def f_M_X11_fill__0 (t : fw_S) (x1 : Int32) (x2 : Int32) (x3 : Int32) (x4 : Int32) : Option (Int32 × fw_S) := b_M_X11_fill__0_0 t x1 x2 x3 x4
set_option maxRecDepth 20000 in
theorem w_M_X11_fill__0_14 {p : Program} {l : Launch} {e : Env} {s : State} {m : MethodId} {args : Array Value} {below : List Frame} {meth : Method} {c : Code} {A : Nat → Prop} {Q : State → Prop} {D : va_G} {ca : Nat → ClassId} {a : Nat → Nat} {u : fw_S} {r : Int32}  (C : CX (WM ca a) D (tyv ca) p s m args c A prog_13_method_85_code 6 RX11) (hr : True → RX (WM ca a) D p l e rm_M_X11_fill__0 s m args below meth c A prog_13_method_85_code Q .ireturn [.int r] u) {t : fw_S}  {H : Heap} {locs : List Loc} {ls : Array Slot} (hf : b_M_X11_fill__0_14  t  = some (r, u)) (hP : va_P D classes (WM ca a t) H) (hS : va_S A s.heap H locs) (hl : lv_has ls 6 []) : W p l e rm_M_X11_fill__0 s m args below meth c H locs 0 0 Q (F0 m 14 ls []) := by
  obtain ⟨hx, hb, hml, hown, hts, hN, hK, hD, hA⟩ := id C
  have hf : (some ((-1 : Int32), t)) = some (r, u) := hf
  refine lv_iconst (v := (-1)) hx hb dX11_fill_14 (by decide) ?_
  obtain ⟨e_15, e2_15⟩ := fb_e hf
  subst e_15; subst e2_15
  exact hr trivial _ _ _ _ hP hS dX11_fill_15
set_option maxRecDepth 20000 in
theorem w_M_X11_fill__0_30 {p : Program} {l : Launch} {e : Env} {s : State} {m : MethodId} {args : Array Value} {below : List Frame} {meth : Method} {c : Code} {A : Nat → Prop} {Q : State → Prop} {D : va_G} {ca : Nat → ClassId} {a : Nat → Nat} {u : fw_S} {r : Int32}  (C : CX (WM ca a) D (tyv ca) p s m args c A prog_13_method_85_code 6 RX11) (hr : True → RX (WM ca a) D p l e rm_M_X11_fill__0 s m args below meth c A prog_13_method_85_code Q .ireturn [.int r] u) {t : fw_S}  {H : Heap} {locs : List Loc} {ls : Array Slot} (hf : b_M_X11_fill__0_30  t  = some (r, u)) (hP : va_P D classes (WM ca a t) H) (hS : va_S A s.heap H locs) (hl : lv_has ls 6 []) : W p l e rm_M_X11_fill__0 s m args below meth c H locs 0 0 Q (F0 m 30 ls []) := by
  obtain ⟨hx, hb, hml, hown, hts, hN, hK, hD, hA⟩ := id C
  have hf : (some ((-2 : Int32), t)) = some (r, u) := hf
  refine lv_bipush (v := (-2)) hx hb dX11_fill_30 (by decide) ?_
  obtain ⟨e_32, e2_32⟩ := fb_e hf
  subst e_32; subst e2_32
  exact hr trivial _ _ _ _ hP hS dX11_fill_32
set_option maxRecDepth 20000 in
theorem w_M_X11_fill__0_135 {p : Program} {l : Launch} {e : Env} {s : State} {m : MethodId} {args : Array Value} {below : List Frame} {meth : Method} {c : Code} {A : Nat → Prop} {Q : State → Prop} {D : va_G} {ca : Nat → ClassId} {a : Nat → Nat} {u : fw_S} {r : Int32}  (C : CX (WM ca a) D (tyv ca) p s m args c A prog_13_method_85_code 6 RX11) (hr : True → RX (WM ca a) D p l e rm_M_X11_fill__0 s m args below meth c A prog_13_method_85_code Q .ireturn [.int r] u) {t : fw_S} {x4 : Int32} {H : Heap} {locs : List Loc} {ls : Array Slot} (hf : b_M_X11_fill__0_135  t x4 = some (r, u)) (hP : va_P D classes (WM ca a t) H) (hS : va_S A s.heap H locs) (hl : lv_has ls 6 [(4, .int x4)]) : W p l e rm_M_X11_fill__0 s m args below meth c H locs 0 0 Q (F0 m 135 ls []) := by
  obtain ⟨hx, hb, hml, hown, hts, hN, hK, hD, hA⟩ := id C
  have hf : (some (x4, t)) = some (r, u) := hf
  refine lv_iload hx hb dX11_fill_135 (lv_at hl 0 rfl) ?_
  obtain ⟨e_137, e2_137⟩ := fb_e hf
  subst e_137; subst e2_137
  exact hr trivial _ _ _ _ hP hS dX11_fill_137
set_option maxRecDepth 20000 in
theorem w_M_X11_fill__0_74 {p : Program} {l : Launch} {e : Env} {s : State} {m : MethodId} {args : Array Value} {below : List Frame} {meth : Method} {c : Code} {A : Nat → Prop} {Q : State → Prop} {D : va_G} {ca : Nat → ClassId} {a : Nat → Nat} {u : fw_S} {r : Int32}  (C : CX (WM ca a) D (tyv ca) p s m args c A prog_13_method_85_code 6 RX11) (hr : True → RX (WM ca a) D p l e rm_M_X11_fill__0 s m args below meth c A prog_13_method_85_code Q .ireturn [.int r] u) {t : fw_S}  {H : Heap} {locs : List Loc} {ls : Array Slot} (hf : b_M_X11_fill__0_74  t  = some (r, u)) (hP : va_P D classes (WM ca a t) H) (hS : va_S A s.heap H locs) (hl : lv_has ls 6 []) : W p l e rm_M_X11_fill__0 s m args below meth c H locs 0 0 Q (F0 m 74 ls []) := by
  obtain ⟨hx, hb, hml, hown, hts, hN, hK, hD, hA⟩ := id C
  have hf : (some ((-13 : Int32), t)) = some (r, u) := hf
  refine lv_bipush (v := (-13)) hx hb dX11_fill_74 (by decide) ?_
  obtain ⟨e_76, e2_76⟩ := fb_e hf
  subst e_76; subst e2_76
  exact hr trivial _ _ _ _ hP hS dX11_fill_76
set_option maxRecDepth 20000 in
theorem w_M_X11_fill__0_128 {p : Program} {l : Launch} {e : Env} {s : State} {m : MethodId} {args : Array Value} {below : List Frame} {meth : Method} {c : Code} {A : Nat → Prop} {Q : State → Prop} {D : va_G} {ca : Nat → ClassId} {a : Nat → Nat} {u : fw_S} {r : Int32} {k48 : fw_S → Int32 → Int32 → Int32 → Int32 → Int32 → Option (Int32 × fw_S)} (C : CX (WM ca a) D (tyv ca) p s m args c A prog_13_method_85_code 6 RX11) (hr : True → RX (WM ca a) D p l e rm_M_X11_fill__0 s m args below meth c A prog_13_method_85_code Q .ireturn [.int r] u) (hk48 : ∀ (t : fw_S) (x1 : Int32) (x2 : Int32) (x3 : Int32) (x4 : Int32) (x5 : Int32) (H : Heap) (locs : List Loc) (ls : Array Slot), k48 t x1 x2 x3 x4 x5 = some (r, u) → va_P D classes (WM ca a t) H → va_S A s.heap H locs → lv_has ls 6 [(0, .ref (a 0)), (1, .int x1), (2, .int x2), (3, .int x3), (4, .int x4), (5, .int x5)] → W p l e rm_M_X11_fill__0 s m args below meth c H locs 0 0 Q (F0 m 48 ls [])) {t : fw_S} {x1 : Int32} {x2 : Int32} {x3 : Int32} {x4 : Int32} {x5 : Int32} {z1 : Int32} {w2 : Int64} {H : Heap} {locs : List Loc} {ls : Array Slot} (hf : b_M_X11_fill__0_128 k48 t x1 x2 x3 x4 x5 z1 w2 = some (r, u)) (hP : va_P D classes (WM ca a t) H) (hS : va_S A s.heap H locs) (hl : lv_has ls 6 [(0, .ref (a 0)), (1, .int x1), (2, .int x2), (3, .int x3), (4, .int x4), (5, .int x5)]) : W p l e rm_M_X11_fill__0 s m args below meth c H locs 0 0 Q (F0 m 128 ls [.long w2, .int z1, .ref (a 46)]) := by
  obtain ⟨hx, hb, hml, hown, hts, hN, hK, hD, hA⟩ := id C
  have hf : (fb_g (¬ (z1 < 0 ∨ 160 ≤ z1.toNatClampNeg)) (fb_l (up_G t 7 (vp_updL (st_G t 7) z1.toNatClampNeg w2)) fun t_1 => (k48 t_1 x1 x2 x3 x4 (x5 + 1)))) = some (r, u) := hf
  obtain ⟨h_128, hf⟩ := fb_if hf
  refine va_last hx hb hK hP (hD t) hS 46 1 (haM_46 ca a t) rfl h_128 dX11_fill_128 (fun H locs hP _ hS => ?_)
  rw [saM_46] at hP
  obtain ⟨t_1, e_128, hf⟩ := fb_ls hf
  rw [← e_128] at hP
  refine lv_iinc (v := x5 + 1) (lv' := [(5, .int (x5 + 1)), (0, .ref (a 0)), (1, .int x1), (2, .int x2), (3, .int x3), (4, .int x4)]) hx hb dX11_fill_129 hl (k := 5) rfl rfl (by decide) rfl (fun ls hl => ?_)
  refine lv_goto (tgt := 48) hx hb dX11_fill_132 (by decide) ?_
  exact hk48 t_1 x1 x2 x3 x4 (x5 + 1) _ _ _ hf hP hS (lv_sub hl [1, 2, 3, 4, 5, 0] rfl)
set_option maxRecDepth 20000 in
theorem w_M_X11_fill__0_119 {p : Program} {l : Launch} {e : Env} {s : State} {m : MethodId} {args : Array Value} {below : List Frame} {meth : Method} {c : Code} {A : Nat → Prop} {Q : State → Prop} {D : va_G} {ca : Nat → ClassId} {a : Nat → Nat} {u : fw_S} {r : Int32} {k48 : fw_S → Int32 → Int32 → Int32 → Int32 → Int32 → Option (Int32 × fw_S)} (C : CX (WM ca a) D (tyv ca) p s m args c A prog_13_method_85_code 6 RX11) (hr : True → RX (WM ca a) D p l e rm_M_X11_fill__0 s m args below meth c A prog_13_method_85_code Q .ireturn [.int r] u) (hk48 : ∀ (t : fw_S) (x1 : Int32) (x2 : Int32) (x3 : Int32) (x4 : Int32) (x5 : Int32) (H : Heap) (locs : List Loc) (ls : Array Slot), k48 t x1 x2 x3 x4 x5 = some (r, u) → va_P D classes (WM ca a t) H → va_S A s.heap H locs → lv_has ls 6 [(0, .ref (a 0)), (1, .int x1), (2, .int x2), (3, .int x3), (4, .int x4), (5, .int x5)] → W p l e rm_M_X11_fill__0 s m args below meth c H locs 0 0 Q (F0 m 48 ls [])) {t : fw_S} {x1 : Int32} {x2 : Int32} {x3 : Int32} {x4 : Int32} {x5 : Int32} {z1 : Int32} {H : Heap} {locs : List Loc} {ls : Array Slot} (hf : b_M_X11_fill__0_119 k48 t x1 x2 x3 x4 x5 z1 = some (r, u)) (hP : va_P D classes (WM ca a t) H) (hS : va_S A s.heap H locs) (hl : lv_has ls 6 [(0, .ref (a 0)), (1, .int x1), (2, .int x2), (3, .int x3), (4, .int x4), (5, .int x5)]) : W p l e rm_M_X11_fill__0 s m args below meth c H locs 0 0 Q (F0 m 119 ls [.int z1, .ref (a 46)]) := by
  obtain ⟨hx, hb, hml, hown, hts, hN, hK, hD, hA⟩ := id C
  have hf : (fb_g (¬ ((x3 + x5) < 0 ∨ 32 ≤ (x3 + x5).toNatClampNeg)) (b_M_X11_fill__0_128 k48 t x1 x2 x3 x4 x5 z1 (st_G t 0 (x3 + x5).toNatClampNeg))) = some (r, u) := hf
  refine lv_aload_n hx hb dX11_fill_119 rfl (lv_at hl 0 rfl) ?_
  refine va_get (D := D) (ci := 11) (v := .ref (a 7)) (C := RX11) (T := TX11) (N := 76) hx hb hts inX11 hown hK hP 0 (heM_0 ca a t) rfl 6 (by decide) (hts _ kw_1198) (fun _ h9 => h9) rfl dX11_fill_120 ?_
  refine lv_iload_n hx hb dX11_fill_123 rfl (lv_at hl 3 rfl) ?_
  refine lv_iload hx hb dX11_fill_124 (lv_at hl 5 rfl) ?_
  refine lv_iadd hx hb dX11_fill_126 ?_
  obtain ⟨h_127, hf⟩ := fb_if hf
  refine va_lald hx hb hK hP 7 1 (haM_7 ca a t) rfl h_127 dX11_fill_127 ?_
  exact w_M_X11_fill__0_128 C hr hk48 hf hP hS (lv_sub hl [0, 1, 2, 3, 4, 5] rfl)
set_option maxRecDepth 20000 in
theorem w_M_X11_fill__0_102 {p : Program} {l : Launch} {e : Env} {s : State} {m : MethodId} {args : Array Value} {below : List Frame} {meth : Method} {c : Code} {A : Nat → Prop} {Q : State → Prop} {D : va_G} {ca : Nat → ClassId} {a : Nat → Nat} {u : fw_S} {r : Int32} {k48 : fw_S → Int32 → Int32 → Int32 → Int32 → Int32 → Option (Int32 × fw_S)} (C : CX (WM ca a) D (tyv ca) p s m args c A prog_13_method_85_code 6 RX11) (hr : True → RX (WM ca a) D p l e rm_M_X11_fill__0 s m args below meth c A prog_13_method_85_code Q .ireturn [.int r] u) (hk48 : ∀ (t : fw_S) (x1 : Int32) (x2 : Int32) (x3 : Int32) (x4 : Int32) (x5 : Int32) (H : Heap) (locs : List Loc) (ls : Array Slot), k48 t x1 x2 x3 x4 x5 = some (r, u) → va_P D classes (WM ca a t) H → va_S A s.heap H locs → lv_has ls 6 [(0, .ref (a 0)), (1, .int x1), (2, .int x2), (3, .int x3), (4, .int x4), (5, .int x5)] → W p l e rm_M_X11_fill__0 s m args below meth c H locs 0 0 Q (F0 m 48 ls [])) {t : fw_S} {x1 : Int32} {x2 : Int32} {x3 : Int32} {x4 : Int32} {x5 : Int32} {z1 : Int32} {H : Heap} {locs : List Loc} {ls : Array Slot} (hf : b_M_X11_fill__0_102 k48 t x1 x2 x3 x4 x5 z1 = some (r, u)) (hP : va_P D classes (WM ca a t) H) (hS : va_S A s.heap H locs) (hl : lv_has ls 6 [(0, .ref (a 0)), (1, .int x1), (2, .int x2), (3, .int x3), (4, .int x4), (5, .int x5)]) : W p l e rm_M_X11_fill__0 s m args below meth c H locs 0 0 Q (F0 m 102 ls [.int z1, .ref (a 46)]) := by
  obtain ⟨hx, hb, hml, hown, hts, hN, hK, hD, hA⟩ := id C
  have hf : (fb_g (¬ ((x3 + x5) < 0 ∨ 32 ≤ (x3 + x5).toNatClampNeg)) (b_M_X11_fill__0_128 k48 t x1 x2 x3 x4 x5 z1 (((-9223372036854775808 : Int64)) + ((st_F t 1 (x3 + x5).toNatClampNeg).toInt64)))) = some (r, u) := hf
  refine lv_ldc2 (v := (-9223372036854775808)) hx hb hown (hts _ kw_1506) dX11_fill_102 ?_
  refine lv_aload_n hx hb dX11_fill_105 rfl (lv_at hl 0 rfl) ?_
  refine va_get (D := D) (ci := 11) (v := .ref (a 2)) (C := RX11) (T := TX11) (N := 76) hx hb hts inX11 hown hK hP 0 (heM_0 ca a t) rfl 1 (by decide) (hts _ kw_1193) (fun _ h9 => h9) rfl dX11_fill_106 ?_
  refine lv_iload_n hx hb dX11_fill_109 rfl (lv_at hl 3 rfl) ?_
  refine lv_iload hx hb dX11_fill_110 (lv_at hl 5 rfl) ?_
  refine lv_iadd hx hb dX11_fill_112 ?_
  obtain ⟨h_113, hf⟩ := fb_if hf
  refine va_iald hx hb hK hP 2 0 (haM_2 ca a t) rfl h_113 dX11_fill_113 ?_
  refine lv_i2l hx hb dX11_fill_114 rfl ?_
  refine lv_ladd hx hb dX11_fill_115 ?_
  refine lv_goto (tgt := 128) hx hb dX11_fill_116 (by decide) ?_
  exact w_M_X11_fill__0_128 C hr hk48 hf hP hS (lv_sub hl [0, 1, 2, 3, 4, 5] rfl)
set_option maxRecDepth 20000 in
theorem w_M_X11_fill__0_77 {p : Program} {l : Launch} {e : Env} {s : State} {m : MethodId} {args : Array Value} {below : List Frame} {meth : Method} {c : Code} {A : Nat → Prop} {Q : State → Prop} {D : va_G} {ca : Nat → ClassId} {a : Nat → Nat} {u : fw_S} {r : Int32} {k48 : fw_S → Int32 → Int32 → Int32 → Int32 → Int32 → Option (Int32 × fw_S)} (C : CX (WM ca a) D (tyv ca) p s m args c A prog_13_method_85_code 6 RX11) (hr : True → RX (WM ca a) D p l e rm_M_X11_fill__0 s m args below meth c A prog_13_method_85_code Q .ireturn [.int r] u) (hk48 : ∀ (t : fw_S) (x1 : Int32) (x2 : Int32) (x3 : Int32) (x4 : Int32) (x5 : Int32) (H : Heap) (locs : List Loc) (ls : Array Slot), k48 t x1 x2 x3 x4 x5 = some (r, u) → va_P D classes (WM ca a t) H → va_S A s.heap H locs → lv_has ls 6 [(0, .ref (a 0)), (1, .int x1), (2, .int x2), (3, .int x3), (4, .int x4), (5, .int x5)] → W p l e rm_M_X11_fill__0 s m args below meth c H locs 0 0 Q (F0 m 48 ls [])) {t : fw_S} {x1 : Int32} {x2 : Int32} {x3 : Int32} {x4 : Int32} {x5 : Int32} {H : Heap} {locs : List Loc} {ls : Array Slot} (hf : b_M_X11_fill__0_77 k48 t x1 x2 x3 x4 x5 = some (r, u)) (hP : va_P D classes (WM ca a t) H) (hS : va_S A s.heap H locs) (hl : lv_has ls 6 [(0, .ref (a 0)), (1, .int x1), (2, .int x2), (3, .int x3), (4, .int x4), (5, .int x5)]) : W p l e rm_M_X11_fill__0 s m args below meth c H locs 0 0 Q (F0 m 77 ls []) := by
  obtain ⟨hx, hb, hml, hown, hts, hN, hK, hD, hA⟩ := id C
  have hf : (fb_g (¬ ((x3 + x5) < 0 ∨ 32 ≤ (x3 + x5).toNatClampNeg)) (if (st_F t 1 (x3 + x5).toNatClampNeg) = 0 then b_M_X11_fill__0_119 k48 t x1 x2 x3 x4 x5 (((((40 : Int32)) * x1) + x2) + x5) else b_M_X11_fill__0_102 k48 t x1 x2 x3 x4 x5 (((((40 : Int32)) * x1) + x2) + x5))) = some (r, u) := hf
  refine lv_aload_n hx hb dX11_fill_77 rfl (lv_at hl 0 rfl) ?_
  refine va_get (D := D) (ci := 11) (v := .ref (a 46)) (C := RX11) (T := TX11) (N := 76) hx hb hts inX11 hown hK hP 0 (heM_0 ca a t) rfl 63 (by decide) (hts _ kw_1255) (fun _ h9 => h9) rfl dX11_fill_78 ?_
  refine lv_bipush (v := 40) hx hb dX11_fill_81 (by decide) ?_
  refine lv_iload_n hx hb dX11_fill_83 rfl (lv_at hl 1 rfl) ?_
  refine lv_imul hx hb dX11_fill_84 ?_
  refine lv_iload_n hx hb dX11_fill_85 rfl (lv_at hl 2 rfl) ?_
  refine lv_iadd hx hb dX11_fill_86 ?_
  refine lv_iload hx hb dX11_fill_87 (lv_at hl 5 rfl) ?_
  refine lv_iadd hx hb dX11_fill_89 ?_
  refine lv_aload_n hx hb dX11_fill_90 rfl (lv_at hl 0 rfl) ?_
  refine va_get (D := D) (ci := 11) (v := .ref (a 2)) (C := RX11) (T := TX11) (N := 76) hx hb hts inX11 hown hK hP 0 (heM_0 ca a t) rfl 1 (by decide) (hts _ kw_1193) (fun _ h9 => h9) rfl dX11_fill_91 ?_
  refine lv_iload_n hx hb dX11_fill_94 rfl (lv_at hl 3 rfl) ?_
  refine lv_iload hx hb dX11_fill_95 (lv_at hl 5 rfl) ?_
  refine lv_iadd hx hb dX11_fill_97 ?_
  obtain ⟨h_98, hf⟩ := fb_if hf
  refine va_iald hx hb hK hP 2 0 (haM_2 ca a t) rfl h_98 dX11_fill_98 ?_
  refine lv_if_eq (tgt := 119) hx hb dX11_fill_99 (by decide) (fun h_99 => ?_) (fun h_99 => ?_)
  · have hf := fb_t h_99 hf
    exact w_M_X11_fill__0_119 C hr hk48 hf hP hS (lv_sub hl [0, 1, 2, 3, 4, 5] rfl)
  · have hf := fb_f h_99 hf
    exact w_M_X11_fill__0_102 C hr hk48 hf hP hS (lv_sub hl [0, 1, 2, 3, 4, 5] rfl)
set_option maxRecDepth 20000 in
theorem w_M_X11_fill__0_59 {p : Program} {l : Launch} {e : Env} {s : State} {m : MethodId} {args : Array Value} {below : List Frame} {meth : Method} {c : Code} {A : Nat → Prop} {Q : State → Prop} {D : va_G} {ca : Nat → ClassId} {a : Nat → Nat} {u : fw_S} {r : Int32} {k48 : fw_S → Int32 → Int32 → Int32 → Int32 → Int32 → Option (Int32 × fw_S)} (C : CX (WM ca a) D (tyv ca) p s m args c A prog_13_method_85_code 6 RX11) (hr : True → RX (WM ca a) D p l e rm_M_X11_fill__0 s m args below meth c A prog_13_method_85_code Q .ireturn [.int r] u) (hk48 : ∀ (t : fw_S) (x1 : Int32) (x2 : Int32) (x3 : Int32) (x4 : Int32) (x5 : Int32) (H : Heap) (locs : List Loc) (ls : Array Slot), k48 t x1 x2 x3 x4 x5 = some (r, u) → va_P D classes (WM ca a t) H → va_S A s.heap H locs → lv_has ls 6 [(0, .ref (a 0)), (1, .int x1), (2, .int x2), (3, .int x3), (4, .int x4), (5, .int x5)] → W p l e rm_M_X11_fill__0 s m args below meth c H locs 0 0 Q (F0 m 48 ls [])) {t : fw_S} {x1 : Int32} {x2 : Int32} {x3 : Int32} {x4 : Int32} {x5 : Int32} {H : Heap} {locs : List Loc} {ls : Array Slot} (hf : b_M_X11_fill__0_59 k48 t x1 x2 x3 x4 x5 = some (r, u)) (hP : va_P D classes (WM ca a t) H) (hS : va_S A s.heap H locs) (hl : lv_has ls 6 [(0, .ref (a 0)), (1, .int x1), (2, .int x2), (3, .int x3), (4, .int x4), (5, .int x5)]) : W p l e rm_M_X11_fill__0 s m args below meth c H locs 0 0 Q (F0 m 59 ls []) := by
  obtain ⟨hx, hb, hml, hown, hts, hN, hK, hD, hA⟩ := id C
  have hf : (fb_g (¬ (x1 < 0 ∨ 4 ≤ x1.toNatClampNeg)) (if x2 ≤ (((st_F t 38 x1.toNatClampNeg) - ((1 : Int32))) - x5) then b_M_X11_fill__0_77 k48 t x1 x2 x3 x4 x5 else b_M_X11_fill__0_74 t)) = some (r, u) := hf
  refine lv_iload_n hx hb dX11_fill_59 rfl (lv_at hl 2 rfl) ?_
  refine lv_aload_n hx hb dX11_fill_60 rfl (lv_at hl 0 rfl) ?_
  refine va_get (D := D) (ci := 11) (v := .ref (a 47)) (C := RX11) (T := TX11) (N := 76) hx hb hts inX11 hown hK hP 0 (heM_0 ca a t) rfl 64 (by decide) (hts _ kw_1256) (fun _ h9 => h9) rfl dX11_fill_61 ?_
  refine lv_iload_n hx hb dX11_fill_64 rfl (lv_at hl 1 rfl) ?_
  obtain ⟨h_65, hf⟩ := fb_if hf
  refine va_iald hx hb hK hP 47 0 (haM_47 ca a t) rfl h_65 dX11_fill_65 ?_
  refine lv_iconst (v := 1) hx hb dX11_fill_66 (by decide) ?_
  refine lv_isub hx hb dX11_fill_67 ?_
  refine lv_iload hx hb dX11_fill_68 (lv_at hl 5 rfl) ?_
  refine lv_isub hx hb dX11_fill_70 ?_
  refine lv_icmp_le (tgt := 77) hx hb dX11_fill_71 (by decide) (fun h_71 => ?_) (fun h_71 => ?_)
  · have hf := fb_t h_71 hf
    exact w_M_X11_fill__0_77 C hr hk48 hf hP hS (lv_sub hl [0, 1, 2, 3, 4, 5] rfl)
  · have hf := fb_f h_71 hf
    exact w_M_X11_fill__0_74 C hr hf hP hS (lv_sub hl [] rfl)
set_option maxRecDepth 20000 in
theorem w_M_X11_fill__0_55 {p : Program} {l : Launch} {e : Env} {s : State} {m : MethodId} {args : Array Value} {below : List Frame} {meth : Method} {c : Code} {A : Nat → Prop} {Q : State → Prop} {D : va_G} {ca : Nat → ClassId} {a : Nat → Nat} {u : fw_S} {r : Int32} {k48 : fw_S → Int32 → Int32 → Int32 → Int32 → Int32 → Option (Int32 × fw_S)} (C : CX (WM ca a) D (tyv ca) p s m args c A prog_13_method_85_code 6 RX11) (hr : True → RX (WM ca a) D p l e rm_M_X11_fill__0 s m args below meth c A prog_13_method_85_code Q .ireturn [.int r] u) (hk48 : ∀ (t : fw_S) (x1 : Int32) (x2 : Int32) (x3 : Int32) (x4 : Int32) (x5 : Int32) (H : Heap) (locs : List Loc) (ls : Array Slot), k48 t x1 x2 x3 x4 x5 = some (r, u) → va_P D classes (WM ca a t) H → va_S A s.heap H locs → lv_has ls 6 [(0, .ref (a 0)), (1, .int x1), (2, .int x2), (3, .int x3), (4, .int x4), (5, .int x5)] → W p l e rm_M_X11_fill__0 s m args below meth c H locs 0 0 Q (F0 m 48 ls [])) {t : fw_S} {x1 : Int32} {x2 : Int32} {x3 : Int32} {x4 : Int32} {x5 : Int32} {H : Heap} {locs : List Loc} {ls : Array Slot} (hf : b_M_X11_fill__0_55 k48 t x1 x2 x3 x4 x5 = some (r, u)) (hP : va_P D classes (WM ca a t) H) (hS : va_S A s.heap H locs) (hl : lv_has ls 6 [(0, .ref (a 0)), (1, .int x1), (2, .int x2), (3, .int x3), (4, .int x4), (5, .int x5)]) : W p l e rm_M_X11_fill__0 s m args below meth c H locs 0 0 Q (F0 m 55 ls []) := by
  obtain ⟨hx, hb, hml, hown, hts, hN, hK, hD, hA⟩ := id C
  have hf : (if x2 < 0 then b_M_X11_fill__0_74 t else b_M_X11_fill__0_59 k48 t x1 x2 x3 x4 x5) = some (r, u) := hf
  refine lv_iload_n hx hb dX11_fill_55 rfl (lv_at hl 2 rfl) ?_
  refine lv_if_lt (tgt := 74) hx hb dX11_fill_56 (by decide) (fun h_56 => ?_) (fun h_56 => ?_)
  · have hf := fb_t h_56 hf
    exact w_M_X11_fill__0_74 C hr hf hP hS (lv_sub hl [] rfl)
  · have hf := fb_f h_56 hf
    exact w_M_X11_fill__0_59 C hr hk48 hf hP hS (lv_sub hl [0, 1, 2, 3, 4, 5] rfl)
set_option maxRecDepth 20000 in
theorem w_M_X11_fill__0_48 {p : Program} {l : Launch} {e : Env} {s : State} {m : MethodId} {args : Array Value} {below : List Frame} {meth : Method} {c : Code} {A : Nat → Prop} {Q : State → Prop} {D : va_G} {ca : Nat → ClassId} {a : Nat → Nat} {u : fw_S} {r : Int32}  (C : CX (WM ca a) D (tyv ca) p s m args c A prog_13_method_85_code 6 RX11) (hr : True → RX (WM ca a) D p l e rm_M_X11_fill__0 s m args below meth c A prog_13_method_85_code Q .ireturn [.int r] u) : ∀ (n : Nat) (t : fw_S) (x1 : Int32) (x2 : Int32) (x3 : Int32) (x4 : Int32) (x5 : Int32) (H : Heap) (locs : List Loc) (ls : Array Slot), b_M_X11_fill__0_48  n t x1 x2 x3 x4 x5 = some (r, u) → va_P D classes (WM ca a t) H → va_S A s.heap H locs → lv_has ls 6 [(0, .ref (a 0)), (1, .int x1), (2, .int x2), (3, .int x3), (4, .int x4), (5, .int x5)] → W p l e rm_M_X11_fill__0 s m args below meth c H locs 0 0 Q (F0 m 48 ls []) := by
  obtain ⟨hx, hb, hml, hown, hts, hN, hK, hD, hA⟩ := id C
  intro n
  induction n with
  | zero => intro t x1 x2 x3 x4 x5 H locs ls hf; cases hf
  | succ n hk48 =>
    intro t x1 x2 x3 x4 x5 H locs ls hf hP hS hl
    have hf : (if x4 ≤ x5 then b_M_X11_fill__0_135 t x4 else b_M_X11_fill__0_55 (b_M_X11_fill__0_48 n) t x1 x2 x3 x4 x5) = some (r, u) := hf
    refine lv_iload hx hb dX11_fill_48 (lv_at hl 5 rfl) ?_
    refine lv_iload hx hb dX11_fill_50 (lv_at hl 4 rfl) ?_
    refine lv_icmp_ge (tgt := 135) hx hb dX11_fill_52 (by decide) (fun h_52 => ?_) (fun h_52 => ?_)
    · have hf := fb_t h_52 hf
      exact w_M_X11_fill__0_135 C hr hf hP hS (lv_sub hl [4] rfl)
    · have hf := fb_f h_52 hf
      exact w_M_X11_fill__0_55 C hr hk48 hf hP hS (lv_sub hl [0, 1, 2, 3, 4, 5] rfl)
set_option maxRecDepth 20000 in
theorem w_M_X11_fill__0_45 {p : Program} {l : Launch} {e : Env} {s : State} {m : MethodId} {args : Array Value} {below : List Frame} {meth : Method} {c : Code} {A : Nat → Prop} {Q : State → Prop} {D : va_G} {ca : Nat → ClassId} {a : Nat → Nat} {u : fw_S} {r : Int32}  (C : CX (WM ca a) D (tyv ca) p s m args c A prog_13_method_85_code 6 RX11) (hr : True → RX (WM ca a) D p l e rm_M_X11_fill__0 s m args below meth c A prog_13_method_85_code Q .ireturn [.int r] u) {t : fw_S} {x1 : Int32} {x2 : Int32} {x3 : Int32} {x4 : Int32} {H : Heap} {locs : List Loc} {ls : Array Slot} (hf : b_M_X11_fill__0_45  t x1 x2 x3 x4 = some (r, u)) (hP : va_P D classes (WM ca a t) H) (hS : va_S A s.heap H locs) (hl : lv_has ls 6 [(0, .ref (a 0)), (1, .int x1), (2, .int x2), (3, .int x3), (4, .int x4)]) : W p l e rm_M_X11_fill__0 s m args below meth c H locs 0 0 Q (F0 m 45 ls []) := by
  obtain ⟨hx, hb, hml, hown, hts, hN, hK, hD, hA⟩ := id C
  have hf : (b_M_X11_fill__0_48 3000 t x1 x2 x3 x4 ((0 : Int32))) = some (r, u) := hf
  refine lv_iconst (v := 0) hx hb dX11_fill_45 (by decide) ?_
  refine lv_istore (lv' := [(5, .int ((0 : Int32))), (0, .ref (a 0)), (1, .int x1), (2, .int x2), (3, .int x3), (4, .int x4)]) hx hb dX11_fill_46 hl (by decide) rfl (fun ls hl => ?_)
  exact w_M_X11_fill__0_48 C hr 3000 t x1 x2 x3 x4 ((0 : Int32)) _ _ _ hf hP hS (lv_sub hl [1, 2, 3, 4, 5, 0] rfl)
set_option maxRecDepth 20000 in
theorem w_M_X11_fill__0_42 {p : Program} {l : Launch} {e : Env} {s : State} {m : MethodId} {args : Array Value} {below : List Frame} {meth : Method} {c : Code} {A : Nat → Prop} {Q : State → Prop} {D : va_G} {ca : Nat → ClassId} {a : Nat → Nat} {u : fw_S} {r : Int32}  (C : CX (WM ca a) D (tyv ca) p s m args c A prog_13_method_85_code 6 RX11) (hr : True → RX (WM ca a) D p l e rm_M_X11_fill__0 s m args below meth c A prog_13_method_85_code Q .ireturn [.int r] u) {t : fw_S}  {H : Heap} {locs : List Loc} {ls : Array Slot} (hf : b_M_X11_fill__0_42  t  = some (r, u)) (hP : va_P D classes (WM ca a t) H) (hS : va_S A s.heap H locs) (hl : lv_has ls 6 []) : W p l e rm_M_X11_fill__0 s m args below meth c H locs 0 0 Q (F0 m 42 ls []) := by
  obtain ⟨hx, hb, hml, hown, hts, hN, hK, hD, hA⟩ := id C
  have hf : (some ((-11 : Int32), t)) = some (r, u) := hf
  refine lv_bipush (v := (-11)) hx hb dX11_fill_42 (by decide) ?_
  obtain ⟨e_44, e2_44⟩ := fb_e hf
  subst e_44; subst e2_44
  exact hr trivial _ _ _ _ hP hS dX11_fill_44
set_option maxRecDepth 20000 in
theorem w_M_X11_fill__0_33 {p : Program} {l : Launch} {e : Env} {s : State} {m : MethodId} {args : Array Value} {below : List Frame} {meth : Method} {c : Code} {A : Nat → Prop} {Q : State → Prop} {D : va_G} {ca : Nat → ClassId} {a : Nat → Nat} {u : fw_S} {r : Int32}  (C : CX (WM ca a) D (tyv ca) p s m args c A prog_13_method_85_code 6 RX11) (hr : True → RX (WM ca a) D p l e rm_M_X11_fill__0 s m args below meth c A prog_13_method_85_code Q .ireturn [.int r] u) {t : fw_S} {x1 : Int32} {x2 : Int32} {x3 : Int32} {x4 : Int32} {H : Heap} {locs : List Loc} {ls : Array Slot} (hf : b_M_X11_fill__0_33  t x1 x2 x3 x4 = some (r, u)) (hP : va_P D classes (WM ca a t) H) (hS : va_S A s.heap H locs) (hl : lv_has ls 6 [(0, .ref (a 0)), (1, .int x1), (2, .int x2), (3, .int x3), (4, .int x4)]) : W p l e rm_M_X11_fill__0 s m args below meth c H locs 0 0 Q (F0 m 33 ls []) := by
  obtain ⟨hx, hb, hml, hown, hts, hN, hK, hD, hA⟩ := id C
  have hf : (fb_g (¬ (x1 < 0 ∨ 4 ≤ x1.toNatClampNeg)) (if 0 ≤ (st_F t 38 x1.toNatClampNeg) then b_M_X11_fill__0_45 t x1 x2 x3 x4 else b_M_X11_fill__0_42 t)) = some (r, u) := hf
  refine lv_aload_n hx hb dX11_fill_33 rfl (lv_at hl 0 rfl) ?_
  refine va_get (D := D) (ci := 11) (v := .ref (a 47)) (C := RX11) (T := TX11) (N := 76) hx hb hts inX11 hown hK hP 0 (heM_0 ca a t) rfl 64 (by decide) (hts _ kw_1256) (fun _ h9 => h9) rfl dX11_fill_34 ?_
  refine lv_iload_n hx hb dX11_fill_37 rfl (lv_at hl 1 rfl) ?_
  obtain ⟨h_38, hf⟩ := fb_if hf
  refine va_iald hx hb hK hP 47 0 (haM_47 ca a t) rfl h_38 dX11_fill_38 ?_
  refine lv_if_ge (tgt := 45) hx hb dX11_fill_39 (by decide) (fun h_39 => ?_) (fun h_39 => ?_)
  · have hf := fb_t h_39 hf
    exact w_M_X11_fill__0_45 C hr hf hP hS (lv_sub hl [0, 1, 2, 3, 4] rfl)
  · have hf := fb_f h_39 hf
    exact w_M_X11_fill__0_42 C hr hf hP hS (lv_sub hl [] rfl)
set_option maxRecDepth 20000 in
theorem w_M_X11_fill__0_21 {p : Program} {l : Launch} {e : Env} {s : State} {m : MethodId} {args : Array Value} {below : List Frame} {meth : Method} {c : Code} {A : Nat → Prop} {Q : State → Prop} {D : va_G} {ca : Nat → ClassId} {a : Nat → Nat} {u : fw_S} {r : Int32}  (C : CX (WM ca a) D (tyv ca) p s m args c A prog_13_method_85_code 6 RX11) (hr : True → RX (WM ca a) D p l e rm_M_X11_fill__0 s m args below meth c A prog_13_method_85_code Q .ireturn [.int r] u) {t : fw_S} {x1 : Int32} {x2 : Int32} {x3 : Int32} {x4 : Int32} {H : Heap} {locs : List Loc} {ls : Array Slot} (hf : b_M_X11_fill__0_21  t x1 x2 x3 x4 = some (r, u)) (hP : va_P D classes (WM ca a t) H) (hS : va_S A s.heap H locs) (hl : lv_has ls 6 [(0, .ref (a 0)), (1, .int x1), (2, .int x2), (3, .int x3), (4, .int x4)]) : W p l e rm_M_X11_fill__0 s m args below meth c H locs 0 0 Q (F0 m 21 ls []) := by
  obtain ⟨hx, hb, hml, hown, hts, hN, hK, hD, hA⟩ := id C
  have hf : (if x4 ≤ (((32 : Int32)) - x3) then b_M_X11_fill__0_33 t x1 x2 x3 x4 else b_M_X11_fill__0_30 t) = some (r, u) := hf
  refine lv_iload hx hb dX11_fill_21 (lv_at hl 4 rfl) ?_
  refine lv_bipush (v := 32) hx hb dX11_fill_23 (by decide) ?_
  refine lv_iload_n hx hb dX11_fill_25 rfl (lv_at hl 3 rfl) ?_
  refine lv_isub hx hb dX11_fill_26 ?_
  refine lv_icmp_le (tgt := 33) hx hb dX11_fill_27 (by decide) (fun h_27 => ?_) (fun h_27 => ?_)
  · have hf := fb_t h_27 hf
    exact w_M_X11_fill__0_33 C hr hf hP hS (lv_sub hl [0, 1, 2, 3, 4] rfl)
  · have hf := fb_f h_27 hf
    exact w_M_X11_fill__0_30 C hr hf hP hS (lv_sub hl [] rfl)
set_option maxRecDepth 20000 in
theorem w_M_X11_fill__0_16 {p : Program} {l : Launch} {e : Env} {s : State} {m : MethodId} {args : Array Value} {below : List Frame} {meth : Method} {c : Code} {A : Nat → Prop} {Q : State → Prop} {D : va_G} {ca : Nat → ClassId} {a : Nat → Nat} {u : fw_S} {r : Int32}  (C : CX (WM ca a) D (tyv ca) p s m args c A prog_13_method_85_code 6 RX11) (hr : True → RX (WM ca a) D p l e rm_M_X11_fill__0 s m args below meth c A prog_13_method_85_code Q .ireturn [.int r] u) {t : fw_S} {x1 : Int32} {x2 : Int32} {x3 : Int32} {x4 : Int32} {H : Heap} {locs : List Loc} {ls : Array Slot} (hf : b_M_X11_fill__0_16  t x1 x2 x3 x4 = some (r, u)) (hP : va_P D classes (WM ca a t) H) (hS : va_S A s.heap H locs) (hl : lv_has ls 6 [(0, .ref (a 0)), (1, .int x1), (2, .int x2), (3, .int x3), (4, .int x4)]) : W p l e rm_M_X11_fill__0 s m args below meth c H locs 0 0 Q (F0 m 16 ls []) := by
  obtain ⟨hx, hb, hml, hown, hts, hN, hK, hD, hA⟩ := id C
  have hf : (if x4 < 0 then b_M_X11_fill__0_30 t else b_M_X11_fill__0_21 t x1 x2 x3 x4) = some (r, u) := hf
  refine lv_iload hx hb dX11_fill_16 (lv_at hl 4 rfl) ?_
  refine lv_if_lt (tgt := 30) hx hb dX11_fill_18 (by decide) (fun h_18 => ?_) (fun h_18 => ?_)
  · have hf := fb_t h_18 hf
    exact w_M_X11_fill__0_30 C hr hf hP hS (lv_sub hl [] rfl)
  · have hf := fb_f h_18 hf
    exact w_M_X11_fill__0_21 C hr hf hP hS (lv_sub hl [0, 1, 2, 3, 4] rfl)
set_option maxRecDepth 20000 in
theorem w_M_X11_fill__0_7 {p : Program} {l : Launch} {e : Env} {s : State} {m : MethodId} {args : Array Value} {below : List Frame} {meth : Method} {c : Code} {A : Nat → Prop} {Q : State → Prop} {D : va_G} {ca : Nat → ClassId} {a : Nat → Nat} {u : fw_S} {r : Int32}  (C : CX (WM ca a) D (tyv ca) p s m args c A prog_13_method_85_code 6 RX11) (hr : True → RX (WM ca a) D p l e rm_M_X11_fill__0 s m args below meth c A prog_13_method_85_code Q .ireturn [.int r] u) {t : fw_S} {x1 : Int32} {x2 : Int32} {x3 : Int32} {x4 : Int32} {H : Heap} {locs : List Loc} {ls : Array Slot} (hf : b_M_X11_fill__0_7  t x1 x2 x3 x4 = some (r, u)) (hP : va_P D classes (WM ca a t) H) (hS : va_S A s.heap H locs) (hl : lv_has ls 6 [(0, .ref (a 0)), (1, .int x1), (2, .int x2), (3, .int x3), (4, .int x4)]) : W p l e rm_M_X11_fill__0 s m args below meth c H locs 0 0 Q (F0 m 7 ls []) := by
  obtain ⟨hx, hb, hml, hown, hts, hN, hK, hD, hA⟩ := id C
  have hf : (fb_b (f_M_X11_isCell t x3) fun v_2 t_1 => (if v_2 = 0 then b_M_X11_fill__0_14 t_1 else b_M_X11_fill__0_16 t_1 x1 x2 x3 x4)) = some (r, u) := hf
  refine lv_iload_n hx hb dX11_fill_7 rfl (lv_at hl 3 rfl) ?_
  obtain ⟨v_2, t_1, g_8, hf⟩ := fb_bs hf
  refine fw_S1 (As := [.int x3]) (rest := []) (n := 1) C (c_M_X11_isCell (l := l) (D := D) (ca := ca) (a := a) g_8) kw_1437 kw_1438 kw_102 kw_1439 hP hS hl rfl rfl (by decide) (by decide +kernel) ⟨Nat.le_of_ble_eq_true rfl, Nat.le_of_ble_eq_true rfl⟩ rfl rfl (Nat.le_of_ble_eq_true rfl) dX11_fill_8 (fun H locs hP hS => ?_)
  refine W.eq (g2 := F0 m 11 ls [.int v_2]) rfl ?_
  refine lv_if_ne (tgt := 16) hx hb dX11_fill_11 (by decide) (fun h_11 => ?_) (fun h_11 => ?_)
  · have hf := fb_f h_11 hf
    exact w_M_X11_fill__0_16 C hr hf hP hS (lv_sub hl [0, 1, 2, 3, 4] rfl)
  · have hf := fb_t h_11 hf
    exact w_M_X11_fill__0_14 C hr hf hP hS (lv_sub hl [] rfl)
set_option maxRecDepth 20000 in
theorem w_M_X11_fill__0_0 {p : Program} {l : Launch} {e : Env} {s : State} {m : MethodId} {args : Array Value} {below : List Frame} {meth : Method} {c : Code} {A : Nat → Prop} {Q : State → Prop} {D : va_G} {ca : Nat → ClassId} {a : Nat → Nat} {u : fw_S} {r : Int32}  (C : CX (WM ca a) D (tyv ca) p s m args c A prog_13_method_85_code 6 RX11) (hr : True → RX (WM ca a) D p l e rm_M_X11_fill__0 s m args below meth c A prog_13_method_85_code Q .ireturn [.int r] u) {t : fw_S} {x1 : Int32} {x2 : Int32} {x3 : Int32} {x4 : Int32} {H : Heap} {locs : List Loc} {ls : Array Slot} (hf : b_M_X11_fill__0_0  t x1 x2 x3 x4 = some (r, u)) (hP : va_P D classes (WM ca a t) H) (hS : va_S A s.heap H locs) (hl : lv_has ls 6 [(0, .ref (a 0)), (1, .int x1), (2, .int x2), (3, .int x3), (4, .int x4)]) : W p l e rm_M_X11_fill__0 s m args below meth c H locs 0 0 Q (F0 m 0 ls []) := by
  obtain ⟨hx, hb, hml, hown, hts, hN, hK, hD, hA⟩ := id C
  have hf : (fb_b (f_M_X11_isList t x1) fun v_2 t_1 => (if v_2 = 0 then b_M_X11_fill__0_14 t_1 else b_M_X11_fill__0_7 t_1 x1 x2 x3 x4)) = some (r, u) := hf
  refine lv_iload_n hx hb dX11_fill_0 rfl (lv_at hl 1 rfl) ?_
  obtain ⟨v_2, t_1, g_1, hf⟩ := fb_bs hf
  refine fw_S1 (As := [.int x1]) (rest := []) (n := 1) C (c_M_X11_isList (l := l) (D := D) (ca := ca) (a := a) g_1) kw_1737 kw_1738 kw_102 kw_1739 hP hS hl rfl rfl (by decide) (by decide +kernel) ⟨Nat.le_of_ble_eq_true rfl, Nat.le_of_ble_eq_true rfl⟩ rfl rfl (Nat.le_of_ble_eq_true rfl) dX11_fill_1 (fun H locs hP hS => ?_)
  refine W.eq (g2 := F0 m 4 ls [.int v_2]) rfl ?_
  refine lv_if_eq (tgt := 14) hx hb dX11_fill_4 (by decide) (fun h_4 => ?_) (fun h_4 => ?_)
  · have hf := fb_t h_4 hf
    exact w_M_X11_fill__0_14 C hr hf hP hS (lv_sub hl [] rfl)
  · have hf := fb_f h_4 hf
    exact w_M_X11_fill__0_7 C hr hf hP hS (lv_sub hl [0, 1, 2, 3, 4] rfl)
set_option maxRecDepth 20000 in
theorem c_M_X11_fill__0 {l : Launch} {D : va_G} {ca : Nat → ClassId} {a : Nat → Nat} {t : fw_S} {x1 : Int32} {x2 : Int32} {x3 : Int32} {x4 : Int32} {u : fw_S} {r : Int32} (hf : f_M_X11_fill__0 t x1 x2 x3 x4 = some (r, u)) : MC (WM ca a) D (tyv ca) l yX11_fill (.code yX11_fill prog_13_method_85_code 6 (some .int) :: lw_gd) rm_M_X11_fill__0 [.ref (a 0), .int x1, .int x2, .int x3, .int x4] (some (.int r)) t u := by
  refine fw_met (okM ca a) (by decide +kernel) rfl rfl (Nat.le_of_ble_eq_true rfl) ?_
  intro p e s m args below meth c A Q ls C hr hk hP hS hl hQ
  exact w_M_X11_fill__0_0 C (fun _ => fw_ri C hr hk hQ) hf hP hS (lv_sub hl [0, 1, 2, 3, 4] rfl)
/-! ReactiveSheetModel.pour(IIII)I ['m'] -/
abbrev rm_M_X11_pour__0 : Room := { frames := 4, cells := 0, slots := 0, locals := 85 }
def b_M_X11_pour__0_14  (t : fw_S)  : Option (Int32 × fw_S) := some ((-1 : Int32), t)
def b_M_X11_pour__0_30  (t : fw_S)  : Option (Int32 × fw_S) := some ((-2 : Int32), t)
def b_M_X11_pour__0_124  (t : fw_S)  : Option (Int32 × fw_S) := fb_b (f_M_X11_wave__0 t) fun v_2 t_1 => (some (v_2, t_1))
def b_M_X11_pour__0_94 (k87 : fw_S → Int32 → Int32 → Int32 → Int32 → Int32 → Option (Int32 × fw_S)) (t : fw_S) (x1 : Int32) (x2 : Int32) (x3 : Int32) (x4 : Int32) (x5 : Int32) : Option (Int32 × fw_S) := fb_g (¬ ((((((40 : Int32)) * x1) + x2) + x5) < 0 ∨ 160 ≤ (((((40 : Int32)) * x1) + x2) + x5).toNatClampNeg)) (fb_v (f_M_X11_tell__0 t (x3 + x5) ((1 : Int32)) (st_G t 7 (((((40 : Int32)) * x1) + x2) + x5).toNatClampNeg) ((0 : Int32))) fun t_1 => (k87 t_1 x1 x2 x3 x4 (x5 + 1)))
def b_M_X11_pour__0_87  : Nat → (fw_S → Int32 → Int32 → Int32 → Int32 → Int32 → Option (Int32 × fw_S))
  | 0 => fun _ _ _ _ _ _ => none
  | n + 1 => fun t x1 x2 x3 x4 x5 => if x4 ≤ x5 then b_M_X11_pour__0_124 t else b_M_X11_pour__0_94 (b_M_X11_pour__0_87 n) t x1 x2 x3 x4 x5
def b_M_X11_pour__0_80  (t : fw_S) (x1 : Int32) (x2 : Int32) (x3 : Int32) (x4 : Int32) : Option (Int32 × fw_S) := fb_v (f_M_X11_tellsNothing__0 t) fun t_1 => (b_M_X11_pour__0_87 3000 t_1 x1 x2 x3 x4 ((0 : Int32)))
def b_M_X11_pour__0_77  (t : fw_S)  : Option (Int32 × fw_S) := some ((-3 : Int32), t)
def b_M_X11_pour__0_70  (t : fw_S) (x1 : Int32) (x2 : Int32) (x3 : Int32) (x4 : Int32) : Option (Int32 × fw_S) := if (st_I t 0) = 0 then b_M_X11_pour__0_80 t x1 x2 x3 x4 else b_M_X11_pour__0_77 t
def b_M_X11_pour__0_67  (t : fw_S)  : Option (Int32 × fw_S) := some ((-13 : Int32), t)
def b_M_X11_pour__0_54  (t : fw_S) (x1 : Int32) (x2 : Int32) (x3 : Int32) (x4 : Int32) : Option (Int32 × fw_S) := fb_g (¬ (x1 < 0 ∨ 4 ≤ x1.toNatClampNeg)) (if x2 ≤ ((st_F t 38 x1.toNatClampNeg) - x4) then b_M_X11_pour__0_70 t x1 x2 x3 x4 else b_M_X11_pour__0_67 t)
def b_M_X11_pour__0_50  (t : fw_S) (x1 : Int32) (x2 : Int32) (x3 : Int32) (x4 : Int32) : Option (Int32 × fw_S) := if x2 < 0 then b_M_X11_pour__0_67 t else b_M_X11_pour__0_54 t x1 x2 x3 x4
def b_M_X11_pour__0_45  (t : fw_S) (x1 : Int32) (x2 : Int32) (x3 : Int32) (x4 : Int32) : Option (Int32 × fw_S) := if x4 ≤ 0 then b_M_X11_pour__0_70 t x1 x2 x3 x4 else b_M_X11_pour__0_50 t x1 x2 x3 x4
def b_M_X11_pour__0_42  (t : fw_S)  : Option (Int32 × fw_S) := some ((-11 : Int32), t)
def b_M_X11_pour__0_33  (t : fw_S) (x1 : Int32) (x2 : Int32) (x3 : Int32) (x4 : Int32) : Option (Int32 × fw_S) := fb_g (¬ (x1 < 0 ∨ 4 ≤ x1.toNatClampNeg)) (if 0 ≤ (st_F t 38 x1.toNatClampNeg) then b_M_X11_pour__0_45 t x1 x2 x3 x4 else b_M_X11_pour__0_42 t)
def b_M_X11_pour__0_21  (t : fw_S) (x1 : Int32) (x2 : Int32) (x3 : Int32) (x4 : Int32) : Option (Int32 × fw_S) := if x4 ≤ (((32 : Int32)) - x3) then b_M_X11_pour__0_33 t x1 x2 x3 x4 else b_M_X11_pour__0_30 t
def b_M_X11_pour__0_16  (t : fw_S) (x1 : Int32) (x2 : Int32) (x3 : Int32) (x4 : Int32) : Option (Int32 × fw_S) := if x4 < 0 then b_M_X11_pour__0_30 t else b_M_X11_pour__0_21 t x1 x2 x3 x4
def b_M_X11_pour__0_7  (t : fw_S) (x1 : Int32) (x2 : Int32) (x3 : Int32) (x4 : Int32) : Option (Int32 × fw_S) := fb_b (f_M_X11_isCell t x3) fun v_2 t_1 => (if v_2 = 0 then b_M_X11_pour__0_14 t_1 else b_M_X11_pour__0_16 t_1 x1 x2 x3 x4)
def b_M_X11_pour__0_0  (t : fw_S) (x1 : Int32) (x2 : Int32) (x3 : Int32) (x4 : Int32) : Option (Int32 × fw_S) := fb_b (f_M_X11_isList t x1) fun v_2 t_1 => (if v_2 = 0 then b_M_X11_pour__0_14 t_1 else b_M_X11_pour__0_7 t_1 x1 x2 x3 x4)
def f_M_X11_pour__0 (t : fw_S) (x1 : Int32) (x2 : Int32) (x3 : Int32) (x4 : Int32) : Option (Int32 × fw_S) := b_M_X11_pour__0_0 t x1 x2 x3 x4
set_option maxRecDepth 20000 in
theorem w_M_X11_pour__0_14 {p : Program} {l : Launch} {e : Env} {s : State} {m : MethodId} {args : Array Value} {below : List Frame} {meth : Method} {c : Code} {A : Nat → Prop} {Q : State → Prop} {D : va_G} {ca : Nat → ClassId} {a : Nat → Nat} {u : fw_S} {r : Int32}  (C : CX (WM ca a) D (tyv ca) p s m args c A prog_13_method_86_code 6 RX11) (hr : True → RX (WM ca a) D p l e rm_M_X11_pour__0 s m args below meth c A prog_13_method_86_code Q .ireturn [.int r] u) {t : fw_S}  {H : Heap} {locs : List Loc} {ls : Array Slot} (hf : b_M_X11_pour__0_14  t  = some (r, u)) (hP : va_P D classes (WM ca a t) H) (hS : va_S A s.heap H locs) (hl : lv_has ls 6 []) : W p l e rm_M_X11_pour__0 s m args below meth c H locs 0 0 Q (F0 m 14 ls []) := by
  obtain ⟨hx, hb, hml, hown, hts, hN, hK, hD, hA⟩ := id C
  have hf : (some ((-1 : Int32), t)) = some (r, u) := hf
  refine lv_iconst (v := (-1)) hx hb dX11_pour_14 (by decide) ?_
  obtain ⟨e_15, e2_15⟩ := fb_e hf
  subst e_15; subst e2_15
  exact hr trivial _ _ _ _ hP hS dX11_pour_15
set_option maxRecDepth 20000 in
theorem w_M_X11_pour__0_30 {p : Program} {l : Launch} {e : Env} {s : State} {m : MethodId} {args : Array Value} {below : List Frame} {meth : Method} {c : Code} {A : Nat → Prop} {Q : State → Prop} {D : va_G} {ca : Nat → ClassId} {a : Nat → Nat} {u : fw_S} {r : Int32}  (C : CX (WM ca a) D (tyv ca) p s m args c A prog_13_method_86_code 6 RX11) (hr : True → RX (WM ca a) D p l e rm_M_X11_pour__0 s m args below meth c A prog_13_method_86_code Q .ireturn [.int r] u) {t : fw_S}  {H : Heap} {locs : List Loc} {ls : Array Slot} (hf : b_M_X11_pour__0_30  t  = some (r, u)) (hP : va_P D classes (WM ca a t) H) (hS : va_S A s.heap H locs) (hl : lv_has ls 6 []) : W p l e rm_M_X11_pour__0 s m args below meth c H locs 0 0 Q (F0 m 30 ls []) := by
  obtain ⟨hx, hb, hml, hown, hts, hN, hK, hD, hA⟩ := id C
  have hf : (some ((-2 : Int32), t)) = some (r, u) := hf
  refine lv_bipush (v := (-2)) hx hb dX11_pour_30 (by decide) ?_
  obtain ⟨e_32, e2_32⟩ := fb_e hf
  subst e_32; subst e2_32
  exact hr trivial _ _ _ _ hP hS dX11_pour_32
set_option maxRecDepth 20000 in
theorem w_M_X11_pour__0_124 {p : Program} {l : Launch} {e : Env} {s : State} {m : MethodId} {args : Array Value} {below : List Frame} {meth : Method} {c : Code} {A : Nat → Prop} {Q : State → Prop} {D : va_G} {ca : Nat → ClassId} {a : Nat → Nat} {u : fw_S} {r : Int32}  (C : CX (WM ca a) D (tyv ca) p s m args c A prog_13_method_86_code 6 RX11) (hr : True → RX (WM ca a) D p l e rm_M_X11_pour__0 s m args below meth c A prog_13_method_86_code Q .ireturn [.int r] u) {t : fw_S}  {H : Heap} {locs : List Loc} {ls : Array Slot} (hf : b_M_X11_pour__0_124  t  = some (r, u)) (hP : va_P D classes (WM ca a t) H) (hS : va_S A s.heap H locs) (hl : lv_has ls 6 [(0, .ref (a 0))]) : W p l e rm_M_X11_pour__0 s m args below meth c H locs 0 0 Q (F0 m 124 ls []) := by
  obtain ⟨hx, hb, hml, hown, hts, hN, hK, hD, hA⟩ := id C
  have hf : (fb_b (f_M_X11_wave__0 t) fun v_2 t_1 => (some (v_2, t_1))) = some (r, u) := hf
  refine lv_aload_n hx hb dX11_pour_124 rfl (lv_at hl 0 rfl) ?_
  obtain ⟨v_2, t_1, g_125, hf⟩ := fb_bs hf
  refine fw_V1 (As := []) (rest := []) (n := 0) (q0 := 0) C (c_M_X11_wave__0 (l := l) (D := D) (ca := ca) (a := a) g_125) kw_1452 kw_1454 kw_102 kw_1455 kw_47 hP hS hl (heM_0 ca a t) rfl rfl rfl (by decide) (by decide +kernel) ⟨Nat.le_of_ble_eq_true rfl, Nat.le_of_ble_eq_true rfl⟩ rfl rfl (Nat.le_of_ble_eq_true rfl) dX11_pour_125 (fun H locs hP hS => ?_)
  refine W.eq (g2 := F0 m 128 ls [.int v_2]) rfl ?_
  obtain ⟨e_128, e2_128⟩ := fb_e hf
  subst e_128; subst e2_128
  exact hr trivial _ _ _ _ hP hS dX11_pour_128
set_option maxRecDepth 20000 in
theorem w_M_X11_pour__0_94 {p : Program} {l : Launch} {e : Env} {s : State} {m : MethodId} {args : Array Value} {below : List Frame} {meth : Method} {c : Code} {A : Nat → Prop} {Q : State → Prop} {D : va_G} {ca : Nat → ClassId} {a : Nat → Nat} {u : fw_S} {r : Int32} {k87 : fw_S → Int32 → Int32 → Int32 → Int32 → Int32 → Option (Int32 × fw_S)} (C : CX (WM ca a) D (tyv ca) p s m args c A prog_13_method_86_code 6 RX11) (hr : True → RX (WM ca a) D p l e rm_M_X11_pour__0 s m args below meth c A prog_13_method_86_code Q .ireturn [.int r] u) (hk87 : ∀ (t : fw_S) (x1 : Int32) (x2 : Int32) (x3 : Int32) (x4 : Int32) (x5 : Int32) (H : Heap) (locs : List Loc) (ls : Array Slot), k87 t x1 x2 x3 x4 x5 = some (r, u) → va_P D classes (WM ca a t) H → va_S A s.heap H locs → lv_has ls 6 [(0, .ref (a 0)), (1, .int x1), (2, .int x2), (3, .int x3), (4, .int x4), (5, .int x5)] → W p l e rm_M_X11_pour__0 s m args below meth c H locs 0 0 Q (F0 m 87 ls [])) {t : fw_S} {x1 : Int32} {x2 : Int32} {x3 : Int32} {x4 : Int32} {x5 : Int32} {H : Heap} {locs : List Loc} {ls : Array Slot} (hf : b_M_X11_pour__0_94 k87 t x1 x2 x3 x4 x5 = some (r, u)) (hP : va_P D classes (WM ca a t) H) (hS : va_S A s.heap H locs) (hl : lv_has ls 6 [(0, .ref (a 0)), (1, .int x1), (2, .int x2), (3, .int x3), (4, .int x4), (5, .int x5)]) : W p l e rm_M_X11_pour__0 s m args below meth c H locs 0 0 Q (F0 m 94 ls []) := by
  obtain ⟨hx, hb, hml, hown, hts, hN, hK, hD, hA⟩ := id C
  have hf : (fb_g (¬ ((((((40 : Int32)) * x1) + x2) + x5) < 0 ∨ 160 ≤ (((((40 : Int32)) * x1) + x2) + x5).toNatClampNeg)) (fb_v (f_M_X11_tell__0 t (x3 + x5) ((1 : Int32)) (st_G t 7 (((((40 : Int32)) * x1) + x2) + x5).toNatClampNeg) ((0 : Int32))) fun t_1 => (k87 t_1 x1 x2 x3 x4 (x5 + 1)))) = some (r, u) := hf
  refine lv_aload_n hx hb dX11_pour_94 rfl (lv_at hl 0 rfl) ?_
  refine lv_iload_n hx hb dX11_pour_95 rfl (lv_at hl 3 rfl) ?_
  refine lv_iload hx hb dX11_pour_96 (lv_at hl 5 rfl) ?_
  refine lv_iadd hx hb dX11_pour_98 ?_
  refine lv_iconst (v := 1) hx hb dX11_pour_99 (by decide) ?_
  refine lv_aload_n hx hb dX11_pour_100 rfl (lv_at hl 0 rfl) ?_
  refine va_get (D := D) (ci := 11) (v := .ref (a 46)) (C := RX11) (T := TX11) (N := 76) hx hb hts inX11 hown hK hP 0 (heM_0 ca a t) rfl 63 (by decide) (hts _ kw_1255) (fun _ h9 => h9) rfl dX11_pour_101 ?_
  refine lv_bipush (v := 40) hx hb dX11_pour_104 (by decide) ?_
  refine lv_iload_n hx hb dX11_pour_106 rfl (lv_at hl 1 rfl) ?_
  refine lv_imul hx hb dX11_pour_107 ?_
  refine lv_iload_n hx hb dX11_pour_108 rfl (lv_at hl 2 rfl) ?_
  refine lv_iadd hx hb dX11_pour_109 ?_
  refine lv_iload hx hb dX11_pour_110 (lv_at hl 5 rfl) ?_
  refine lv_iadd hx hb dX11_pour_112 ?_
  obtain ⟨h_113, hf⟩ := fb_if hf
  refine va_lald hx hb hK hP 46 1 (haM_46 ca a t) rfl h_113 dX11_pour_113 ?_
  refine lv_iconst (v := 0) hx hb dX11_pour_114 (by decide) ?_
  obtain ⟨t_1, g_115, hf⟩ := fb_vs hf
  refine fw_V1 (As := [.int (x3 + x5), .int ((1 : Int32)), .long (st_G t 7 (((((40 : Int32)) * x1) + x2) + x5).toNatClampNeg), .int ((0 : Int32))]) (rest := []) (n := 4) (q0 := 0) C (c_M_X11_tell__0 (l := l) (D := D) (ca := ca) (a := a) g_115) kw_1448 kw_1450 kw_102 kw_1451 kw_46 hP hS hl (heM_0 ca a t) rfl rfl rfl (by decide) (by decide +kernel) ⟨Nat.le_of_ble_eq_true rfl, Nat.le_of_ble_eq_true rfl⟩ rfl rfl (Nat.le_of_ble_eq_true rfl) dX11_pour_115 (fun H locs hP hS => ?_)
  refine W.eq (g2 := F0 m 118 ls []) rfl ?_
  refine lv_iinc (v := x5 + 1) (lv' := [(5, .int (x5 + 1)), (0, .ref (a 0)), (1, .int x1), (2, .int x2), (3, .int x3), (4, .int x4)]) hx hb dX11_pour_118 hl (k := 5) rfl rfl (by decide) rfl (fun ls hl => ?_)
  refine lv_goto (tgt := 87) hx hb dX11_pour_121 (by decide) ?_
  exact hk87 t_1 x1 x2 x3 x4 (x5 + 1) _ _ _ hf hP hS (lv_sub hl [1, 2, 3, 4, 5, 0] rfl)
set_option maxRecDepth 20000 in
theorem w_M_X11_pour__0_87 {p : Program} {l : Launch} {e : Env} {s : State} {m : MethodId} {args : Array Value} {below : List Frame} {meth : Method} {c : Code} {A : Nat → Prop} {Q : State → Prop} {D : va_G} {ca : Nat → ClassId} {a : Nat → Nat} {u : fw_S} {r : Int32}  (C : CX (WM ca a) D (tyv ca) p s m args c A prog_13_method_86_code 6 RX11) (hr : True → RX (WM ca a) D p l e rm_M_X11_pour__0 s m args below meth c A prog_13_method_86_code Q .ireturn [.int r] u) : ∀ (n : Nat) (t : fw_S) (x1 : Int32) (x2 : Int32) (x3 : Int32) (x4 : Int32) (x5 : Int32) (H : Heap) (locs : List Loc) (ls : Array Slot), b_M_X11_pour__0_87  n t x1 x2 x3 x4 x5 = some (r, u) → va_P D classes (WM ca a t) H → va_S A s.heap H locs → lv_has ls 6 [(0, .ref (a 0)), (1, .int x1), (2, .int x2), (3, .int x3), (4, .int x4), (5, .int x5)] → W p l e rm_M_X11_pour__0 s m args below meth c H locs 0 0 Q (F0 m 87 ls []) := by
  obtain ⟨hx, hb, hml, hown, hts, hN, hK, hD, hA⟩ := id C
  intro n
  induction n with
  | zero => intro t x1 x2 x3 x4 x5 H locs ls hf; cases hf
  | succ n hk87 =>
    intro t x1 x2 x3 x4 x5 H locs ls hf hP hS hl
    have hf : (if x4 ≤ x5 then b_M_X11_pour__0_124 t else b_M_X11_pour__0_94 (b_M_X11_pour__0_87 n) t x1 x2 x3 x4 x5) = some (r, u) := hf
    refine lv_iload hx hb dX11_pour_87 (lv_at hl 5 rfl) ?_
    refine lv_iload hx hb dX11_pour_89 (lv_at hl 4 rfl) ?_
    refine lv_icmp_ge (tgt := 124) hx hb dX11_pour_91 (by decide) (fun h_91 => ?_) (fun h_91 => ?_)
    · have hf := fb_t h_91 hf
      exact w_M_X11_pour__0_124 C hr hf hP hS (lv_sub hl [0] rfl)
    · have hf := fb_f h_91 hf
      exact w_M_X11_pour__0_94 C hr hk87 hf hP hS (lv_sub hl [0, 1, 2, 3, 4, 5] rfl)
set_option maxRecDepth 20000 in
theorem w_M_X11_pour__0_80 {p : Program} {l : Launch} {e : Env} {s : State} {m : MethodId} {args : Array Value} {below : List Frame} {meth : Method} {c : Code} {A : Nat → Prop} {Q : State → Prop} {D : va_G} {ca : Nat → ClassId} {a : Nat → Nat} {u : fw_S} {r : Int32}  (C : CX (WM ca a) D (tyv ca) p s m args c A prog_13_method_86_code 6 RX11) (hr : True → RX (WM ca a) D p l e rm_M_X11_pour__0 s m args below meth c A prog_13_method_86_code Q .ireturn [.int r] u) {t : fw_S} {x1 : Int32} {x2 : Int32} {x3 : Int32} {x4 : Int32} {H : Heap} {locs : List Loc} {ls : Array Slot} (hf : b_M_X11_pour__0_80  t x1 x2 x3 x4 = some (r, u)) (hP : va_P D classes (WM ca a t) H) (hS : va_S A s.heap H locs) (hl : lv_has ls 6 [(0, .ref (a 0)), (1, .int x1), (2, .int x2), (3, .int x3), (4, .int x4)]) : W p l e rm_M_X11_pour__0 s m args below meth c H locs 0 0 Q (F0 m 80 ls []) := by
  obtain ⟨hx, hb, hml, hown, hts, hN, hK, hD, hA⟩ := id C
  have hf : (fb_v (f_M_X11_tellsNothing__0 t) fun t_1 => (b_M_X11_pour__0_87 3000 t_1 x1 x2 x3 x4 ((0 : Int32)))) = some (r, u) := hf
  refine lv_aload_n hx hb dX11_pour_80 rfl (lv_at hl 0 rfl) ?_
  obtain ⟨t_1, g_81, hf⟩ := fb_vs hf
  refine fw_V1 (As := []) (rest := []) (n := 0) (q0 := 0) C (c_M_X11_tellsNothing__0 (l := l) (D := D) (ca := ca) (a := a) g_81) kw_1444 kw_1446 kw_102 kw_1447 kw_45 hP hS hl (heM_0 ca a t) rfl rfl rfl (by decide) (by decide +kernel) ⟨Nat.le_of_ble_eq_true rfl, Nat.le_of_ble_eq_true rfl⟩ rfl rfl (Nat.le_of_ble_eq_true rfl) dX11_pour_81 (fun H locs hP hS => ?_)
  refine W.eq (g2 := F0 m 84 ls []) rfl ?_
  refine lv_iconst (v := 0) hx hb dX11_pour_84 (by decide) ?_
  refine lv_istore (lv' := [(5, .int ((0 : Int32))), (0, .ref (a 0)), (1, .int x1), (2, .int x2), (3, .int x3), (4, .int x4)]) hx hb dX11_pour_85 hl (by decide) rfl (fun ls hl => ?_)
  exact w_M_X11_pour__0_87 C hr 3000 t_1 x1 x2 x3 x4 ((0 : Int32)) _ _ _ hf hP hS (lv_sub hl [1, 2, 3, 4, 5, 0] rfl)
set_option maxRecDepth 20000 in
theorem w_M_X11_pour__0_77 {p : Program} {l : Launch} {e : Env} {s : State} {m : MethodId} {args : Array Value} {below : List Frame} {meth : Method} {c : Code} {A : Nat → Prop} {Q : State → Prop} {D : va_G} {ca : Nat → ClassId} {a : Nat → Nat} {u : fw_S} {r : Int32}  (C : CX (WM ca a) D (tyv ca) p s m args c A prog_13_method_86_code 6 RX11) (hr : True → RX (WM ca a) D p l e rm_M_X11_pour__0 s m args below meth c A prog_13_method_86_code Q .ireturn [.int r] u) {t : fw_S}  {H : Heap} {locs : List Loc} {ls : Array Slot} (hf : b_M_X11_pour__0_77  t  = some (r, u)) (hP : va_P D classes (WM ca a t) H) (hS : va_S A s.heap H locs) (hl : lv_has ls 6 []) : W p l e rm_M_X11_pour__0 s m args below meth c H locs 0 0 Q (F0 m 77 ls []) := by
  obtain ⟨hx, hb, hml, hown, hts, hN, hK, hD, hA⟩ := id C
  have hf : (some ((-3 : Int32), t)) = some (r, u) := hf
  refine lv_bipush (v := (-3)) hx hb dX11_pour_77 (by decide) ?_
  obtain ⟨e_79, e2_79⟩ := fb_e hf
  subst e_79; subst e2_79
  exact hr trivial _ _ _ _ hP hS dX11_pour_79
set_option maxRecDepth 20000 in
theorem w_M_X11_pour__0_70 {p : Program} {l : Launch} {e : Env} {s : State} {m : MethodId} {args : Array Value} {below : List Frame} {meth : Method} {c : Code} {A : Nat → Prop} {Q : State → Prop} {D : va_G} {ca : Nat → ClassId} {a : Nat → Nat} {u : fw_S} {r : Int32}  (C : CX (WM ca a) D (tyv ca) p s m args c A prog_13_method_86_code 6 RX11) (hr : True → RX (WM ca a) D p l e rm_M_X11_pour__0 s m args below meth c A prog_13_method_86_code Q .ireturn [.int r] u) {t : fw_S} {x1 : Int32} {x2 : Int32} {x3 : Int32} {x4 : Int32} {H : Heap} {locs : List Loc} {ls : Array Slot} (hf : b_M_X11_pour__0_70  t x1 x2 x3 x4 = some (r, u)) (hP : va_P D classes (WM ca a t) H) (hS : va_S A s.heap H locs) (hl : lv_has ls 6 [(0, .ref (a 0)), (1, .int x1), (2, .int x2), (3, .int x3), (4, .int x4)]) : W p l e rm_M_X11_pour__0 s m args below meth c H locs 0 0 Q (F0 m 70 ls []) := by
  obtain ⟨hx, hb, hml, hown, hts, hN, hK, hD, hA⟩ := id C
  have hf : (if (st_I t 0) = 0 then b_M_X11_pour__0_80 t x1 x2 x3 x4 else b_M_X11_pour__0_77 t) = some (r, u) := hf
  refine lv_aload_n hx hb dX11_pour_70 rfl (lv_at hl 0 rfl) ?_
  refine va_get (D := D) (ci := 11) (v := .int (st_I t 0)) (C := RX11) (T := TX11) (N := 76) hx hb hts inX11 hown hK hP 0 (heM_0 ca a t) rfl 22 (by decide) (hts _ kw_1214) (fun _ h9 => h9) rfl dX11_pour_71 ?_
  refine lv_if_eq (tgt := 80) hx hb dX11_pour_74 (by decide) (fun h_74 => ?_) (fun h_74 => ?_)
  · have hf := fb_t h_74 hf
    exact w_M_X11_pour__0_80 C hr hf hP hS (lv_sub hl [0, 1, 2, 3, 4] rfl)
  · have hf := fb_f h_74 hf
    exact w_M_X11_pour__0_77 C hr hf hP hS (lv_sub hl [] rfl)
set_option maxRecDepth 20000 in
theorem w_M_X11_pour__0_67 {p : Program} {l : Launch} {e : Env} {s : State} {m : MethodId} {args : Array Value} {below : List Frame} {meth : Method} {c : Code} {A : Nat → Prop} {Q : State → Prop} {D : va_G} {ca : Nat → ClassId} {a : Nat → Nat} {u : fw_S} {r : Int32}  (C : CX (WM ca a) D (tyv ca) p s m args c A prog_13_method_86_code 6 RX11) (hr : True → RX (WM ca a) D p l e rm_M_X11_pour__0 s m args below meth c A prog_13_method_86_code Q .ireturn [.int r] u) {t : fw_S}  {H : Heap} {locs : List Loc} {ls : Array Slot} (hf : b_M_X11_pour__0_67  t  = some (r, u)) (hP : va_P D classes (WM ca a t) H) (hS : va_S A s.heap H locs) (hl : lv_has ls 6 []) : W p l e rm_M_X11_pour__0 s m args below meth c H locs 0 0 Q (F0 m 67 ls []) := by
  obtain ⟨hx, hb, hml, hown, hts, hN, hK, hD, hA⟩ := id C
  have hf : (some ((-13 : Int32), t)) = some (r, u) := hf
  refine lv_bipush (v := (-13)) hx hb dX11_pour_67 (by decide) ?_
  obtain ⟨e_69, e2_69⟩ := fb_e hf
  subst e_69; subst e2_69
  exact hr trivial _ _ _ _ hP hS dX11_pour_69
set_option maxRecDepth 20000 in
theorem w_M_X11_pour__0_54 {p : Program} {l : Launch} {e : Env} {s : State} {m : MethodId} {args : Array Value} {below : List Frame} {meth : Method} {c : Code} {A : Nat → Prop} {Q : State → Prop} {D : va_G} {ca : Nat → ClassId} {a : Nat → Nat} {u : fw_S} {r : Int32}  (C : CX (WM ca a) D (tyv ca) p s m args c A prog_13_method_86_code 6 RX11) (hr : True → RX (WM ca a) D p l e rm_M_X11_pour__0 s m args below meth c A prog_13_method_86_code Q .ireturn [.int r] u) {t : fw_S} {x1 : Int32} {x2 : Int32} {x3 : Int32} {x4 : Int32} {H : Heap} {locs : List Loc} {ls : Array Slot} (hf : b_M_X11_pour__0_54  t x1 x2 x3 x4 = some (r, u)) (hP : va_P D classes (WM ca a t) H) (hS : va_S A s.heap H locs) (hl : lv_has ls 6 [(0, .ref (a 0)), (1, .int x1), (2, .int x2), (3, .int x3), (4, .int x4)]) : W p l e rm_M_X11_pour__0 s m args below meth c H locs 0 0 Q (F0 m 54 ls []) := by
  obtain ⟨hx, hb, hml, hown, hts, hN, hK, hD, hA⟩ := id C
  have hf : (fb_g (¬ (x1 < 0 ∨ 4 ≤ x1.toNatClampNeg)) (if x2 ≤ ((st_F t 38 x1.toNatClampNeg) - x4) then b_M_X11_pour__0_70 t x1 x2 x3 x4 else b_M_X11_pour__0_67 t)) = some (r, u) := hf
  refine lv_iload_n hx hb dX11_pour_54 rfl (lv_at hl 2 rfl) ?_
  refine lv_aload_n hx hb dX11_pour_55 rfl (lv_at hl 0 rfl) ?_
  refine va_get (D := D) (ci := 11) (v := .ref (a 47)) (C := RX11) (T := TX11) (N := 76) hx hb hts inX11 hown hK hP 0 (heM_0 ca a t) rfl 64 (by decide) (hts _ kw_1256) (fun _ h9 => h9) rfl dX11_pour_56 ?_
  refine lv_iload_n hx hb dX11_pour_59 rfl (lv_at hl 1 rfl) ?_
  obtain ⟨h_60, hf⟩ := fb_if hf
  refine va_iald hx hb hK hP 47 0 (haM_47 ca a t) rfl h_60 dX11_pour_60 ?_
  refine lv_iload hx hb dX11_pour_61 (lv_at hl 4 rfl) ?_
  refine lv_isub hx hb dX11_pour_63 ?_
  refine lv_icmp_le (tgt := 70) hx hb dX11_pour_64 (by decide) (fun h_64 => ?_) (fun h_64 => ?_)
  · have hf := fb_t h_64 hf
    exact w_M_X11_pour__0_70 C hr hf hP hS (lv_sub hl [0, 1, 2, 3, 4] rfl)
  · have hf := fb_f h_64 hf
    exact w_M_X11_pour__0_67 C hr hf hP hS (lv_sub hl [] rfl)
set_option maxRecDepth 20000 in
theorem w_M_X11_pour__0_50 {p : Program} {l : Launch} {e : Env} {s : State} {m : MethodId} {args : Array Value} {below : List Frame} {meth : Method} {c : Code} {A : Nat → Prop} {Q : State → Prop} {D : va_G} {ca : Nat → ClassId} {a : Nat → Nat} {u : fw_S} {r : Int32}  (C : CX (WM ca a) D (tyv ca) p s m args c A prog_13_method_86_code 6 RX11) (hr : True → RX (WM ca a) D p l e rm_M_X11_pour__0 s m args below meth c A prog_13_method_86_code Q .ireturn [.int r] u) {t : fw_S} {x1 : Int32} {x2 : Int32} {x3 : Int32} {x4 : Int32} {H : Heap} {locs : List Loc} {ls : Array Slot} (hf : b_M_X11_pour__0_50  t x1 x2 x3 x4 = some (r, u)) (hP : va_P D classes (WM ca a t) H) (hS : va_S A s.heap H locs) (hl : lv_has ls 6 [(0, .ref (a 0)), (1, .int x1), (2, .int x2), (3, .int x3), (4, .int x4)]) : W p l e rm_M_X11_pour__0 s m args below meth c H locs 0 0 Q (F0 m 50 ls []) := by
  obtain ⟨hx, hb, hml, hown, hts, hN, hK, hD, hA⟩ := id C
  have hf : (if x2 < 0 then b_M_X11_pour__0_67 t else b_M_X11_pour__0_54 t x1 x2 x3 x4) = some (r, u) := hf
  refine lv_iload_n hx hb dX11_pour_50 rfl (lv_at hl 2 rfl) ?_
  refine lv_if_lt (tgt := 67) hx hb dX11_pour_51 (by decide) (fun h_51 => ?_) (fun h_51 => ?_)
  · have hf := fb_t h_51 hf
    exact w_M_X11_pour__0_67 C hr hf hP hS (lv_sub hl [] rfl)
  · have hf := fb_f h_51 hf
    exact w_M_X11_pour__0_54 C hr hf hP hS (lv_sub hl [0, 1, 2, 3, 4] rfl)
set_option maxRecDepth 20000 in
theorem w_M_X11_pour__0_45 {p : Program} {l : Launch} {e : Env} {s : State} {m : MethodId} {args : Array Value} {below : List Frame} {meth : Method} {c : Code} {A : Nat → Prop} {Q : State → Prop} {D : va_G} {ca : Nat → ClassId} {a : Nat → Nat} {u : fw_S} {r : Int32}  (C : CX (WM ca a) D (tyv ca) p s m args c A prog_13_method_86_code 6 RX11) (hr : True → RX (WM ca a) D p l e rm_M_X11_pour__0 s m args below meth c A prog_13_method_86_code Q .ireturn [.int r] u) {t : fw_S} {x1 : Int32} {x2 : Int32} {x3 : Int32} {x4 : Int32} {H : Heap} {locs : List Loc} {ls : Array Slot} (hf : b_M_X11_pour__0_45  t x1 x2 x3 x4 = some (r, u)) (hP : va_P D classes (WM ca a t) H) (hS : va_S A s.heap H locs) (hl : lv_has ls 6 [(0, .ref (a 0)), (1, .int x1), (2, .int x2), (3, .int x3), (4, .int x4)]) : W p l e rm_M_X11_pour__0 s m args below meth c H locs 0 0 Q (F0 m 45 ls []) := by
  obtain ⟨hx, hb, hml, hown, hts, hN, hK, hD, hA⟩ := id C
  have hf : (if x4 ≤ 0 then b_M_X11_pour__0_70 t x1 x2 x3 x4 else b_M_X11_pour__0_50 t x1 x2 x3 x4) = some (r, u) := hf
  refine lv_iload hx hb dX11_pour_45 (lv_at hl 4 rfl) ?_
  refine lv_if_le (tgt := 70) hx hb dX11_pour_47 (by decide) (fun h_47 => ?_) (fun h_47 => ?_)
  · have hf := fb_t h_47 hf
    exact w_M_X11_pour__0_70 C hr hf hP hS (lv_sub hl [0, 1, 2, 3, 4] rfl)
  · have hf := fb_f h_47 hf
    exact w_M_X11_pour__0_50 C hr hf hP hS (lv_sub hl [0, 1, 2, 3, 4] rfl)
set_option maxRecDepth 20000 in
theorem w_M_X11_pour__0_42 {p : Program} {l : Launch} {e : Env} {s : State} {m : MethodId} {args : Array Value} {below : List Frame} {meth : Method} {c : Code} {A : Nat → Prop} {Q : State → Prop} {D : va_G} {ca : Nat → ClassId} {a : Nat → Nat} {u : fw_S} {r : Int32}  (C : CX (WM ca a) D (tyv ca) p s m args c A prog_13_method_86_code 6 RX11) (hr : True → RX (WM ca a) D p l e rm_M_X11_pour__0 s m args below meth c A prog_13_method_86_code Q .ireturn [.int r] u) {t : fw_S}  {H : Heap} {locs : List Loc} {ls : Array Slot} (hf : b_M_X11_pour__0_42  t  = some (r, u)) (hP : va_P D classes (WM ca a t) H) (hS : va_S A s.heap H locs) (hl : lv_has ls 6 []) : W p l e rm_M_X11_pour__0 s m args below meth c H locs 0 0 Q (F0 m 42 ls []) := by
  obtain ⟨hx, hb, hml, hown, hts, hN, hK, hD, hA⟩ := id C
  have hf : (some ((-11 : Int32), t)) = some (r, u) := hf
  refine lv_bipush (v := (-11)) hx hb dX11_pour_42 (by decide) ?_
  obtain ⟨e_44, e2_44⟩ := fb_e hf
  subst e_44; subst e2_44
  exact hr trivial _ _ _ _ hP hS dX11_pour_44
set_option maxRecDepth 20000 in
theorem w_M_X11_pour__0_33 {p : Program} {l : Launch} {e : Env} {s : State} {m : MethodId} {args : Array Value} {below : List Frame} {meth : Method} {c : Code} {A : Nat → Prop} {Q : State → Prop} {D : va_G} {ca : Nat → ClassId} {a : Nat → Nat} {u : fw_S} {r : Int32}  (C : CX (WM ca a) D (tyv ca) p s m args c A prog_13_method_86_code 6 RX11) (hr : True → RX (WM ca a) D p l e rm_M_X11_pour__0 s m args below meth c A prog_13_method_86_code Q .ireturn [.int r] u) {t : fw_S} {x1 : Int32} {x2 : Int32} {x3 : Int32} {x4 : Int32} {H : Heap} {locs : List Loc} {ls : Array Slot} (hf : b_M_X11_pour__0_33  t x1 x2 x3 x4 = some (r, u)) (hP : va_P D classes (WM ca a t) H) (hS : va_S A s.heap H locs) (hl : lv_has ls 6 [(0, .ref (a 0)), (1, .int x1), (2, .int x2), (3, .int x3), (4, .int x4)]) : W p l e rm_M_X11_pour__0 s m args below meth c H locs 0 0 Q (F0 m 33 ls []) := by
  obtain ⟨hx, hb, hml, hown, hts, hN, hK, hD, hA⟩ := id C
  have hf : (fb_g (¬ (x1 < 0 ∨ 4 ≤ x1.toNatClampNeg)) (if 0 ≤ (st_F t 38 x1.toNatClampNeg) then b_M_X11_pour__0_45 t x1 x2 x3 x4 else b_M_X11_pour__0_42 t)) = some (r, u) := hf
  refine lv_aload_n hx hb dX11_pour_33 rfl (lv_at hl 0 rfl) ?_
  refine va_get (D := D) (ci := 11) (v := .ref (a 47)) (C := RX11) (T := TX11) (N := 76) hx hb hts inX11 hown hK hP 0 (heM_0 ca a t) rfl 64 (by decide) (hts _ kw_1256) (fun _ h9 => h9) rfl dX11_pour_34 ?_
  refine lv_iload_n hx hb dX11_pour_37 rfl (lv_at hl 1 rfl) ?_
  obtain ⟨h_38, hf⟩ := fb_if hf
  refine va_iald hx hb hK hP 47 0 (haM_47 ca a t) rfl h_38 dX11_pour_38 ?_
  refine lv_if_ge (tgt := 45) hx hb dX11_pour_39 (by decide) (fun h_39 => ?_) (fun h_39 => ?_)
  · have hf := fb_t h_39 hf
    exact w_M_X11_pour__0_45 C hr hf hP hS (lv_sub hl [0, 1, 2, 3, 4] rfl)
  · have hf := fb_f h_39 hf
    exact w_M_X11_pour__0_42 C hr hf hP hS (lv_sub hl [] rfl)
set_option maxRecDepth 20000 in
theorem w_M_X11_pour__0_21 {p : Program} {l : Launch} {e : Env} {s : State} {m : MethodId} {args : Array Value} {below : List Frame} {meth : Method} {c : Code} {A : Nat → Prop} {Q : State → Prop} {D : va_G} {ca : Nat → ClassId} {a : Nat → Nat} {u : fw_S} {r : Int32}  (C : CX (WM ca a) D (tyv ca) p s m args c A prog_13_method_86_code 6 RX11) (hr : True → RX (WM ca a) D p l e rm_M_X11_pour__0 s m args below meth c A prog_13_method_86_code Q .ireturn [.int r] u) {t : fw_S} {x1 : Int32} {x2 : Int32} {x3 : Int32} {x4 : Int32} {H : Heap} {locs : List Loc} {ls : Array Slot} (hf : b_M_X11_pour__0_21  t x1 x2 x3 x4 = some (r, u)) (hP : va_P D classes (WM ca a t) H) (hS : va_S A s.heap H locs) (hl : lv_has ls 6 [(0, .ref (a 0)), (1, .int x1), (2, .int x2), (3, .int x3), (4, .int x4)]) : W p l e rm_M_X11_pour__0 s m args below meth c H locs 0 0 Q (F0 m 21 ls []) := by
  obtain ⟨hx, hb, hml, hown, hts, hN, hK, hD, hA⟩ := id C
  have hf : (if x4 ≤ (((32 : Int32)) - x3) then b_M_X11_pour__0_33 t x1 x2 x3 x4 else b_M_X11_pour__0_30 t) = some (r, u) := hf
  refine lv_iload hx hb dX11_pour_21 (lv_at hl 4 rfl) ?_
  refine lv_bipush (v := 32) hx hb dX11_pour_23 (by decide) ?_
  refine lv_iload_n hx hb dX11_pour_25 rfl (lv_at hl 3 rfl) ?_
  refine lv_isub hx hb dX11_pour_26 ?_
  refine lv_icmp_le (tgt := 33) hx hb dX11_pour_27 (by decide) (fun h_27 => ?_) (fun h_27 => ?_)
  · have hf := fb_t h_27 hf
    exact w_M_X11_pour__0_33 C hr hf hP hS (lv_sub hl [0, 1, 2, 3, 4] rfl)
  · have hf := fb_f h_27 hf
    exact w_M_X11_pour__0_30 C hr hf hP hS (lv_sub hl [] rfl)
set_option maxRecDepth 20000 in
theorem w_M_X11_pour__0_16 {p : Program} {l : Launch} {e : Env} {s : State} {m : MethodId} {args : Array Value} {below : List Frame} {meth : Method} {c : Code} {A : Nat → Prop} {Q : State → Prop} {D : va_G} {ca : Nat → ClassId} {a : Nat → Nat} {u : fw_S} {r : Int32}  (C : CX (WM ca a) D (tyv ca) p s m args c A prog_13_method_86_code 6 RX11) (hr : True → RX (WM ca a) D p l e rm_M_X11_pour__0 s m args below meth c A prog_13_method_86_code Q .ireturn [.int r] u) {t : fw_S} {x1 : Int32} {x2 : Int32} {x3 : Int32} {x4 : Int32} {H : Heap} {locs : List Loc} {ls : Array Slot} (hf : b_M_X11_pour__0_16  t x1 x2 x3 x4 = some (r, u)) (hP : va_P D classes (WM ca a t) H) (hS : va_S A s.heap H locs) (hl : lv_has ls 6 [(0, .ref (a 0)), (1, .int x1), (2, .int x2), (3, .int x3), (4, .int x4)]) : W p l e rm_M_X11_pour__0 s m args below meth c H locs 0 0 Q (F0 m 16 ls []) := by
  obtain ⟨hx, hb, hml, hown, hts, hN, hK, hD, hA⟩ := id C
  have hf : (if x4 < 0 then b_M_X11_pour__0_30 t else b_M_X11_pour__0_21 t x1 x2 x3 x4) = some (r, u) := hf
  refine lv_iload hx hb dX11_pour_16 (lv_at hl 4 rfl) ?_
  refine lv_if_lt (tgt := 30) hx hb dX11_pour_18 (by decide) (fun h_18 => ?_) (fun h_18 => ?_)
  · have hf := fb_t h_18 hf
    exact w_M_X11_pour__0_30 C hr hf hP hS (lv_sub hl [] rfl)
  · have hf := fb_f h_18 hf
    exact w_M_X11_pour__0_21 C hr hf hP hS (lv_sub hl [0, 1, 2, 3, 4] rfl)
set_option maxRecDepth 20000 in
theorem w_M_X11_pour__0_7 {p : Program} {l : Launch} {e : Env} {s : State} {m : MethodId} {args : Array Value} {below : List Frame} {meth : Method} {c : Code} {A : Nat → Prop} {Q : State → Prop} {D : va_G} {ca : Nat → ClassId} {a : Nat → Nat} {u : fw_S} {r : Int32}  (C : CX (WM ca a) D (tyv ca) p s m args c A prog_13_method_86_code 6 RX11) (hr : True → RX (WM ca a) D p l e rm_M_X11_pour__0 s m args below meth c A prog_13_method_86_code Q .ireturn [.int r] u) {t : fw_S} {x1 : Int32} {x2 : Int32} {x3 : Int32} {x4 : Int32} {H : Heap} {locs : List Loc} {ls : Array Slot} (hf : b_M_X11_pour__0_7  t x1 x2 x3 x4 = some (r, u)) (hP : va_P D classes (WM ca a t) H) (hS : va_S A s.heap H locs) (hl : lv_has ls 6 [(0, .ref (a 0)), (1, .int x1), (2, .int x2), (3, .int x3), (4, .int x4)]) : W p l e rm_M_X11_pour__0 s m args below meth c H locs 0 0 Q (F0 m 7 ls []) := by
  obtain ⟨hx, hb, hml, hown, hts, hN, hK, hD, hA⟩ := id C
  have hf : (fb_b (f_M_X11_isCell t x3) fun v_2 t_1 => (if v_2 = 0 then b_M_X11_pour__0_14 t_1 else b_M_X11_pour__0_16 t_1 x1 x2 x3 x4)) = some (r, u) := hf
  refine lv_iload_n hx hb dX11_pour_7 rfl (lv_at hl 3 rfl) ?_
  obtain ⟨v_2, t_1, g_8, hf⟩ := fb_bs hf
  refine fw_S1 (As := [.int x3]) (rest := []) (n := 1) C (c_M_X11_isCell (l := l) (D := D) (ca := ca) (a := a) g_8) kw_1437 kw_1438 kw_102 kw_1439 hP hS hl rfl rfl (by decide) (by decide +kernel) ⟨Nat.le_of_ble_eq_true rfl, Nat.le_of_ble_eq_true rfl⟩ rfl rfl (Nat.le_of_ble_eq_true rfl) dX11_pour_8 (fun H locs hP hS => ?_)
  refine W.eq (g2 := F0 m 11 ls [.int v_2]) rfl ?_
  refine lv_if_ne (tgt := 16) hx hb dX11_pour_11 (by decide) (fun h_11 => ?_) (fun h_11 => ?_)
  · have hf := fb_f h_11 hf
    exact w_M_X11_pour__0_16 C hr hf hP hS (lv_sub hl [0, 1, 2, 3, 4] rfl)
  · have hf := fb_t h_11 hf
    exact w_M_X11_pour__0_14 C hr hf hP hS (lv_sub hl [] rfl)
set_option maxRecDepth 20000 in
theorem w_M_X11_pour__0_0 {p : Program} {l : Launch} {e : Env} {s : State} {m : MethodId} {args : Array Value} {below : List Frame} {meth : Method} {c : Code} {A : Nat → Prop} {Q : State → Prop} {D : va_G} {ca : Nat → ClassId} {a : Nat → Nat} {u : fw_S} {r : Int32}  (C : CX (WM ca a) D (tyv ca) p s m args c A prog_13_method_86_code 6 RX11) (hr : True → RX (WM ca a) D p l e rm_M_X11_pour__0 s m args below meth c A prog_13_method_86_code Q .ireturn [.int r] u) {t : fw_S} {x1 : Int32} {x2 : Int32} {x3 : Int32} {x4 : Int32} {H : Heap} {locs : List Loc} {ls : Array Slot} (hf : b_M_X11_pour__0_0  t x1 x2 x3 x4 = some (r, u)) (hP : va_P D classes (WM ca a t) H) (hS : va_S A s.heap H locs) (hl : lv_has ls 6 [(0, .ref (a 0)), (1, .int x1), (2, .int x2), (3, .int x3), (4, .int x4)]) : W p l e rm_M_X11_pour__0 s m args below meth c H locs 0 0 Q (F0 m 0 ls []) := by
  obtain ⟨hx, hb, hml, hown, hts, hN, hK, hD, hA⟩ := id C
  have hf : (fb_b (f_M_X11_isList t x1) fun v_2 t_1 => (if v_2 = 0 then b_M_X11_pour__0_14 t_1 else b_M_X11_pour__0_7 t_1 x1 x2 x3 x4)) = some (r, u) := hf
  refine lv_iload_n hx hb dX11_pour_0 rfl (lv_at hl 1 rfl) ?_
  obtain ⟨v_2, t_1, g_1, hf⟩ := fb_bs hf
  refine fw_S1 (As := [.int x1]) (rest := []) (n := 1) C (c_M_X11_isList (l := l) (D := D) (ca := ca) (a := a) g_1) kw_1737 kw_1738 kw_102 kw_1739 hP hS hl rfl rfl (by decide) (by decide +kernel) ⟨Nat.le_of_ble_eq_true rfl, Nat.le_of_ble_eq_true rfl⟩ rfl rfl (Nat.le_of_ble_eq_true rfl) dX11_pour_1 (fun H locs hP hS => ?_)
  refine W.eq (g2 := F0 m 4 ls [.int v_2]) rfl ?_
  refine lv_if_eq (tgt := 14) hx hb dX11_pour_4 (by decide) (fun h_4 => ?_) (fun h_4 => ?_)
  · have hf := fb_t h_4 hf
    exact w_M_X11_pour__0_14 C hr hf hP hS (lv_sub hl [] rfl)
  · have hf := fb_f h_4 hf
    exact w_M_X11_pour__0_7 C hr hf hP hS (lv_sub hl [0, 1, 2, 3, 4] rfl)
set_option maxRecDepth 20000 in
theorem c_M_X11_pour__0 {l : Launch} {D : va_G} {ca : Nat → ClassId} {a : Nat → Nat} {t : fw_S} {x1 : Int32} {x2 : Int32} {x3 : Int32} {x4 : Int32} {u : fw_S} {r : Int32} (hf : f_M_X11_pour__0 t x1 x2 x3 x4 = some (r, u)) : MC (WM ca a) D (tyv ca) l yX11_pour (.code yX11_pour prog_13_method_86_code 6 (some .int) :: lw_gd) rm_M_X11_pour__0 [.ref (a 0), .int x1, .int x2, .int x3, .int x4] (some (.int r)) t u := by
  refine fw_met (okM ca a) (by decide +kernel) rfl rfl (Nat.le_of_ble_eq_true rfl) ?_
  intro p e s m args below meth c A Q ls C hr hk hP hS hl hQ
  exact w_M_X11_pour__0_0 C (fun _ => fw_ri C hr hk hQ) hf hP hS (lv_sub hl [0, 1, 2, 3, 4] rfl)
