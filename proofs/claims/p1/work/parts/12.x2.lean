theorem dX10_input_0 : decode prog_1_method_2_code 0 = .ok (.iload_n 1, 1) := by decide +kernel
theorem dX10_input_1 : decode prog_1_method_2_code 1 = .ok (.i2l, 1) := by decide +kernel
theorem dX10_input_2 : decode prog_1_method_2_code 2 = .ok (.invokestatic 87, 3) := by decide +kernel
theorem dX10_input_5 : decode prog_1_method_2_code 5 = .ok (.ifCond .ne 5, 3) := by decide +kernel
theorem dX10_input_8 : decode prog_1_method_2_code 8 = .ok (.iconst (-1), 1) := by decide +kernel
theorem dX10_input_9 : decode prog_1_method_2_code 9 = .ok (.ireturn, 1) := by decide +kernel
theorem dX10_input_10 : decode prog_1_method_2_code 10 = .ok (.aload_n 0, 1) := by decide +kernel
theorem dX10_input_11 : decode prog_1_method_2_code 11 = .ok (.getfield 35, 3) := by decide +kernel
theorem dX10_input_14 : decode prog_1_method_2_code 14 = .ok (.iload_n 1, 1) := by decide +kernel
theorem dX10_input_15 : decode prog_1_method_2_code 15 = .ok (.iconst 1, 1) := by decide +kernel
theorem dX10_input_16 : decode prog_1_method_2_code 16 = .ok (.lload_n 2, 1) := by decide +kernel
theorem dX10_input_17 : decode prog_1_method_2_code 17 = .ok (.aconst_null, 1) := by decide +kernel
theorem dX10_input_18 : decode prog_1_method_2_code 18 = .ok (.invokevirtual 91, 3) := by decide +kernel
theorem dX10_input_21 : decode prog_1_method_2_code 21 = .ok (.aload_n 0, 1) := by decide +kernel
theorem dX10_input_22 : decode prog_1_method_2_code 22 = .ok (.invokevirtual 95, 3) := by decide +kernel
theorem dX10_input_25 : decode prog_1_method_2_code 25 = .ok (.ireturn, 1) := by decide +kernel
theorem dX10_surge_0 : decode prog_1_method_41_code 0 = .ok (.aload_n 0, 1) := by decide +kernel
theorem dX10_surge_1 : decode prog_1_method_41_code 1 = .ok (.getfield 80, 3) := by decide +kernel
theorem dX10_surge_4 : decode prog_1_method_41_code 4 = .ok (.ifCond .eq 5, 3) := by decide +kernel
theorem dX10_surge_7 : decode prog_1_method_41_code 7 = .ok (.iconst 0, 1) := by decide +kernel
theorem dX10_surge_8 : decode prog_1_method_41_code 8 = .ok (.ireturn, 1) := by decide +kernel
theorem dX10_surge_9 : decode prog_1_method_41_code 9 = .ok (.aload_n 0, 1) := by decide +kernel
theorem dX10_surge_10 : decode prog_1_method_41_code 10 = .ok (.getfield 28, 3) := by decide +kernel
theorem dX10_surge_13 : decode prog_1_method_41_code 13 = .ok (.aload_n 0, 1) := by decide +kernel
theorem dX10_surge_14 : decode prog_1_method_41_code 14 = .ok (.getfield 35, 3) := by decide +kernel
theorem dX10_surge_17 : decode prog_1_method_41_code 17 = .ok (.invokevirtual 298, 3) := by decide +kernel
theorem dX10_surge_20 : decode prog_1_method_41_code 20 = .ok (.istore_n 1, 1) := by decide +kernel
theorem dX10_surge_21 : decode prog_1_method_41_code 21 = .ok (.iload_n 1, 1) := by decide +kernel
theorem dX10_surge_22 : decode prog_1_method_41_code 22 = .ok (.bipush (-7), 2) := by decide +kernel
theorem dX10_surge_24 : decode prog_1_method_41_code 24 = .ok (.if_icmp .eq 51, 3) := by decide +kernel
theorem dX10_surge_27 : decode prog_1_method_41_code 27 = .ok (.aload_n 0, 1) := by decide +kernel
theorem dX10_surge_28 : decode prog_1_method_41_code 28 = .ok (.getfield 45, 3) := by decide +kernel
theorem dX10_surge_31 : decode prog_1_method_41_code 31 = .ok (.aload_n 0, 1) := by decide +kernel
theorem dX10_surge_32 : decode prog_1_method_41_code 32 = .ok (.getfield 28, 3) := by decide +kernel
theorem dX10_surge_35 : decode prog_1_method_41_code 35 = .ok (.invokevirtual 302, 3) := by decide +kernel
theorem dX10_surge_38 : decode prog_1_method_41_code 38 = .ok (.aload_n 0, 1) := by decide +kernel
theorem dX10_surge_39 : decode prog_1_method_41_code 39 = .ok (.getfield 28, 3) := by decide +kernel
theorem dX10_surge_42 : decode prog_1_method_41_code 42 = .ok (.invokevirtual 106, 3) := by decide +kernel
theorem dX10_surge_45 : decode prog_1_method_41_code 45 = .ok (.invokevirtual 305, 3) := by decide +kernel
theorem dX10_surge_48 : decode prog_1_method_41_code 48 = .ok (.istore_n 2, 1) := by decide +kernel
theorem dX10_surge_49 : decode prog_1_method_41_code 49 = .ok (.aload_n 0, 1) := by decide +kernel
theorem dX10_surge_50 : decode prog_1_method_41_code 50 = .ok (.getfield 52, 3) := by decide +kernel
theorem dX10_surge_53 : decode prog_1_method_41_code 53 = .ok (.aload_n 0, 1) := by decide +kernel
theorem dX10_surge_54 : decode prog_1_method_41_code 54 = .ok (.getfield 35, 3) := by decide +kernel
theorem dX10_surge_57 : decode prog_1_method_41_code 57 = .ok (.invokevirtual 130, 3) := by decide +kernel
theorem dX10_surge_60 : decode prog_1_method_41_code 60 = .ok (.iload_n 1, 1) := by decide +kernel
theorem dX10_surge_61 : decode prog_1_method_41_code 61 = .ok (.aload_n 0, 1) := by decide +kernel
theorem dX10_surge_62 : decode prog_1_method_41_code 62 = .ok (.getfield 28, 3) := by decide +kernel
theorem dX10_surge_65 : decode prog_1_method_41_code 65 = .ok (.invokevirtual 106, 3) := by decide +kernel
theorem dX10_surge_68 : decode prog_1_method_41_code 68 = .ok (.invokevirtual 237, 3) := by decide +kernel
theorem dX10_surge_71 : decode prog_1_method_41_code 71 = .ok (.iload_n 2, 1) := by decide +kernel
theorem dX10_surge_72 : decode prog_1_method_41_code 72 = .ok (.invokevirtual 309, 3) := by decide +kernel
theorem dX10_surge_75 : decode prog_1_method_41_code 75 = .ok (.aload_n 0, 1) := by decide +kernel
theorem dX10_surge_76 : decode prog_1_method_41_code 76 = .ok (.getfield 35, 3) := by decide +kernel
theorem dX10_surge_79 : decode prog_1_method_41_code 79 = .ok (.invokevirtual 133, 3) := by decide +kernel
theorem dX10_surge_82 : decode prog_1_method_41_code 82 = .ok (.iload_n 1, 1) := by decide +kernel
theorem dX10_surge_83 : decode prog_1_method_41_code 83 = .ok (.ireturn, 1) := by decide +kernel
theorem dX3_add_0 : decode prog_5_method_3_code 0 = .ok (.aload_n 0, 1) := by decide +kernel
theorem dX3_add_1 : decode prog_5_method_3_code 1 = .ok (.getfield 15, 3) := by decide +kernel
theorem dX3_add_4 : decode prog_5_method_3_code 4 = .ok (.bipush 20, 2) := by decide +kernel
theorem dX3_add_6 : decode prog_5_method_3_code 6 = .ok (.invokestatic 19, 3) := by decide +kernel
theorem dX3_add_9 : decode prog_5_method_3_code 9 = .ok (.iconst 4, 1) := by decide +kernel
theorem dX3_add_10 : decode prog_5_method_3_code 10 = .ok (.imul, 1) := by decide +kernel
theorem dX3_add_11 : decode prog_5_method_3_code 11 = .ok (.istore 5, 2) := by decide +kernel
theorem dX3_add_13 : decode prog_5_method_3_code 13 = .ok (.aload_n 0, 1) := by decide +kernel
theorem dX3_add_14 : decode prog_5_method_3_code 14 = .ok (.getfield 11, 3) := by decide +kernel
theorem dX3_add_17 : decode prog_5_method_3_code 17 = .ok (.iload 5, 2) := by decide +kernel
theorem dX3_add_19 : decode prog_5_method_3_code 19 = .ok (.iload_n 1, 1) := by decide +kernel
theorem dX3_add_20 : decode prog_5_method_3_code 20 = .ok (.iastore, 1) := by decide +kernel
theorem dX3_add_21 : decode prog_5_method_3_code 21 = .ok (.aload_n 0, 1) := by decide +kernel
theorem dX3_add_22 : decode prog_5_method_3_code 22 = .ok (.getfield 11, 3) := by decide +kernel
theorem dX3_add_25 : decode prog_5_method_3_code 25 = .ok (.iload 5, 2) := by decide +kernel
theorem dX3_add_27 : decode prog_5_method_3_code 27 = .ok (.iconst 1, 1) := by decide +kernel
theorem dX3_add_28 : decode prog_5_method_3_code 28 = .ok (.iadd, 1) := by decide +kernel
theorem dX3_add_29 : decode prog_5_method_3_code 29 = .ok (.iload_n 2, 1) := by decide +kernel
theorem dX3_add_30 : decode prog_5_method_3_code 30 = .ok (.iastore, 1) := by decide +kernel
theorem dX3_add_31 : decode prog_5_method_3_code 31 = .ok (.aload_n 0, 1) := by decide +kernel
theorem dX3_add_32 : decode prog_5_method_3_code 32 = .ok (.getfield 11, 3) := by decide +kernel
theorem dX3_add_35 : decode prog_5_method_3_code 35 = .ok (.iload 5, 2) := by decide +kernel
theorem dX3_add_37 : decode prog_5_method_3_code 37 = .ok (.iconst 2, 1) := by decide +kernel
theorem dX3_add_38 : decode prog_5_method_3_code 38 = .ok (.iadd, 1) := by decide +kernel
theorem dX3_add_39 : decode prog_5_method_3_code 39 = .ok (.iload_n 3, 1) := by decide +kernel
theorem dX3_add_40 : decode prog_5_method_3_code 40 = .ok (.iastore, 1) := by decide +kernel
theorem dX3_add_41 : decode prog_5_method_3_code 41 = .ok (.aload_n 0, 1) := by decide +kernel
theorem dX3_add_42 : decode prog_5_method_3_code 42 = .ok (.getfield 11, 3) := by decide +kernel
theorem dX3_add_45 : decode prog_5_method_3_code 45 = .ok (.iload 5, 2) := by decide +kernel
theorem dX3_add_47 : decode prog_5_method_3_code 47 = .ok (.iconst 3, 1) := by decide +kernel
theorem dX3_add_48 : decode prog_5_method_3_code 48 = .ok (.iadd, 1) := by decide +kernel
theorem dX3_add_49 : decode prog_5_method_3_code 49 = .ok (.iload 4, 2) := by decide +kernel
theorem dX3_add_51 : decode prog_5_method_3_code 51 = .ok (.iastore, 1) := by decide +kernel
theorem dX3_add_52 : decode prog_5_method_3_code 52 = .ok (.aload_n 0, 1) := by decide +kernel
theorem dX3_add_53 : decode prog_5_method_3_code 53 = .ok (.dup, 1) := by decide +kernel
theorem dX3_add_54 : decode prog_5_method_3_code 54 = .ok (.getfield 15, 3) := by decide +kernel
theorem dX3_add_57 : decode prog_5_method_3_code 57 = .ok (.iconst 1, 1) := by decide +kernel
theorem dX3_add_58 : decode prog_5_method_3_code 58 = .ok (.iadd, 1) := by decide +kernel
theorem dX3_add_59 : decode prog_5_method_3_code 59 = .ok (.putfield 15, 3) := by decide +kernel
theorem dX3_add_62 : decode prog_5_method_3_code 62 = .ok (.return_, 1) := by decide +kernel
theorem dX5_cellNumber_0 : decode prog_7_method_22_code 0 = .ok (.aload_n 0, 1) := by decide +kernel
theorem dX5_cellNumber_1 : decode prog_7_method_22_code 1 = .ok (.getfield 34, 3) := by decide +kernel
theorem dX5_cellNumber_4 : decode prog_7_method_22_code 4 = .ok (.istore_n 2, 1) := by decide +kernel
theorem dX5_cellNumber_5 : decode prog_7_method_22_code 5 = .ok (.aload_n 0, 1) := by decide +kernel
theorem dX5_cellNumber_6 : decode prog_7_method_22_code 6 = .ok (.iconst 2, 1) := by decide +kernel
theorem dX5_cellNumber_7 : decode prog_7_method_22_code 7 = .ok (.invokevirtual 98, 3) := by decide +kernel
theorem dX5_cellNumber_10 : decode prog_7_method_22_code 10 = .ok (.istore_n 3, 1) := by decide +kernel
theorem dX5_cellNumber_11 : decode prog_7_method_22_code 11 = .ok (.iload_n 3, 1) := by decide +kernel
theorem dX5_cellNumber_12 : decode prog_7_method_22_code 12 = .ok (.i2l, 1) := by decide +kernel
theorem dX5_cellNumber_13 : decode prog_7_method_22_code 13 = .ok (.invokestatic 110, 3) := by decide +kernel
theorem dX5_cellNumber_16 : decode prog_7_method_22_code 16 = .ok (.ifCond .eq 12, 3) := by decide +kernel
theorem dX5_cellNumber_19 : decode prog_7_method_22_code 19 = .ok (.iload_n 3, 1) := by decide +kernel
theorem dX5_cellNumber_20 : decode prog_7_method_22_code 20 = .ok (.iload_n 1, 1) := by decide +kernel
theorem dX5_cellNumber_21 : decode prog_7_method_22_code 21 = .ok (.if_icmp .lt 7, 3) := by decide +kernel
theorem dX5_cellNumber_24 : decode prog_7_method_22_code 24 = .ok (.iload_n 3, 1) := by decide +kernel
theorem dX5_cellNumber_25 : decode prog_7_method_22_code 25 = .ok (.goto 8, 3) := by decide +kernel
theorem dX5_cellNumber_28 : decode prog_7_method_22_code 28 = .ok (.aload_n 0, 1) := by decide +kernel
theorem dX5_cellNumber_29 : decode prog_7_method_22_code 29 = .ok (.iload_n 2, 1) := by decide +kernel
theorem dX5_cellNumber_30 : decode prog_7_method_22_code 30 = .ok (.invokevirtual 47, 3) := by decide +kernel
theorem dX5_cellNumber_33 : decode prog_7_method_22_code 33 = .ok (.ireturn, 1) := by decide +kernel
theorem dX5_expect_0 : decode prog_7_method_10_code 0 = .ok (.aload_n 0, 1) := by decide +kernel
theorem dX5_expect_1 : decode prog_7_method_10_code 1 = .ok (.iload_n 1, 1) := by decide +kernel
theorem dX5_expect_2 : decode prog_7_method_10_code 2 = .ok (.invokevirtual 64, 3) := by decide +kernel
theorem dX5_expect_5 : decode prog_7_method_10_code 5 = .ok (.ifCond .ne 12, 3) := by decide +kernel
theorem dX5_expect_8 : decode prog_7_method_10_code 8 = .ok (.aload_n 0, 1) := by decide +kernel
theorem dX5_expect_9 : decode prog_7_method_10_code 9 = .ok (.aload_n 0, 1) := by decide +kernel
theorem dX5_expect_10 : decode prog_7_method_10_code 10 = .ok (.getfield 34, 3) := by decide +kernel
theorem dX5_expect_13 : decode prog_7_method_10_code 13 = .ok (.invokevirtual 47, 3) := by decide +kernel
theorem dX5_expect_16 : decode prog_7_method_10_code 16 = .ok (.pop, 1) := by decide +kernel
theorem dX5_expect_17 : decode prog_7_method_10_code 17 = .ok (.return_, 1) := by decide +kernel
theorem dX5_factor_0 : decode prog_7_method_18_code 0 = .ok (.aload_n 0, 1) := by decide +kernel
theorem dX5_factor_1 : decode prog_7_method_18_code 1 = .ok (.invokevirtual 60, 3) := by decide +kernel
theorem dX5_factor_4 : decode prog_7_method_18_code 4 = .ok (.istore_n 2, 1) := by decide +kernel
theorem dX5_factor_5 : decode prog_7_method_18_code 5 = .ok (.iload_n 2, 1) := by decide +kernel
theorem dX5_factor_6 : decode prog_7_method_18_code 6 = .ok (.invokestatic 95, 3) := by decide +kernel
theorem dX5_factor_9 : decode prog_7_method_18_code 9 = .ok (.ifCond .eq 17, 3) := by decide +kernel
theorem dX5_factor_12 : decode prog_7_method_18_code 12 = .ok (.aload_n 0, 1) := by decide +kernel
theorem dX5_factor_13 : decode prog_7_method_18_code 13 = .ok (.iconst 0, 1) := by decide +kernel
theorem dX5_factor_14 : decode prog_7_method_18_code 14 = .ok (.aload_n 0, 1) := by decide +kernel
theorem dX5_factor_15 : decode prog_7_method_18_code 15 = .ok (.bipush 9, 2) := by decide +kernel
theorem dX5_factor_17 : decode prog_7_method_18_code 17 = .ok (.invokevirtual 98, 3) := by decide +kernel
theorem dX5_factor_20 : decode prog_7_method_18_code 20 = .ok (.iconst 0, 1) := by decide +kernel
theorem dX5_factor_21 : decode prog_7_method_18_code 21 = .ok (.iconst 0, 1) := by decide +kernel
theorem dX5_factor_22 : decode prog_7_method_18_code 22 = .ok (.invokevirtual 71, 3) := by decide +kernel
theorem dX5_factor_25 : decode prog_7_method_18_code 25 = .ok (.ireturn, 1) := by decide +kernel
theorem dX5_factor_26 : decode prog_7_method_18_code 26 = .ok (.aload_n 0, 1) := by decide +kernel
theorem dX5_factor_27 : decode prog_7_method_18_code 27 = .ok (.bipush 35, 2) := by decide +kernel
theorem dX5_factor_29 : decode prog_7_method_18_code 29 = .ok (.invokevirtual 64, 3) := by decide +kernel
theorem dX5_factor_32 : decode prog_7_method_18_code 32 = .ok (.ifCond .eq 16, 3) := by decide +kernel
theorem dX5_factor_35 : decode prog_7_method_18_code 35 = .ok (.aload_n 0, 1) := by decide +kernel
theorem dX5_factor_36 : decode prog_7_method_18_code 36 = .ok (.iconst 1, 1) := by decide +kernel
theorem dX5_factor_37 : decode prog_7_method_18_code 37 = .ok (.aload_n 0, 1) := by decide +kernel
theorem dX5_factor_38 : decode prog_7_method_18_code 38 = .ok (.iconst 0, 1) := by decide +kernel
theorem dX5_factor_39 : decode prog_7_method_18_code 39 = .ok (.invokevirtual 101, 3) := by decide +kernel
theorem dX5_factor_42 : decode prog_7_method_18_code 42 = .ok (.iconst 0, 1) := by decide +kernel
theorem dX5_factor_43 : decode prog_7_method_18_code 43 = .ok (.iconst 0, 1) := by decide +kernel
theorem dX5_factor_44 : decode prog_7_method_18_code 44 = .ok (.invokevirtual 71, 3) := by decide +kernel
theorem dX5_factor_47 : decode prog_7_method_18_code 47 = .ok (.ireturn, 1) := by decide +kernel
theorem dX5_factor_48 : decode prog_7_method_18_code 48 = .ok (.aload_n 0, 1) := by decide +kernel
theorem dX5_factor_49 : decode prog_7_method_18_code 49 = .ok (.bipush 115, 2) := by decide +kernel
theorem dX5_factor_51 : decode prog_7_method_18_code 51 = .ok (.invokevirtual 64, 3) := by decide +kernel
theorem dX5_factor_54 : decode prog_7_method_18_code 54 = .ok (.ifCond .eq 28, 3) := by decide +kernel
theorem dX5_factor_57 : decode prog_7_method_18_code 57 = .ok (.aload_n 0, 1) := by decide +kernel
theorem dX5_factor_58 : decode prog_7_method_18_code 58 = .ok (.iconst 0, 1) := by decide +kernel
theorem dX5_factor_59 : decode prog_7_method_18_code 59 = .ok (.invokevirtual 101, 3) := by decide +kernel
theorem dX5_factor_62 : decode prog_7_method_18_code 62 = .ok (.istore_n 3, 1) := by decide +kernel
theorem dX5_factor_63 : decode prog_7_method_18_code 63 = .ok (.aload_n 0, 1) := by decide +kernel
theorem dX5_factor_64 : decode prog_7_method_18_code 64 = .ok (.bipush 45, 2) := by decide +kernel
theorem dX5_factor_66 : decode prog_7_method_18_code 66 = .ok (.invokevirtual 75, 3) := by decide +kernel
theorem dX5_factor_69 : decode prog_7_method_18_code 69 = .ok (.aload_n 0, 1) := by decide +kernel
theorem dX5_factor_70 : decode prog_7_method_18_code 70 = .ok (.iconst 2, 1) := by decide +kernel
theorem dX5_factor_71 : decode prog_7_method_18_code 71 = .ok (.iload_n 3, 1) := by decide +kernel
theorem dX5_factor_72 : decode prog_7_method_18_code 72 = .ok (.aload_n 0, 1) := by decide +kernel
theorem dX5_factor_73 : decode prog_7_method_18_code 73 = .ok (.iload_n 3, 1) := by decide +kernel
theorem dX5_factor_74 : decode prog_7_method_18_code 74 = .ok (.invokevirtual 101, 3) := by decide +kernel
theorem dX5_factor_77 : decode prog_7_method_18_code 77 = .ok (.iconst 0, 1) := by decide +kernel
theorem dX5_factor_78 : decode prog_7_method_18_code 78 = .ok (.invokevirtual 71, 3) := by decide +kernel
theorem dX5_factor_81 : decode prog_7_method_18_code 81 = .ok (.ireturn, 1) := by decide +kernel
theorem dX5_factor_82 : decode prog_7_method_18_code 82 = .ok (.iload_n 1, 1) := by decide +kernel
theorem dX5_factor_83 : decode prog_7_method_18_code 83 = .ok (.iconst 3, 1) := by decide +kernel
theorem dX5_factor_84 : decode prog_7_method_18_code 84 = .ok (.if_icmp .lt 12, 3) := by decide +kernel
theorem dX5_factor_87 : decode prog_7_method_18_code 87 = .ok (.aload_n 0, 1) := by decide +kernel
theorem dX5_factor_88 : decode prog_7_method_18_code 88 = .ok (.aload_n 0, 1) := by decide +kernel
theorem dX5_factor_89 : decode prog_7_method_18_code 89 = .ok (.getfield 34, 3) := by decide +kernel
theorem dX5_factor_92 : decode prog_7_method_18_code 92 = .ok (.invokevirtual 47, 3) := by decide +kernel
theorem dX5_factor_95 : decode prog_7_method_18_code 95 = .ok (.ireturn, 1) := by decide +kernel
theorem dX5_factor_96 : decode prog_7_method_18_code 96 = .ok (.aload_n 0, 1) := by decide +kernel
theorem dX5_factor_97 : decode prog_7_method_18_code 97 = .ok (.iload_n 2, 1) := by decide +kernel
theorem dX5_factor_98 : decode prog_7_method_18_code 98 = .ok (.iload_n 1, 1) := by decide +kernel
theorem dX5_factor_99 : decode prog_7_method_18_code 99 = .ok (.iconst 1, 1) := by decide +kernel
theorem dX5_factor_100 : decode prog_7_method_18_code 100 = .ok (.iadd, 1) := by decide +kernel
theorem dX5_factor_101 : decode prog_7_method_18_code 101 = .ok (.invokevirtual 104, 3) := by decide +kernel
theorem dX5_factor_104 : decode prog_7_method_18_code 104 = .ok (.ireturn, 1) := by decide +kernel
theorem dX5_fail_0 : decode prog_7_method_8_code 0 = .ok (.aload_n 0, 1) := by decide +kernel
theorem dX5_fail_1 : decode prog_7_method_8_code 1 = .ok (.getfield 37, 3) := by decide +kernel
theorem dX5_fail_4 : decode prog_7_method_8_code 4 = .ok (.ifCond .ge 8, 3) := by decide +kernel
theorem dX5_fail_7 : decode prog_7_method_8_code 7 = .ok (.aload_n 0, 1) := by decide +kernel
theorem dX5_fail_8 : decode prog_7_method_8_code 8 = .ok (.iload_n 1, 1) := by decide +kernel
theorem dX5_fail_9 : decode prog_7_method_8_code 9 = .ok (.putfield 37, 3) := by decide +kernel
theorem dX5_fail_12 : decode prog_7_method_8_code 12 = .ok (.iconst 0, 1) := by decide +kernel
theorem dX5_fail_13 : decode prog_7_method_8_code 13 = .ok (.ireturn, 1) := by decide +kernel
theorem dX5_here_0 : decode prog_7_method_7_code 0 = .ok (.aload_n 0, 1) := by decide +kernel
theorem dX5_here_1 : decode prog_7_method_7_code 1 = .ok (.getfield 37, 3) := by decide +kernel
theorem dX5_here_4 : decode prog_7_method_7_code 4 = .ok (.ifCond .ge 35, 3) := by decide +kernel
theorem dX5_here_7 : decode prog_7_method_7_code 7 = .ok (.aload_n 0, 1) := by decide +kernel
theorem dX5_here_8 : decode prog_7_method_7_code 8 = .ok (.getfield 34, 3) := by decide +kernel
theorem dX5_here_11 : decode prog_7_method_7_code 11 = .ok (.aload_n 0, 1) := by decide +kernel
theorem dX5_here_12 : decode prog_7_method_7_code 12 = .ok (.getfield 30, 3) := by decide +kernel
theorem dX5_here_15 : decode prog_7_method_7_code 15 = .ok (.if_icmp .ge 24, 3) := by decide +kernel
theorem dX5_here_18 : decode prog_7_method_7_code 18 = .ok (.aload_n 0, 1) := by decide +kernel
theorem dX5_here_19 : decode prog_7_method_7_code 19 = .ok (.getfield 34, 3) := by decide +kernel
theorem dX5_here_22 : decode prog_7_method_7_code 22 = .ok (.bipush 120, 2) := by decide +kernel
theorem dX5_here_24 : decode prog_7_method_7_code 24 = .ok (.if_icmp .ge 15, 3) := by decide +kernel
theorem dX5_here_27 : decode prog_7_method_7_code 27 = .ok (.aload_n 0, 1) := by decide +kernel
theorem dX5_here_28 : decode prog_7_method_7_code 28 = .ok (.getfield 9, 3) := by decide +kernel
theorem dX5_here_31 : decode prog_7_method_7_code 31 = .ok (.aload_n 0, 1) := by decide +kernel
theorem dX5_here_32 : decode prog_7_method_7_code 32 = .ok (.getfield 34, 3) := by decide +kernel
theorem dX5_here_35 : decode prog_7_method_7_code 35 = .ok (.iaload, 1) := by decide +kernel
theorem dX5_here_36 : decode prog_7_method_7_code 36 = .ok (.goto 4, 3) := by decide +kernel
theorem dX5_here_39 : decode prog_7_method_7_code 39 = .ok (.iconst 0, 1) := by decide +kernel
theorem dX5_here_40 : decode prog_7_method_7_code 40 = .ok (.ireturn, 1) := by decide +kernel
theorem dX5_isFigure_0 : decode prog_7_method_21_code 0 = .ok (.iload_n 0, 1) := by decide +kernel
theorem dX5_isFigure_1 : decode prog_7_method_21_code 1 = .ok (.bipush 48, 2) := by decide +kernel
theorem dX5_isFigure_3 : decode prog_7_method_21_code 3 = .ok (.if_icmp .lt 13, 3) := by decide +kernel
theorem dX5_isFigure_6 : decode prog_7_method_21_code 6 = .ok (.iload_n 0, 1) := by decide +kernel
theorem dX5_isFigure_7 : decode prog_7_method_21_code 7 = .ok (.bipush 57, 2) := by decide +kernel
theorem dX5_isFigure_9 : decode prog_7_method_21_code 9 = .ok (.if_icmp .gt 7, 3) := by decide +kernel
theorem dX5_isFigure_12 : decode prog_7_method_21_code 12 = .ok (.iconst 1, 1) := by decide +kernel
theorem dX5_isFigure_13 : decode prog_7_method_21_code 13 = .ok (.goto 4, 3) := by decide +kernel
theorem dX5_isFigure_16 : decode prog_7_method_21_code 16 = .ok (.iconst 0, 1) := by decide +kernel
theorem dX5_isFigure_17 : decode prog_7_method_21_code 17 = .ok (.ireturn, 1) := by decide +kernel
theorem dX5_nested_0 : decode prog_7_method_19_code 0 = .ok (.aload_n 0, 1) := by decide +kernel
theorem dX5_nested_1 : decode prog_7_method_19_code 1 = .ok (.bipush 40, 2) := by decide +kernel
theorem dX5_nested_3 : decode prog_7_method_19_code 3 = .ok (.invokevirtual 64, 3) := by decide +kernel
theorem dX5_nested_6 : decode prog_7_method_19_code 6 = .ok (.ifCond .eq 18, 3) := by decide +kernel
theorem dX5_nested_9 : decode prog_7_method_19_code 9 = .ok (.aload_n 0, 1) := by decide +kernel
theorem dX5_nested_10 : decode prog_7_method_19_code 10 = .ok (.iload_n 2, 1) := by decide +kernel
theorem dX5_nested_11 : decode prog_7_method_19_code 11 = .ok (.iconst 0, 1) := by decide +kernel
theorem dX5_nested_12 : decode prog_7_method_19_code 12 = .ok (.invokevirtual 43, 3) := by decide +kernel
theorem dX5_nested_24 : decode prog_7_method_19_code 24 = .ok (.aload_n 0, 1) := by decide +kernel
theorem dX5_nested_25 : decode prog_7_method_19_code 25 = .ok (.bipush 45, 2) := by decide +kernel
theorem dX5_nested_27 : decode prog_7_method_19_code 27 = .ok (.invokevirtual 64, 3) := by decide +kernel
theorem dX5_nested_30 : decode prog_7_method_19_code 30 = .ok (.ifCond .eq 16, 3) := by decide +kernel
theorem dX5_nested_33 : decode prog_7_method_19_code 33 = .ok (.aload_n 0, 1) := by decide +kernel
theorem dX5_nested_34 : decode prog_7_method_19_code 34 = .ok (.iconst 3, 1) := by decide +kernel
theorem dX5_nested_35 : decode prog_7_method_19_code 35 = .ok (.aload_n 0, 1) := by decide +kernel
theorem dX5_nested_36 : decode prog_7_method_19_code 36 = .ok (.iload_n 2, 1) := by decide +kernel
theorem dX5_nested_37 : decode prog_7_method_19_code 37 = .ok (.invokevirtual 92, 3) := by decide +kernel
theorem dX5_nested_46 : decode prog_7_method_19_code 46 = .ok (.aload_n 0, 1) := by decide +kernel
theorem dX5_nested_47 : decode prog_7_method_19_code 47 = .ok (.bipush 64, 2) := by decide +kernel
theorem dX5_nested_49 : decode prog_7_method_19_code 49 = .ok (.invokevirtual 64, 3) := by decide +kernel
theorem dX5_nested_52 : decode prog_7_method_19_code 52 = .ok (.ifCond .eq 16, 3) := by decide +kernel
theorem dX5_nested_55 : decode prog_7_method_19_code 55 = .ok (.aload_n 0, 1) := by decide +kernel
theorem dX5_nested_56 : decode prog_7_method_19_code 56 = .ok (.iconst 4, 1) := by decide +kernel
theorem dX5_nested_57 : decode prog_7_method_19_code 57 = .ok (.aload_n 0, 1) := by decide +kernel
theorem dX5_nested_58 : decode prog_7_method_19_code 58 = .ok (.iload_n 2, 1) := by decide +kernel
theorem dX5_nested_59 : decode prog_7_method_19_code 59 = .ok (.invokevirtual 92, 3) := by decide +kernel
theorem dX5_nested_68 : decode prog_7_method_19_code 68 = .ok (.aload_n 0, 1) := by decide +kernel
theorem dX5_nested_69 : decode prog_7_method_19_code 69 = .ok (.bipush 33, 2) := by decide +kernel
theorem dX5_nested_71 : decode prog_7_method_19_code 71 = .ok (.invokevirtual 64, 3) := by decide +kernel
theorem dX5_nested_74 : decode prog_7_method_19_code 74 = .ok (.ifCond .eq 9, 3) := by decide +kernel
theorem dX5_nested_77 : decode prog_7_method_19_code 77 = .ok (.aload_n 0, 1) := by decide +kernel
theorem dX5_nested_78 : decode prog_7_method_19_code 78 = .ok (.iload_n 2, 1) := by decide +kernel
theorem dX5_nested_79 : decode prog_7_method_19_code 79 = .ok (.invokevirtual 107, 3) := by decide +kernel
theorem dX5_nested_82 : decode prog_7_method_19_code 82 = .ok (.ireturn, 1) := by decide +kernel
theorem dX5_nested_83 : decode prog_7_method_19_code 83 = .ok (.aload_n 0, 1) := by decide +kernel
theorem dX5_nested_84 : decode prog_7_method_19_code 84 = .ok (.bipush 108, 2) := by decide +kernel
theorem dX5_nested_86 : decode prog_7_method_19_code 86 = .ok (.invokevirtual 64, 3) := by decide +kernel
theorem dX5_nested_89 : decode prog_7_method_19_code 89 = .ok (.ifCond .ne 12, 3) := by decide +kernel
theorem dX5_nested_92 : decode prog_7_method_19_code 92 = .ok (.aload_n 0, 1) := by decide +kernel
theorem dX5_nested_93 : decode prog_7_method_19_code 93 = .ok (.bipush 103, 2) := by decide +kernel
theorem dX5_nested_95 : decode prog_7_method_19_code 95 = .ok (.invokevirtual 64, 3) := by decide +kernel
theorem dX5_nested_98 : decode prog_7_method_19_code 98 = .ok (.ifCond .eq 58, 3) := by decide +kernel
theorem dX5_nested_101 : decode prog_7_method_19_code 101 = .ok (.aload_n 0, 1) := by decide +kernel
theorem dX5_nested_102 : decode prog_7_method_19_code 102 = .ok (.bipush 40, 2) := by decide +kernel
theorem dX5_nested_104 : decode prog_7_method_19_code 104 = .ok (.invokevirtual 75, 3) := by decide +kernel
theorem dX5_nested_107 : decode prog_7_method_19_code 107 = .ok (.aload_n 0, 1) := by decide +kernel
theorem dX5_nested_108 : decode prog_7_method_19_code 108 = .ok (.iload_n 2, 1) := by decide +kernel
theorem dX5_nested_109 : decode prog_7_method_19_code 109 = .ok (.iconst 0, 1) := by decide +kernel
theorem dX5_nested_110 : decode prog_7_method_19_code 110 = .ok (.invokevirtual 43, 3) := by decide +kernel
theorem dX5_nested_156 : decode prog_7_method_19_code 156 = .ok (.aload_n 0, 1) := by decide +kernel
theorem dX5_nested_157 : decode prog_7_method_19_code 157 = .ok (.aload_n 0, 1) := by decide +kernel
theorem dX5_nested_158 : decode prog_7_method_19_code 158 = .ok (.getfield 34, 3) := by decide +kernel
theorem dX5_nested_161 : decode prog_7_method_19_code 161 = .ok (.invokevirtual 47, 3) := by decide +kernel
theorem dX5_nested_164 : decode prog_7_method_19_code 164 = .ok (.ireturn, 1) := by decide +kernel
theorem dX5_node_0 : decode prog_7_method_11_code 0 = .ok (.aload_n 0, 1) := by decide +kernel
theorem dX5_node_1 : decode prog_7_method_11_code 1 = .ok (.getfield 40, 3) := by decide +kernel
theorem dX5_node_4 : decode prog_7_method_11_code 4 = .ok (.sipush 160, 3) := by decide +kernel
theorem dX5_node_7 : decode prog_7_method_11_code 7 = .ok (.if_icmp .lt 12, 3) := by decide +kernel
theorem dX5_node_10 : decode prog_7_method_11_code 10 = .ok (.aload_n 0, 1) := by decide +kernel
theorem dX5_node_11 : decode prog_7_method_11_code 11 = .ok (.aload_n 0, 1) := by decide +kernel
theorem dX5_node_12 : decode prog_7_method_11_code 12 = .ok (.getfield 34, 3) := by decide +kernel
theorem dX5_node_15 : decode prog_7_method_11_code 15 = .ok (.invokevirtual 47, 3) := by decide +kernel
theorem dX5_node_18 : decode prog_7_method_11_code 18 = .ok (.ireturn, 1) := by decide +kernel
theorem dX5_node_19 : decode prog_7_method_11_code 19 = .ok (.aload_n 0, 1) := by decide +kernel
theorem dX5_node_20 : decode prog_7_method_11_code 20 = .ok (.getfield 15, 3) := by decide +kernel
theorem dX5_node_23 : decode prog_7_method_11_code 23 = .ok (.aload_n 0, 1) := by decide +kernel
theorem dX5_node_24 : decode prog_7_method_11_code 24 = .ok (.getfield 40, 3) := by decide +kernel
theorem dX5_node_27 : decode prog_7_method_11_code 27 = .ok (.iload_n 1, 1) := by decide +kernel
theorem dX5_node_28 : decode prog_7_method_11_code 28 = .ok (.iastore, 1) := by decide +kernel
theorem dX5_node_29 : decode prog_7_method_11_code 29 = .ok (.aload_n 0, 1) := by decide +kernel
theorem dX5_node_30 : decode prog_7_method_11_code 30 = .ok (.getfield 18, 3) := by decide +kernel
theorem dX5_node_33 : decode prog_7_method_11_code 33 = .ok (.aload_n 0, 1) := by decide +kernel
theorem dX5_node_34 : decode prog_7_method_11_code 34 = .ok (.getfield 40, 3) := by decide +kernel
theorem dX5_node_37 : decode prog_7_method_11_code 37 = .ok (.iload_n 2, 1) := by decide +kernel
theorem dX5_node_38 : decode prog_7_method_11_code 38 = .ok (.iastore, 1) := by decide +kernel
theorem dX5_node_39 : decode prog_7_method_11_code 39 = .ok (.aload_n 0, 1) := by decide +kernel
theorem dX5_node_40 : decode prog_7_method_11_code 40 = .ok (.getfield 21, 3) := by decide +kernel
theorem dX5_node_43 : decode prog_7_method_11_code 43 = .ok (.aload_n 0, 1) := by decide +kernel
theorem dX5_node_44 : decode prog_7_method_11_code 44 = .ok (.getfield 40, 3) := by decide +kernel
theorem dX5_node_47 : decode prog_7_method_11_code 47 = .ok (.iload_n 3, 1) := by decide +kernel
theorem dX5_node_48 : decode prog_7_method_11_code 48 = .ok (.iastore, 1) := by decide +kernel
theorem dX5_node_49 : decode prog_7_method_11_code 49 = .ok (.aload_n 0, 1) := by decide +kernel
theorem dX5_node_50 : decode prog_7_method_11_code 50 = .ok (.getfield 24, 3) := by decide +kernel
theorem dX5_node_53 : decode prog_7_method_11_code 53 = .ok (.aload_n 0, 1) := by decide +kernel
theorem dX5_node_54 : decode prog_7_method_11_code 54 = .ok (.getfield 40, 3) := by decide +kernel
theorem dX5_node_57 : decode prog_7_method_11_code 57 = .ok (.iload 4, 2) := by decide +kernel
theorem dX5_node_59 : decode prog_7_method_11_code 59 = .ok (.iastore, 1) := by decide +kernel
theorem dX5_node_60 : decode prog_7_method_11_code 60 = .ok (.aload_n 0, 1) := by decide +kernel
theorem dX5_node_61 : decode prog_7_method_11_code 61 = .ok (.getfield 27, 3) := by decide +kernel
theorem dX5_node_64 : decode prog_7_method_11_code 64 = .ok (.aload_n 0, 1) := by decide +kernel
theorem dX5_node_65 : decode prog_7_method_11_code 65 = .ok (.getfield 40, 3) := by decide +kernel
theorem dX5_node_68 : decode prog_7_method_11_code 68 = .ok (.iconst (-1), 1) := by decide +kernel
theorem dX5_node_69 : decode prog_7_method_11_code 69 = .ok (.iastore, 1) := by decide +kernel
theorem dX5_node_70 : decode prog_7_method_11_code 70 = .ok (.aload_n 0, 1) := by decide +kernel
theorem dX5_node_71 : decode prog_7_method_11_code 71 = .ok (.dup, 1) := by decide +kernel
theorem dX5_node_72 : decode prog_7_method_11_code 72 = .ok (.getfield 40, 3) := by decide +kernel
theorem dX5_node_75 : decode prog_7_method_11_code 75 = .ok (.iconst 1, 1) := by decide +kernel
theorem dX5_node_76 : decode prog_7_method_11_code 76 = .ok (.iadd, 1) := by decide +kernel
theorem dX5_node_77 : decode prog_7_method_11_code 77 = .ok (.putfield 40, 3) := by decide +kernel
theorem dX5_node_80 : decode prog_7_method_11_code 80 = .ok (.aload_n 0, 1) := by decide +kernel
theorem dX5_node_81 : decode prog_7_method_11_code 81 = .ok (.getfield 40, 3) := by decide +kernel
theorem dX5_node_84 : decode prog_7_method_11_code 84 = .ok (.iconst 1, 1) := by decide +kernel
theorem dX5_node_85 : decode prog_7_method_11_code 85 = .ok (.isub, 1) := by decide +kernel
theorem dX5_node_86 : decode prog_7_method_11_code 86 = .ok (.ireturn, 1) := by decide +kernel
theorem dX5_not_0 : decode prog_7_method_20_code 0 = .ok (.aload_n 0, 1) := by decide +kernel
theorem dX5_not_1 : decode prog_7_method_20_code 1 = .ok (.getfield 40, 3) := by decide +kernel
theorem dX5_not_4 : decode prog_7_method_20_code 4 = .ok (.istore_n 2, 1) := by decide +kernel
theorem dX5_not_5 : decode prog_7_method_20_code 5 = .ok (.aload_n 0, 1) := by decide +kernel
theorem dX5_not_6 : decode prog_7_method_20_code 6 = .ok (.iload_n 1, 1) := by decide +kernel
theorem dX5_not_7 : decode prog_7_method_20_code 7 = .ok (.invokevirtual 92, 3) := by decide +kernel
theorem dX5_number_0 : decode prog_7_method_23_code 0 = .ok (.aload_n 0, 1) := by decide +kernel
theorem dX5_number_1 : decode prog_7_method_23_code 1 = .ok (.invokevirtual 60, 3) := by decide +kernel
theorem dX5_number_4 : decode prog_7_method_23_code 4 = .ok (.invokestatic 95, 3) := by decide +kernel
theorem dX5_number_7 : decode prog_7_method_23_code 7 = .ok (.ifCond .ne 12, 3) := by decide +kernel
theorem dX5_number_10 : decode prog_7_method_23_code 10 = .ok (.aload_n 0, 1) := by decide +kernel
theorem dX5_number_11 : decode prog_7_method_23_code 11 = .ok (.aload_n 0, 1) := by decide +kernel
theorem dX5_number_12 : decode prog_7_method_23_code 12 = .ok (.getfield 34, 3) := by decide +kernel
theorem dX5_number_15 : decode prog_7_method_23_code 15 = .ok (.invokevirtual 47, 3) := by decide +kernel
theorem dX5_number_18 : decode prog_7_method_23_code 18 = .ok (.ireturn, 1) := by decide +kernel
theorem dX5_number_19 : decode prog_7_method_23_code 19 = .ok (.iconst 0, 1) := by decide +kernel
theorem dX5_number_20 : decode prog_7_method_23_code 20 = .ok (.istore_n 2, 1) := by decide +kernel
theorem dX5_number_21 : decode prog_7_method_23_code 21 = .ok (.iconst 0, 1) := by decide +kernel
theorem dX5_number_22 : decode prog_7_method_23_code 22 = .ok (.istore_n 3, 1) := by decide +kernel
theorem dX5_number_23 : decode prog_7_method_23_code 23 = .ok (.iload_n 3, 1) := by decide +kernel
theorem dX5_number_24 : decode prog_7_method_23_code 24 = .ok (.iload_n 1, 1) := by decide +kernel
theorem dX5_number_25 : decode prog_7_method_23_code 25 = .ok (.if_icmp .ge 42, 3) := by decide +kernel
theorem dX5_number_28 : decode prog_7_method_23_code 28 = .ok (.aload_n 0, 1) := by decide +kernel
theorem dX5_number_29 : decode prog_7_method_23_code 29 = .ok (.invokevirtual 60, 3) := by decide +kernel
theorem dX5_number_32 : decode prog_7_method_23_code 32 = .ok (.invokestatic 95, 3) := by decide +kernel
theorem dX5_number_35 : decode prog_7_method_23_code 35 = .ok (.ifCond .eq 32, 3) := by decide +kernel
theorem dX5_number_38 : decode prog_7_method_23_code 38 = .ok (.iload_n 2, 1) := by decide +kernel
theorem dX5_number_39 : decode prog_7_method_23_code 39 = .ok (.bipush 10, 2) := by decide +kernel
theorem dX5_number_41 : decode prog_7_method_23_code 41 = .ok (.imul, 1) := by decide +kernel
theorem dX5_number_42 : decode prog_7_method_23_code 42 = .ok (.aload_n 0, 1) := by decide +kernel
theorem dX5_number_43 : decode prog_7_method_23_code 43 = .ok (.invokevirtual 60, 3) := by decide +kernel
theorem dX5_number_46 : decode prog_7_method_23_code 46 = .ok (.iadd, 1) := by decide +kernel
theorem dX5_number_47 : decode prog_7_method_23_code 47 = .ok (.bipush 48, 2) := by decide +kernel
theorem dX5_number_49 : decode prog_7_method_23_code 49 = .ok (.isub, 1) := by decide +kernel
theorem dX5_number_50 : decode prog_7_method_23_code 50 = .ok (.istore_n 2, 1) := by decide +kernel
theorem dX5_number_51 : decode prog_7_method_23_code 51 = .ok (.aload_n 0, 1) := by decide +kernel
theorem dX5_number_52 : decode prog_7_method_23_code 52 = .ok (.dup, 1) := by decide +kernel
theorem dX5_number_53 : decode prog_7_method_23_code 53 = .ok (.getfield 34, 3) := by decide +kernel
theorem dX5_number_56 : decode prog_7_method_23_code 56 = .ok (.iconst 1, 1) := by decide +kernel
theorem dX5_number_57 : decode prog_7_method_23_code 57 = .ok (.iadd, 1) := by decide +kernel
theorem dX5_number_58 : decode prog_7_method_23_code 58 = .ok (.putfield 34, 3) := by decide +kernel
theorem dX5_number_61 : decode prog_7_method_23_code 61 = .ok (.iinc 3 1, 3) := by decide +kernel
theorem dX5_number_64 : decode prog_7_method_23_code 64 = .ok (.goto (-41), 3) := by decide +kernel
theorem dX5_number_67 : decode prog_7_method_23_code 67 = .ok (.iload_n 2, 1) := by decide +kernel
theorem dX5_number_68 : decode prog_7_method_23_code 68 = .ok (.ireturn, 1) := by decide +kernel
theorem dX5_product_0 : decode prog_7_method_17_code 0 = .ok (.aload_n 0, 1) := by decide +kernel
theorem dX5_product_1 : decode prog_7_method_17_code 1 = .ok (.iload_n 1, 1) := by decide +kernel
theorem dX5_product_2 : decode prog_7_method_17_code 2 = .ok (.invokevirtual 92, 3) := by decide +kernel
theorem dX5_product_5 : decode prog_7_method_17_code 5 = .ok (.istore_n 2, 1) := by decide +kernel
theorem dX5_product_6 : decode prog_7_method_17_code 6 = .ok (.iconst 0, 1) := by decide +kernel
theorem dX5_product_7 : decode prog_7_method_17_code 7 = .ok (.istore_n 3, 1) := by decide +kernel
theorem dX5_product_8 : decode prog_7_method_17_code 8 = .ok (.iload_n 3, 1) := by decide +kernel
theorem dX5_product_9 : decode prog_7_method_17_code 9 = .ok (.bipush 120, 2) := by decide +kernel
theorem dX5_product_11 : decode prog_7_method_17_code 11 = .ok (.if_icmp .ge 69, 3) := by decide +kernel
theorem dX5_product_14 : decode prog_7_method_17_code 14 = .ok (.aload_n 0, 1) := by decide +kernel
theorem dX5_product_15 : decode prog_7_method_17_code 15 = .ok (.invokevirtual 60, 3) := by decide +kernel
theorem dX5_product_18 : decode prog_7_method_17_code 18 = .ok (.bipush 42, 2) := by decide +kernel
theorem dX5_product_20 : decode prog_7_method_17_code 20 = .ok (.if_icmp .eq 12, 3) := by decide +kernel
theorem dX5_product_23 : decode prog_7_method_17_code 23 = .ok (.aload_n 0, 1) := by decide +kernel
theorem dX5_product_24 : decode prog_7_method_17_code 24 = .ok (.invokevirtual 60, 3) := by decide +kernel
theorem dX5_product_27 : decode prog_7_method_17_code 27 = .ok (.bipush 47, 2) := by decide +kernel
theorem dX5_product_29 : decode prog_7_method_17_code 29 = .ok (.if_icmp .ne 51, 3) := by decide +kernel
theorem dX5_product_32 : decode prog_7_method_17_code 32 = .ok (.aload_n 0, 1) := by decide +kernel
theorem dX5_product_33 : decode prog_7_method_17_code 33 = .ok (.invokevirtual 60, 3) := by decide +kernel
theorem dX5_product_36 : decode prog_7_method_17_code 36 = .ok (.bipush 42, 2) := by decide +kernel
theorem dX5_product_38 : decode prog_7_method_17_code 38 = .ok (.if_icmp .ne 8, 3) := by decide +kernel
theorem dX5_product_41 : decode prog_7_method_17_code 41 = .ok (.bipush 8, 2) := by decide +kernel
theorem dX5_product_43 : decode prog_7_method_17_code 43 = .ok (.goto 5, 3) := by decide +kernel
theorem dX5_product_46 : decode prog_7_method_17_code 46 = .ok (.bipush 9, 2) := by decide +kernel
theorem dX5_product_48 : decode prog_7_method_17_code 48 = .ok (.istore 4, 2) := by decide +kernel
theorem dX5_product_50 : decode prog_7_method_17_code 50 = .ok (.aload_n 0, 1) := by decide +kernel
theorem dX5_product_51 : decode prog_7_method_17_code 51 = .ok (.dup, 1) := by decide +kernel
theorem dX5_product_52 : decode prog_7_method_17_code 52 = .ok (.getfield 34, 3) := by decide +kernel
theorem dX5_product_55 : decode prog_7_method_17_code 55 = .ok (.iconst 1, 1) := by decide +kernel
theorem dX5_product_56 : decode prog_7_method_17_code 56 = .ok (.iadd, 1) := by decide +kernel
theorem dX5_product_57 : decode prog_7_method_17_code 57 = .ok (.putfield 34, 3) := by decide +kernel
theorem dX5_product_60 : decode prog_7_method_17_code 60 = .ok (.aload_n 0, 1) := by decide +kernel
theorem dX5_product_61 : decode prog_7_method_17_code 61 = .ok (.iload 4, 2) := by decide +kernel
theorem dX5_product_63 : decode prog_7_method_17_code 63 = .ok (.iload_n 2, 1) := by decide +kernel
theorem dX5_product_64 : decode prog_7_method_17_code 64 = .ok (.aload_n 0, 1) := by decide +kernel
theorem dX5_product_65 : decode prog_7_method_17_code 65 = .ok (.iload_n 1, 1) := by decide +kernel
theorem dX5_product_66 : decode prog_7_method_17_code 66 = .ok (.invokevirtual 92, 3) := by decide +kernel
theorem dX5_product_69 : decode prog_7_method_17_code 69 = .ok (.iconst 0, 1) := by decide +kernel
theorem dX5_product_70 : decode prog_7_method_17_code 70 = .ok (.invokevirtual 71, 3) := by decide +kernel
theorem dX5_product_73 : decode prog_7_method_17_code 73 = .ok (.istore_n 2, 1) := by decide +kernel
theorem dX5_product_74 : decode prog_7_method_17_code 74 = .ok (.iinc 3 1, 3) := by decide +kernel
theorem dX5_product_77 : decode prog_7_method_17_code 77 = .ok (.goto (-69), 3) := by decide +kernel
theorem dX5_product_80 : decode prog_7_method_17_code 80 = .ok (.iload_n 2, 1) := by decide +kernel
theorem dX5_product_81 : decode prog_7_method_17_code 81 = .ok (.ireturn, 1) := by decide +kernel
theorem dX5_skip_0 : decode prog_7_method_9_code 0 = .ok (.aload_n 0, 1) := by decide +kernel
theorem dX5_skip_1 : decode prog_7_method_9_code 1 = .ok (.invokevirtual 60, 3) := by decide +kernel
theorem dX5_skip_4 : decode prog_7_method_9_code 4 = .ok (.iload_n 1, 1) := by decide +kernel
theorem dX5_skip_5 : decode prog_7_method_9_code 5 = .ok (.if_icmp .eq 5, 3) := by decide +kernel
theorem dX5_skip_8 : decode prog_7_method_9_code 8 = .ok (.iconst 0, 1) := by decide +kernel
theorem dX5_skip_9 : decode prog_7_method_9_code 9 = .ok (.ireturn, 1) := by decide +kernel
theorem dX5_skip_10 : decode prog_7_method_9_code 10 = .ok (.aload_n 0, 1) := by decide +kernel
theorem dX5_skip_11 : decode prog_7_method_9_code 11 = .ok (.dup, 1) := by decide +kernel
theorem dX5_skip_12 : decode prog_7_method_9_code 12 = .ok (.getfield 34, 3) := by decide +kernel
theorem dX5_skip_15 : decode prog_7_method_9_code 15 = .ok (.iconst 1, 1) := by decide +kernel
theorem dX5_skip_16 : decode prog_7_method_9_code 16 = .ok (.iadd, 1) := by decide +kernel
theorem dX5_skip_17 : decode prog_7_method_9_code 17 = .ok (.putfield 34, 3) := by decide +kernel
theorem dX5_skip_20 : decode prog_7_method_9_code 20 = .ok (.iconst 1, 1) := by decide +kernel
theorem dX5_skip_21 : decode prog_7_method_9_code 21 = .ok (.ireturn, 1) := by decide +kernel
theorem dX5_sum_0 : decode prog_7_method_16_code 0 = .ok (.aload_n 0, 1) := by decide +kernel
theorem dX5_sum_1 : decode prog_7_method_16_code 1 = .ok (.iload_n 1, 1) := by decide +kernel
theorem dX5_sum_2 : decode prog_7_method_16_code 2 = .ok (.invokevirtual 89, 3) := by decide +kernel
theorem dX5_sum_5 : decode prog_7_method_16_code 5 = .ok (.istore_n 2, 1) := by decide +kernel
theorem dX5_sum_6 : decode prog_7_method_16_code 6 = .ok (.iconst 0, 1) := by decide +kernel
theorem dX5_sum_7 : decode prog_7_method_16_code 7 = .ok (.istore_n 3, 1) := by decide +kernel
theorem dX5_sum_8 : decode prog_7_method_16_code 8 = .ok (.iload_n 3, 1) := by decide +kernel
theorem dX5_sum_9 : decode prog_7_method_16_code 9 = .ok (.bipush 120, 2) := by decide +kernel
theorem dX5_sum_11 : decode prog_7_method_16_code 11 = .ok (.if_icmp .ge 69, 3) := by decide +kernel
theorem dX5_sum_14 : decode prog_7_method_16_code 14 = .ok (.aload_n 0, 1) := by decide +kernel
theorem dX5_sum_15 : decode prog_7_method_16_code 15 = .ok (.invokevirtual 60, 3) := by decide +kernel
theorem dX5_sum_18 : decode prog_7_method_16_code 18 = .ok (.bipush 43, 2) := by decide +kernel
theorem dX5_sum_20 : decode prog_7_method_16_code 20 = .ok (.if_icmp .eq 12, 3) := by decide +kernel
theorem dX5_sum_23 : decode prog_7_method_16_code 23 = .ok (.aload_n 0, 1) := by decide +kernel
theorem dX5_sum_24 : decode prog_7_method_16_code 24 = .ok (.invokevirtual 60, 3) := by decide +kernel
theorem dX5_sum_27 : decode prog_7_method_16_code 27 = .ok (.bipush 45, 2) := by decide +kernel
theorem dX5_sum_29 : decode prog_7_method_16_code 29 = .ok (.if_icmp .ne 51, 3) := by decide +kernel
theorem dX5_sum_32 : decode prog_7_method_16_code 32 = .ok (.aload_n 0, 1) := by decide +kernel
theorem dX5_sum_33 : decode prog_7_method_16_code 33 = .ok (.invokevirtual 60, 3) := by decide +kernel
theorem dX5_sum_36 : decode prog_7_method_16_code 36 = .ok (.bipush 43, 2) := by decide +kernel
theorem dX5_sum_38 : decode prog_7_method_16_code 38 = .ok (.if_icmp .ne 8, 3) := by decide +kernel
theorem dX5_sum_41 : decode prog_7_method_16_code 41 = .ok (.bipush 10, 2) := by decide +kernel
theorem dX5_sum_43 : decode prog_7_method_16_code 43 = .ok (.goto 5, 3) := by decide +kernel
theorem dX5_sum_46 : decode prog_7_method_16_code 46 = .ok (.bipush 11, 2) := by decide +kernel
theorem dX5_sum_48 : decode prog_7_method_16_code 48 = .ok (.istore 4, 2) := by decide +kernel
theorem dX5_sum_50 : decode prog_7_method_16_code 50 = .ok (.aload_n 0, 1) := by decide +kernel
theorem dX5_sum_51 : decode prog_7_method_16_code 51 = .ok (.dup, 1) := by decide +kernel
theorem dX5_sum_52 : decode prog_7_method_16_code 52 = .ok (.getfield 34, 3) := by decide +kernel
theorem dX5_sum_55 : decode prog_7_method_16_code 55 = .ok (.iconst 1, 1) := by decide +kernel
theorem dX5_sum_56 : decode prog_7_method_16_code 56 = .ok (.iadd, 1) := by decide +kernel
theorem dX5_sum_57 : decode prog_7_method_16_code 57 = .ok (.putfield 34, 3) := by decide +kernel
theorem dX5_sum_60 : decode prog_7_method_16_code 60 = .ok (.aload_n 0, 1) := by decide +kernel
theorem dX5_sum_61 : decode prog_7_method_16_code 61 = .ok (.iload 4, 2) := by decide +kernel
theorem dX5_sum_63 : decode prog_7_method_16_code 63 = .ok (.iload_n 2, 1) := by decide +kernel
theorem dX5_sum_64 : decode prog_7_method_16_code 64 = .ok (.aload_n 0, 1) := by decide +kernel
theorem dX5_sum_65 : decode prog_7_method_16_code 65 = .ok (.iload_n 1, 1) := by decide +kernel
theorem dX5_sum_66 : decode prog_7_method_16_code 66 = .ok (.invokevirtual 89, 3) := by decide +kernel
theorem dX5_sum_69 : decode prog_7_method_16_code 69 = .ok (.iconst 0, 1) := by decide +kernel
theorem dX5_sum_70 : decode prog_7_method_16_code 70 = .ok (.invokevirtual 71, 3) := by decide +kernel
theorem dX5_sum_73 : decode prog_7_method_16_code 73 = .ok (.istore_n 2, 1) := by decide +kernel
theorem dX5_sum_74 : decode prog_7_method_16_code 74 = .ok (.iinc 3 1, 3) := by decide +kernel
theorem dX5_sum_77 : decode prog_7_method_16_code 77 = .ok (.goto (-69), 3) := by decide +kernel
theorem dX5_sum_80 : decode prog_7_method_16_code 80 = .ok (.iload_n 2, 1) := by decide +kernel
theorem dX5_sum_81 : decode prog_7_method_16_code 81 = .ok (.ireturn, 1) := by decide +kernel
theorem dX7_forget_0 : decode prog_9_method_3_code 0 = .ok (.aload_n 0, 1) := by decide +kernel
theorem dX7_forget_1 : decode prog_9_method_3_code 1 = .ok (.lconst 0, 1) := by decide +kernel
theorem dX7_forget_2 : decode prog_9_method_3_code 2 = .ok (.putfield 25, 3) := by decide +kernel
theorem dX7_forget_5 : decode prog_9_method_3_code 5 = .ok (.return_, 1) := by decide +kernel
/-! ReactiveSheet.History.add(IIII)V ['x.history'] -/
abbrev rm_X_X3_add__9 : Room := { frames := 1, cells := 0, slots := 0, locals := 22 }
def b_X_X3_add__9_0  (t : fw_S) (x1 : Int32) (x2 : Int32) (x3 : Int32) (x4 : Int32) : Option fw_S := fb_b (f_X_J9_floorMod_7cf53 t (st_I t 12) ((20 : Int32))) fun v_2 t_1 => (fb_g (¬ ((v_2 * ((4 : Int32))) < 0 ∨ 80 ≤ (v_2 * ((4 : Int32))).toNatClampNeg)) (fb_l (up_F t_1 29 (upd (st_F t_1 29) (v_2 * ((4 : Int32))).toNatClampNeg x1)) fun t_3 => (fb_g (¬ (((v_2 * ((4 : Int32))) + ((1 : Int32))) < 0 ∨ 80 ≤ ((v_2 * ((4 : Int32))) + ((1 : Int32))).toNatClampNeg)) (fb_l (up_F t_3 29 (upd (st_F t_3 29) ((v_2 * ((4 : Int32))) + ((1 : Int32))).toNatClampNeg x2)) fun t_4 => (fb_g (¬ (((v_2 * ((4 : Int32))) + ((2 : Int32))) < 0 ∨ 80 ≤ ((v_2 * ((4 : Int32))) + ((2 : Int32))).toNatClampNeg)) (fb_l (up_F t_4 29 (upd (st_F t_4 29) ((v_2 * ((4 : Int32))) + ((2 : Int32))).toNatClampNeg x3)) fun t_5 => (fb_g (¬ (((v_2 * ((4 : Int32))) + ((3 : Int32))) < 0 ∨ 80 ≤ ((v_2 * ((4 : Int32))) + ((3 : Int32))).toNatClampNeg)) (fb_l (up_F t_5 29 (upd (st_F t_5 29) ((v_2 * ((4 : Int32))) + ((3 : Int32))).toNatClampNeg x4)) fun t_6 => (fb_l (up_I t_6 12 ((st_I t_6 12) + ((1 : Int32)))) fun t_7 => (some t_7))))))))))
def f_X_X3_add__9 (t : fw_S) (x1 : Int32) (x2 : Int32) (x3 : Int32) (x4 : Int32) : Option fw_S := b_X_X3_add__9_0 t x1 x2 x3 x4
set_option maxRecDepth 20000 in
theorem w_X_X3_add__9_0 {p : Program} {l : Launch} {e : Env} {s : State} {m : MethodId} {args : Array Value} {below : List Frame} {meth : Method} {c : Code} {A : Nat → Prop} {Q : State → Prop} {D : va_G} {ca : Nat → ClassId} {a : Nat → Nat} {u : fw_S}  (C : CX (WX ca a) D (tyv ca) p s m args c A prog_5_method_3_code 6 RX3) (hr : True → RX (WX ca a) D p l e rm_X_X3_add__9 s m args below meth c A prog_5_method_3_code Q .return_ [] u) {t : fw_S} {x1 : Int32} {x2 : Int32} {x3 : Int32} {x4 : Int32} {H : Heap} {locs : List Loc} {ls : Array Slot} (hf : b_X_X3_add__9_0  t x1 x2 x3 x4 = some u) (hP : va_P D classes (WX ca a t) H) (hS : va_S A s.heap H locs) (hl : lv_has ls 6 [(0, .ref (a 9)), (1, .int x1), (2, .int x2), (3, .int x3), (4, .int x4)]) : W p l e rm_X_X3_add__9 s m args below meth c H locs 0 0 Q (F0 m 0 ls []) := by
  obtain ⟨hx, hb, hml, hown, hts, hN, hK, hD, hA⟩ := id C
  have hf : (fb_b (f_X_J9_floorMod_7cf53 t (st_I t 12) ((20 : Int32))) fun v_2 t_1 => (fb_g (¬ ((v_2 * ((4 : Int32))) < 0 ∨ 80 ≤ (v_2 * ((4 : Int32))).toNatClampNeg)) (fb_l (up_F t_1 29 (upd (st_F t_1 29) (v_2 * ((4 : Int32))).toNatClampNeg x1)) fun t_3 => (fb_g (¬ (((v_2 * ((4 : Int32))) + ((1 : Int32))) < 0 ∨ 80 ≤ ((v_2 * ((4 : Int32))) + ((1 : Int32))).toNatClampNeg)) (fb_l (up_F t_3 29 (upd (st_F t_3 29) ((v_2 * ((4 : Int32))) + ((1 : Int32))).toNatClampNeg x2)) fun t_4 => (fb_g (¬ (((v_2 * ((4 : Int32))) + ((2 : Int32))) < 0 ∨ 80 ≤ ((v_2 * ((4 : Int32))) + ((2 : Int32))).toNatClampNeg)) (fb_l (up_F t_4 29 (upd (st_F t_4 29) ((v_2 * ((4 : Int32))) + ((2 : Int32))).toNatClampNeg x3)) fun t_5 => (fb_g (¬ (((v_2 * ((4 : Int32))) + ((3 : Int32))) < 0 ∨ 80 ≤ ((v_2 * ((4 : Int32))) + ((3 : Int32))).toNatClampNeg)) (fb_l (up_F t_5 29 (upd (st_F t_5 29) ((v_2 * ((4 : Int32))) + ((3 : Int32))).toNatClampNeg x4)) fun t_6 => (fb_l (up_I t_6 12 ((st_I t_6 12) + ((1 : Int32)))) fun t_7 => (some t_7))))))))))) = some u := hf
  refine lv_aload_n hx hb dX3_add_0 rfl (lv_at hl 0 rfl) ?_
  refine va_get (D := D) (ci := 3) (v := .int (st_I t 12)) (C := RX3) (T := TX3) (N := 2) hx hb hts inX3 hown hK hP 9 (heX_9 ca a t) rfl 1 (by decide) (hts _ kw_320) (fun _ h9 => h9) rfl dX3_add_1 ?_
  refine lv_bipush (v := 20) hx hb dX3_add_4 (by decide) ?_
  obtain ⟨v_2, t_1, g_6, hf⟩ := fb_bs hf
  refine fw_S1 (As := [.int (st_I t 12), .int ((20 : Int32))]) (rest := []) (n := 2) C (c_X_J9_floorMod_7cf53 (l := l) (D := D) (ca := ca) (a := a) g_6) kw_666 kw_667 kw_106 kw_668 hP hS hl rfl rfl (by decide) (by decide +kernel) ⟨Nat.le_of_ble_eq_true rfl, Nat.le_of_ble_eq_true rfl⟩ rfl rfl (Nat.le_of_ble_eq_true rfl) dX3_add_6 (fun H locs hP hS => ?_)
  refine W.eq (g2 := F0 m 9 ls [.int v_2]) rfl ?_
  refine lv_iconst (v := 4) hx hb dX3_add_9 (by decide) ?_
  refine lv_imul hx hb dX3_add_10 ?_
  refine lv_istore (lv' := [(5, .int (v_2 * ((4 : Int32)))), (0, .ref (a 9)), (1, .int x1), (2, .int x2), (3, .int x3), (4, .int x4)]) hx hb dX3_add_11 hl (by decide) rfl (fun ls hl => ?_)
  refine lv_aload_n hx hb dX3_add_13 rfl (lv_at hl 1 rfl) ?_
  refine va_get (D := D) (ci := 3) (v := .ref (a 57)) (C := RX3) (T := TX3) (N := 2) hx hb hts inX3 hown hK hP 9 (heX_9 ca a t_1) rfl 0 (by decide) (hts _ kw_319) (fun _ h9 => h9) rfl dX3_add_14 ?_
  refine lv_iload hx hb dX3_add_17 (lv_at hl 0 rfl) ?_
  refine lv_iload_n hx hb dX3_add_19 rfl (lv_at hl 2 rfl) ?_
  obtain ⟨h_20, hf⟩ := fb_if hf
  refine va_iast hx hb hK hP (hD t_1) hS 57 0 (haX_57 ca a t_1) rfl h_20 dX3_add_20 (fun H locs hP _ hS => ?_)
  rw [saX_57] at hP
  obtain ⟨t_3, e_20, hf⟩ := fb_ls hf
  rw [← e_20] at hP
  refine lv_aload_n hx hb dX3_add_21 rfl (lv_at hl 1 rfl) ?_
  refine va_get (D := D) (ci := 3) (v := .ref (a 57)) (C := RX3) (T := TX3) (N := 2) hx hb hts inX3 hown hK hP 9 (heX_9 ca a t_3) rfl 0 (by decide) (hts _ kw_319) (fun _ h9 => h9) rfl dX3_add_22 ?_
  refine lv_iload hx hb dX3_add_25 (lv_at hl 0 rfl) ?_
  refine lv_iconst (v := 1) hx hb dX3_add_27 (by decide) ?_
  refine lv_iadd hx hb dX3_add_28 ?_
  refine lv_iload_n hx hb dX3_add_29 rfl (lv_at hl 3 rfl) ?_
  obtain ⟨h_30, hf⟩ := fb_if hf
  refine va_iast hx hb hK hP (hD t_3) hS 57 0 (haX_57 ca a t_3) rfl h_30 dX3_add_30 (fun H locs hP _ hS => ?_)
  rw [saX_57] at hP
  obtain ⟨t_4, e_30, hf⟩ := fb_ls hf
  rw [← e_30] at hP
  refine lv_aload_n hx hb dX3_add_31 rfl (lv_at hl 1 rfl) ?_
  refine va_get (D := D) (ci := 3) (v := .ref (a 57)) (C := RX3) (T := TX3) (N := 2) hx hb hts inX3 hown hK hP 9 (heX_9 ca a t_4) rfl 0 (by decide) (hts _ kw_319) (fun _ h9 => h9) rfl dX3_add_32 ?_
  refine lv_iload hx hb dX3_add_35 (lv_at hl 0 rfl) ?_
  refine lv_iconst (v := 2) hx hb dX3_add_37 (by decide) ?_
  refine lv_iadd hx hb dX3_add_38 ?_
  refine lv_iload_n hx hb dX3_add_39 rfl (lv_at hl 4 rfl) ?_
  obtain ⟨h_40, hf⟩ := fb_if hf
  refine va_iast hx hb hK hP (hD t_4) hS 57 0 (haX_57 ca a t_4) rfl h_40 dX3_add_40 (fun H locs hP _ hS => ?_)
  rw [saX_57] at hP
  obtain ⟨t_5, e_40, hf⟩ := fb_ls hf
  rw [← e_40] at hP
  refine lv_aload_n hx hb dX3_add_41 rfl (lv_at hl 1 rfl) ?_
  refine va_get (D := D) (ci := 3) (v := .ref (a 57)) (C := RX3) (T := TX3) (N := 2) hx hb hts inX3 hown hK hP 9 (heX_9 ca a t_5) rfl 0 (by decide) (hts _ kw_319) (fun _ h9 => h9) rfl dX3_add_42 ?_
  refine lv_iload hx hb dX3_add_45 (lv_at hl 0 rfl) ?_
  refine lv_iconst (v := 3) hx hb dX3_add_47 (by decide) ?_
  refine lv_iadd hx hb dX3_add_48 ?_
  refine lv_iload hx hb dX3_add_49 (lv_at hl 5 rfl) ?_
  obtain ⟨h_51, hf⟩ := fb_if hf
  refine va_iast hx hb hK hP (hD t_5) hS 57 0 (haX_57 ca a t_5) rfl h_51 dX3_add_51 (fun H locs hP _ hS => ?_)
  rw [saX_57] at hP
  obtain ⟨t_6, e_51, hf⟩ := fb_ls hf
  rw [← e_51] at hP
  refine lv_aload_n hx hb dX3_add_52 rfl (lv_at hl 1 rfl) ?_
  refine lv_dup hx hb dX3_add_53 rfl ?_
  refine va_get (D := D) (ci := 3) (v := .int (st_I t_6 12)) (C := RX3) (T := TX3) (N := 2) hx hb hts inX3 hown hK hP 9 (heX_9 ca a t_6) rfl 1 (by decide) (hts _ kw_320) (fun _ h9 => h9) rfl dX3_add_54 ?_
  refine lv_iconst (v := 1) hx hb dX3_add_57 (by decide) ?_
  refine lv_iadd hx hb dX3_add_58 ?_
  refine va_put (D := D) (ci := 3) (v := .int ((st_I t_6 12) + ((1 : Int32)))) (ty := .int) (C := RX3) (T := TX3) (N := 2) hx hb hts inX3 tyX3 tyX3_ok nmX3 hown hK hP (hD t_6) hS 9 (heX_9 ca a t_6) rfl 1 (by decide) (hts _ kw_320) (fun _ h9 => h9) rfl (by decide +kernel) rfl rfl (Nat.le_of_ble_eq_true rfl) dX3_add_59 (fun H locs hP _ hS => ?_)
  rw [suX_9_1] at hP
  obtain ⟨t_7, e_59, hf⟩ := fb_ls hf
  rw [← e_59] at hP
  have e_62 := fb_ev hf
  subst e_62
  exact hr trivial _ _ _ _ hP hS dX3_add_62
set_option maxRecDepth 20000 in
theorem c_X_X3_add__9 {l : Launch} {D : va_G} {ca : Nat → ClassId} {a : Nat → Nat} {t : fw_S} {x1 : Int32} {x2 : Int32} {x3 : Int32} {x4 : Int32} {u : fw_S} (hf : f_X_X3_add__9 t x1 x2 x3 x4 = some u) : MC (WX ca a) D (tyv ca) l yX3_add (.code yX3_add prog_5_method_3_code 6 none :: lw_gd) rm_X_X3_add__9 [.ref (a 9), .int x1, .int x2, .int x3, .int x4] none t u := by
  refine fw_met (okX ca a) (by decide +kernel) rfl rfl (Nat.le_of_ble_eq_true rfl) ?_
  intro p e s m args below meth c A Q ls C hr hk hP hS hl hQ
  exact w_X_X3_add__9_0 C (fun _ => fw_rv C hr hk hQ) hf hP hS (lv_sub hl [0, 1, 2, 3, 4] rfl)
/-! ReactiveSheet.Telling.forget()V ['x.telling'] -/
abbrev rm_X_X7_forget__6 : Room := { frames := 0, cells := 0, slots := 0, locals := 0 }
def b_X_X7_forget__6_0  (t : fw_S)  : Option fw_S := fb_l (up_J t 8 ((0 : Int64))) fun t_1 => (some t_1)
def f_X_X7_forget__6 (t : fw_S)  : Option fw_S := b_X_X7_forget__6_0 t 
set_option maxRecDepth 20000 in
theorem w_X_X7_forget__6_0 {p : Program} {l : Launch} {e : Env} {s : State} {m : MethodId} {args : Array Value} {below : List Frame} {meth : Method} {c : Code} {A : Nat → Prop} {Q : State → Prop} {D : va_G} {ca : Nat → ClassId} {a : Nat → Nat} {u : fw_S}  (C : CX (WX ca a) D (tyv ca) p s m args c A prog_9_method_3_code 1 RX7) (hr : True → RX (WX ca a) D p l e rm_X_X7_forget__6 s m args below meth c A prog_9_method_3_code Q .return_ [] u) {t : fw_S}  {H : Heap} {locs : List Loc} {ls : Array Slot} (hf : b_X_X7_forget__6_0  t  = some u) (hP : va_P D classes (WX ca a t) H) (hS : va_S A s.heap H locs) (hl : lv_has ls 1 [(0, .ref (a 6))]) : W p l e rm_X_X7_forget__6 s m args below meth c H locs 0 0 Q (F0 m 0 ls []) := by
  obtain ⟨hx, hb, hml, hown, hts, hN, hK, hD, hA⟩ := id C
  have hf : (fb_l (up_J t 8 ((0 : Int64))) fun t_1 => (some t_1)) = some u := hf
  refine lv_aload_n hx hb dX7_forget_0 rfl (lv_at hl 0 rfl) ?_
  refine lv_lconst (v := 0) hx hb dX7_forget_1 (by decide) ?_
  refine va_put (D := D) (ci := 7) (v := .long ((0 : Int64))) (ty := .long) (C := RX7) (T := TX7) (N := 4) hx hb hts inX7 tyX7 tyX7_ok nmX7 hown hK hP (hD t) hS 6 (heX_6 ca a t) rfl 3 (by decide) (hts _ kw_260) (fun _ h9 => h9) rfl (by decide +kernel) rfl rfl (Nat.le_of_ble_eq_true rfl) dX7_forget_2 (fun H locs hP _ hS => ?_)
  rw [suX_6_3] at hP
  obtain ⟨t_1, e_2, hf⟩ := fb_ls hf
  rw [← e_2] at hP
  have e_5 := fb_ev hf
  subst e_5
  exact hr trivial _ _ _ _ hP hS dX7_forget_5
set_option maxRecDepth 20000 in
theorem c_X_X7_forget__6 {l : Launch} {D : va_G} {ca : Nat → ClassId} {a : Nat → Nat} {t : fw_S}  {u : fw_S} (hf : f_X_X7_forget__6 t  = some u) : MC (WX ca a) D (tyv ca) l yX7_forget (.code yX7_forget prog_9_method_3_code 1 none :: lw_gd) rm_X_X7_forget__6 [.ref (a 6)] none t u := by
  refine fw_met (okX ca a) (by decide +kernel) rfl rfl (Nat.le_of_ble_eq_true rfl) ?_
  intro p e s m args below meth c A Q ls C hr hk hP hS hl hQ
  exact w_X_X7_forget__6_0 C (fun _ => fw_rv C hr hk hQ) hf hP hS (lv_sub hl [0] rfl)
/-! ReactiveSheet.surge()I ['x'] -/
abbrev rm_X_X10_surge__0 : Room := { frames := 5, cells := 0, slots := 0, locals := 165 }
def b_X_X10_surge__0_75  (t : fw_S) (x1 : Int32) : Option (Int32 × fw_S) := fb_v (f_X_X7_forget__6 t) fun t_1 => (some (x1, t_1))
def b_X_X10_surge__0_27  (t : fw_S) (x1 : Int32) : Option (Int32 × fw_S) := fb_v (f_X_X1_before__3 t) fun t_1 => (fb_v (f_X_X1_now__3 t_1) fun t_2 => (fb_b (f_X_X9_ask__8_5_4 t_2) fun v_4 t_3 => (fb_b (f_X_X7_count__6 t_3) fun v_6 t_5 => (fb_v (f_X_X1_now__3 t_5) fun t_7 => (fb_b (f_X_X0_changedCount__4 t_7) fun v_9 t_8 => (fb_v (f_X_X3_add__9 t_8 v_6 x1 v_9 v_4) fun t_10 => (b_X_X10_surge__0_75 t_10 x1)))))))
def b_X_X10_surge__0_9  (t : fw_S)  : Option (Int32 × fw_S) := fb_b (f_X_X1_go__3_6 t) fun v_2 t_1 => (if v_2 = ((-7 : Int32)) then b_X_X10_surge__0_75 t_1 v_2 else b_X_X10_surge__0_27 t_1 v_2)
def b_X_X10_surge__0_7  (t : fw_S)  : Option (Int32 × fw_S) := some ((0 : Int32), t)
def b_X_X10_surge__0_0  (t : fw_S)  : Option (Int32 × fw_S) := if (st_I t 0) = 0 then b_X_X10_surge__0_9 t else b_X_X10_surge__0_7 t
def f_X_X10_surge__0 (t : fw_S)  : Option (Int32 × fw_S) := b_X_X10_surge__0_0 t 
set_option maxRecDepth 20000 in
theorem w_X_X10_surge__0_75 {p : Program} {l : Launch} {e : Env} {s : State} {m : MethodId} {args : Array Value} {below : List Frame} {meth : Method} {c : Code} {A : Nat → Prop} {Q : State → Prop} {D : va_G} {ca : Nat → ClassId} {a : Nat → Nat} {u : fw_S} {r : Int32}  (C : CX (WX ca a) D (tyv ca) p s m args c A prog_1_method_41_code 3 RX10) (hr : True → RX (WX ca a) D p l e rm_X_X10_surge__0 s m args below meth c A prog_1_method_41_code Q .ireturn [.int r] u) {t : fw_S} {x1 : Int32} {H : Heap} {locs : List Loc} {ls : Array Slot} (hf : b_X_X10_surge__0_75  t x1 = some (r, u)) (hP : va_P D classes (WX ca a t) H) (hS : va_S A s.heap H locs) (hl : lv_has ls 3 [(0, .ref (a 0)), (1, .int x1)]) : W p l e rm_X_X10_surge__0 s m args below meth c H locs 0 0 Q (F0 m 75 ls []) := by
  obtain ⟨hx, hb, hml, hown, hts, hN, hK, hD, hA⟩ := id C
  have hf : (fb_v (f_X_X7_forget__6 t) fun t_1 => (some (x1, t_1))) = some (r, u) := hf
  refine lv_aload_n hx hb dX10_surge_75 rfl (lv_at hl 0 rfl) ?_
  refine va_get (D := D) (ci := 10) (v := .ref (a 6)) (C := RX10) (T := TX10) (N := 13) hx hb hts inX10 hown hK hP 0 (heX_0 ca a t) rfl 3 (by decide) (hts _ kw_357) (fun _ h9 => h9) rfl dX10_surge_76 ?_
  obtain ⟨t_1, g_79, hf⟩ := fb_vs hf
  refine fw_V1 (As := []) (rest := []) (n := 0) (q0 := 6) C (c_X_X7_forget__6 (l := l) (D := D) (ca := ca) (a := a) g_79) kw_669 kw_670 kw_97 kw_672 kw_671 hP hS hl (heX_6 ca a t) rfl rfl rfl (by decide) (by decide +kernel) ⟨Nat.le_of_ble_eq_true rfl, Nat.le_of_ble_eq_true rfl⟩ rfl rfl (Nat.le_of_ble_eq_true rfl) dX10_surge_79 (fun H locs hP hS => ?_)
  refine W.eq (g2 := F0 m 82 ls []) rfl ?_
  refine lv_iload_n hx hb dX10_surge_82 rfl (lv_at hl 1 rfl) ?_
  obtain ⟨e_83, e2_83⟩ := fb_e hf
  subst e_83; subst e2_83
  exact hr trivial _ _ _ _ hP hS dX10_surge_83
set_option maxRecDepth 20000 in
theorem w_X_X10_surge__0_27 {p : Program} {l : Launch} {e : Env} {s : State} {m : MethodId} {args : Array Value} {below : List Frame} {meth : Method} {c : Code} {A : Nat → Prop} {Q : State → Prop} {D : va_G} {ca : Nat → ClassId} {a : Nat → Nat} {u : fw_S} {r : Int32}  (C : CX (WX ca a) D (tyv ca) p s m args c A prog_1_method_41_code 3 RX10) (hr : True → RX (WX ca a) D p l e rm_X_X10_surge__0 s m args below meth c A prog_1_method_41_code Q .ireturn [.int r] u) {t : fw_S} {x1 : Int32} {H : Heap} {locs : List Loc} {ls : Array Slot} (hf : b_X_X10_surge__0_27  t x1 = some (r, u)) (hP : va_P D classes (WX ca a t) H) (hS : va_S A s.heap H locs) (hl : lv_has ls 3 [(0, .ref (a 0)), (1, .int x1)]) : W p l e rm_X_X10_surge__0 s m args below meth c H locs 0 0 Q (F0 m 27 ls []) := by
  obtain ⟨hx, hb, hml, hown, hts, hN, hK, hD, hA⟩ := id C
  have hf : (fb_v (f_X_X1_before__3 t) fun t_1 => (fb_v (f_X_X1_now__3 t_1) fun t_2 => (fb_b (f_X_X9_ask__8_5_4 t_2) fun v_4 t_3 => (fb_b (f_X_X7_count__6 t_3) fun v_6 t_5 => (fb_v (f_X_X1_now__3 t_5) fun t_7 => (fb_b (f_X_X0_changedCount__4 t_7) fun v_9 t_8 => (fb_v (f_X_X3_add__9 t_8 v_6 x1 v_9 v_4) fun t_10 => (b_X_X10_surge__0_75 t_10 x1)))))))) = some (r, u) := hf
  refine lv_aload_n hx hb dX10_surge_27 rfl (lv_at hl 0 rfl) ?_
  refine va_get (D := D) (ci := 10) (v := .ref (a 8)) (C := RX10) (T := TX10) (N := 13) hx hb hts inX10 hown hK hP 0 (heX_0 ca a t) rfl 5 (by decide) (hts _ kw_359) (fun _ h9 => h9) rfl dX10_surge_28 ?_
  refine lv_aload_n hx hb dX10_surge_31 rfl (lv_at hl 0 rfl) ?_
  refine va_get (D := D) (ci := 10) (v := .ref (a 3)) (C := RX10) (T := TX10) (N := 13) hx hb hts inX10 hown hK hP 0 (heX_0 ca a t) rfl 2 (by decide) (hts _ kw_356) (fun _ h9 => h9) rfl dX10_surge_32 ?_
  obtain ⟨t_1, g_35, hf⟩ := fb_vs hf
  refine fw_V1 (As := []) (rest := [.ref (a 8)]) (n := 0) (q0 := 3) C (c_X_X1_before__3 (l := l) (D := D) (ca := ca) (a := a) g_35) kw_622 kw_623 kw_95 kw_625 kw_624 hP hS hl (heX_3 ca a t) rfl rfl rfl (by decide) (by decide +kernel) ⟨Nat.le_of_ble_eq_true rfl, Nat.le_of_ble_eq_true rfl⟩ rfl rfl (Nat.le_of_ble_eq_true rfl) dX10_surge_35 (fun H locs hP hS => ?_)
  refine W.eq (g2 := F0 m 38 ls [.ref (a 5), .ref (a 8)]) rfl ?_
  refine lv_aload_n hx hb dX10_surge_38 rfl (lv_at hl 0 rfl) ?_
  refine va_get (D := D) (ci := 10) (v := .ref (a 3)) (C := RX10) (T := TX10) (N := 13) hx hb hts inX10 hown hK hP 0 (heX_0 ca a t_1) rfl 2 (by decide) (hts _ kw_356) (fun _ h9 => h9) rfl dX10_surge_39 ?_
  obtain ⟨t_2, g_42, hf⟩ := fb_vs hf
  refine fw_V1 (As := []) (rest := [.ref (a 5), .ref (a 8)]) (n := 0) (q0 := 3) C (c_X_X1_now__3 (l := l) (D := D) (ca := ca) (a := a) g_42) kw_626 kw_627 kw_95 kw_629 kw_628 hP hS hl (heX_3 ca a t_1) rfl rfl rfl (by decide) (by decide +kernel) ⟨Nat.le_of_ble_eq_true rfl, Nat.le_of_ble_eq_true rfl⟩ rfl rfl (Nat.le_of_ble_eq_true rfl) dX10_surge_42 (fun H locs hP hS => ?_)
  refine W.eq (g2 := F0 m 45 ls [.ref (a 4), .ref (a 5), .ref (a 8)]) rfl ?_
  obtain ⟨v_4, t_3, g_45, hf⟩ := fb_bs hf
  refine fw_V1 (As := [.ref (a 5), .ref (a 4)]) (rest := []) (n := 2) (q0 := 8) C (c_X_X9_ask__8_5_4 (l := l) (D := D) (ca := ca) (a := a) g_45) kw_630 kw_631 kw_98 kw_633 kw_632 hP hS hl (heX_8 ca a t_2) rfl rfl rfl (by decide) (by decide +kernel) ⟨Nat.le_of_ble_eq_true rfl, Nat.le_of_ble_eq_true rfl⟩ rfl rfl (Nat.le_of_ble_eq_true rfl) dX10_surge_45 (fun H locs hP hS => ?_)
  refine W.eq (g2 := F0 m 48 ls [.int v_4]) rfl ?_
  refine lv_istore_n (lv' := [(2, .int v_4), (0, .ref (a 0)), (1, .int x1)]) hx hb dX10_surge_48 rfl hl (by decide) rfl (fun ls hl => ?_)
  refine lv_aload_n hx hb dX10_surge_49 rfl (lv_at hl 1 rfl) ?_
  refine va_get (D := D) (ci := 10) (v := .ref (a 9)) (C := RX10) (T := TX10) (N := 13) hx hb hts inX10 hown hK hP 0 (heX_0 ca a t_3) rfl 6 (by decide) (hts _ kw_360) (fun _ h9 => h9) rfl dX10_surge_50 ?_
  refine lv_aload_n hx hb dX10_surge_53 rfl (lv_at hl 1 rfl) ?_
  refine va_get (D := D) (ci := 10) (v := .ref (a 6)) (C := RX10) (T := TX10) (N := 13) hx hb hts inX10 hown hK hP 0 (heX_0 ca a t_3) rfl 3 (by decide) (hts _ kw_357) (fun _ h9 => h9) rfl dX10_surge_54 ?_
  obtain ⟨v_6, t_5, g_57, hf⟩ := fb_bs hf
  refine fw_V1 (As := []) (rest := [.ref (a 9)]) (n := 0) (q0 := 6) C (c_X_X7_count__6 (l := l) (D := D) (ca := ca) (a := a) g_57) kw_653 kw_654 kw_97 kw_656 kw_655 hP hS hl (heX_6 ca a t_3) rfl rfl rfl (by decide) (by decide +kernel) ⟨Nat.le_of_ble_eq_true rfl, Nat.le_of_ble_eq_true rfl⟩ rfl rfl (Nat.le_of_ble_eq_true rfl) dX10_surge_57 (fun H locs hP hS => ?_)
  refine W.eq (g2 := F0 m 60 ls [.int v_6, .ref (a 9)]) rfl ?_
  refine lv_iload_n hx hb dX10_surge_60 rfl (lv_at hl 2 rfl) ?_
  refine lv_aload_n hx hb dX10_surge_61 rfl (lv_at hl 1 rfl) ?_
  refine va_get (D := D) (ci := 10) (v := .ref (a 3)) (C := RX10) (T := TX10) (N := 13) hx hb hts inX10 hown hK hP 0 (heX_0 ca a t_5) rfl 2 (by decide) (hts _ kw_356) (fun _ h9 => h9) rfl dX10_surge_62 ?_
  obtain ⟨t_7, g_65, hf⟩ := fb_vs hf
  refine fw_V1 (As := []) (rest := [.int x1, .int v_6, .ref (a 9)]) (n := 0) (q0 := 3) C (c_X_X1_now__3 (l := l) (D := D) (ca := ca) (a := a) g_65) kw_626 kw_627 kw_95 kw_629 kw_628 hP hS hl (heX_3 ca a t_5) rfl rfl rfl (by decide) (by decide +kernel) ⟨Nat.le_of_ble_eq_true rfl, Nat.le_of_ble_eq_true rfl⟩ rfl rfl (Nat.le_of_ble_eq_true rfl) dX10_surge_65 (fun H locs hP hS => ?_)
  refine W.eq (g2 := F0 m 68 ls [.ref (a 4), .int x1, .int v_6, .ref (a 9)]) rfl ?_
  obtain ⟨v_9, t_8, g_68, hf⟩ := fb_bs hf
  refine fw_V1 (As := []) (rest := [.int x1, .int v_6, .ref (a 9)]) (n := 0) (q0 := 4) C (c_X_X0_changedCount__4 (l := l) (D := D) (ca := ca) (a := a) g_68) kw_658 kw_659 kw_96 kw_661 kw_660 hP hS hl (heX_4 ca a t_7) rfl rfl rfl (by decide) (by decide +kernel) ⟨Nat.le_of_ble_eq_true rfl, Nat.le_of_ble_eq_true rfl⟩ rfl rfl (Nat.le_of_ble_eq_true rfl) dX10_surge_68 (fun H locs hP hS => ?_)
  refine W.eq (g2 := F0 m 71 ls [.int v_9, .int x1, .int v_6, .ref (a 9)]) rfl ?_
  refine lv_iload_n hx hb dX10_surge_71 rfl (lv_at hl 0 rfl) ?_
  obtain ⟨t_10, g_72, hf⟩ := fb_vs hf
  refine fw_V1 (As := [.int v_6, .int x1, .int v_9, .int v_4]) (rest := []) (n := 4) (q0 := 9) C (c_X_X3_add__9 (l := l) (D := D) (ca := ca) (a := a) g_72) kw_662 kw_663 kw_99 kw_665 kw_664 hP hS hl (heX_9 ca a t_8) rfl rfl rfl (by decide) (by decide +kernel) ⟨Nat.le_of_ble_eq_true rfl, Nat.le_of_ble_eq_true rfl⟩ rfl rfl (Nat.le_of_ble_eq_true rfl) dX10_surge_72 (fun H locs hP hS => ?_)
  refine W.eq (g2 := F0 m 75 ls []) rfl ?_
  exact w_X_X10_surge__0_75 C hr hf hP hS (lv_sub hl [1, 2] rfl)
set_option maxRecDepth 20000 in
theorem w_X_X10_surge__0_9 {p : Program} {l : Launch} {e : Env} {s : State} {m : MethodId} {args : Array Value} {below : List Frame} {meth : Method} {c : Code} {A : Nat → Prop} {Q : State → Prop} {D : va_G} {ca : Nat → ClassId} {a : Nat → Nat} {u : fw_S} {r : Int32}  (C : CX (WX ca a) D (tyv ca) p s m args c A prog_1_method_41_code 3 RX10) (hr : True → RX (WX ca a) D p l e rm_X_X10_surge__0 s m args below meth c A prog_1_method_41_code Q .ireturn [.int r] u) {t : fw_S}  {H : Heap} {locs : List Loc} {ls : Array Slot} (hf : b_X_X10_surge__0_9  t  = some (r, u)) (hP : va_P D classes (WX ca a t) H) (hS : va_S A s.heap H locs) (hl : lv_has ls 3 [(0, .ref (a 0))]) : W p l e rm_X_X10_surge__0 s m args below meth c H locs 0 0 Q (F0 m 9 ls []) := by
  obtain ⟨hx, hb, hml, hown, hts, hN, hK, hD, hA⟩ := id C
  have hf : (fb_b (f_X_X1_go__3_6 t) fun v_2 t_1 => (if v_2 = ((-7 : Int32)) then b_X_X10_surge__0_75 t_1 v_2 else b_X_X10_surge__0_27 t_1 v_2)) = some (r, u) := hf
  refine lv_aload_n hx hb dX10_surge_9 rfl (lv_at hl 0 rfl) ?_
  refine va_get (D := D) (ci := 10) (v := .ref (a 3)) (C := RX10) (T := TX10) (N := 13) hx hb hts inX10 hown hK hP 0 (heX_0 ca a t) rfl 2 (by decide) (hts _ kw_356) (fun _ h9 => h9) rfl dX10_surge_10 ?_
  refine lv_aload_n hx hb dX10_surge_13 rfl (lv_at hl 0 rfl) ?_
  refine va_get (D := D) (ci := 10) (v := .ref (a 6)) (C := RX10) (T := TX10) (N := 13) hx hb hts inX10 hown hK hP 0 (heX_0 ca a t) rfl 3 (by decide) (hts _ kw_357) (fun _ h9 => h9) rfl dX10_surge_14 ?_
  obtain ⟨v_2, t_1, g_17, hf⟩ := fb_bs hf
  refine fw_V1 (As := [.ref (a 6)]) (rest := []) (n := 1) (q0 := 3) C (c_X_X1_go__3_6 (l := l) (D := D) (ca := ca) (a := a) g_17) kw_414 kw_415 kw_95 kw_417 kw_416 hP hS hl (heX_3 ca a t) rfl rfl rfl (by decide) (by decide +kernel) ⟨Nat.le_of_ble_eq_true rfl, Nat.le_of_ble_eq_true rfl⟩ rfl rfl (Nat.le_of_ble_eq_true rfl) dX10_surge_17 (fun H locs hP hS => ?_)
  refine W.eq (g2 := F0 m 20 ls [.int v_2]) rfl ?_
  refine lv_istore_n (lv' := [(1, .int v_2), (0, .ref (a 0))]) hx hb dX10_surge_20 rfl hl (by decide) rfl (fun ls hl => ?_)
  refine lv_iload_n hx hb dX10_surge_21 rfl (lv_at hl 0 rfl) ?_
  refine lv_bipush (v := (-7)) hx hb dX10_surge_22 (by decide) ?_
  refine lv_icmp_eq (tgt := 75) hx hb dX10_surge_24 (by decide) (fun h_24 => ?_) (fun h_24 => ?_)
  · have hf := fb_t h_24 hf
    exact w_X_X10_surge__0_75 C hr hf hP hS (lv_sub hl [1, 0] rfl)
  · have hf := fb_f h_24 hf
    exact w_X_X10_surge__0_27 C hr hf hP hS (lv_sub hl [1, 0] rfl)
set_option maxRecDepth 20000 in
theorem w_X_X10_surge__0_7 {p : Program} {l : Launch} {e : Env} {s : State} {m : MethodId} {args : Array Value} {below : List Frame} {meth : Method} {c : Code} {A : Nat → Prop} {Q : State → Prop} {D : va_G} {ca : Nat → ClassId} {a : Nat → Nat} {u : fw_S} {r : Int32}  (C : CX (WX ca a) D (tyv ca) p s m args c A prog_1_method_41_code 3 RX10) (hr : True → RX (WX ca a) D p l e rm_X_X10_surge__0 s m args below meth c A prog_1_method_41_code Q .ireturn [.int r] u) {t : fw_S}  {H : Heap} {locs : List Loc} {ls : Array Slot} (hf : b_X_X10_surge__0_7  t  = some (r, u)) (hP : va_P D classes (WX ca a t) H) (hS : va_S A s.heap H locs) (hl : lv_has ls 3 []) : W p l e rm_X_X10_surge__0 s m args below meth c H locs 0 0 Q (F0 m 7 ls []) := by
  obtain ⟨hx, hb, hml, hown, hts, hN, hK, hD, hA⟩ := id C
  have hf : (some ((0 : Int32), t)) = some (r, u) := hf
  refine lv_iconst (v := 0) hx hb dX10_surge_7 (by decide) ?_
  obtain ⟨e_8, e2_8⟩ := fb_e hf
  subst e_8; subst e2_8
  exact hr trivial _ _ _ _ hP hS dX10_surge_8
set_option maxRecDepth 20000 in
theorem w_X_X10_surge__0_0 {p : Program} {l : Launch} {e : Env} {s : State} {m : MethodId} {args : Array Value} {below : List Frame} {meth : Method} {c : Code} {A : Nat → Prop} {Q : State → Prop} {D : va_G} {ca : Nat → ClassId} {a : Nat → Nat} {u : fw_S} {r : Int32}  (C : CX (WX ca a) D (tyv ca) p s m args c A prog_1_method_41_code 3 RX10) (hr : True → RX (WX ca a) D p l e rm_X_X10_surge__0 s m args below meth c A prog_1_method_41_code Q .ireturn [.int r] u) {t : fw_S}  {H : Heap} {locs : List Loc} {ls : Array Slot} (hf : b_X_X10_surge__0_0  t  = some (r, u)) (hP : va_P D classes (WX ca a t) H) (hS : va_S A s.heap H locs) (hl : lv_has ls 3 [(0, .ref (a 0))]) : W p l e rm_X_X10_surge__0 s m args below meth c H locs 0 0 Q (F0 m 0 ls []) := by
  obtain ⟨hx, hb, hml, hown, hts, hN, hK, hD, hA⟩ := id C
  have hf : (if (st_I t 0) = 0 then b_X_X10_surge__0_9 t else b_X_X10_surge__0_7 t) = some (r, u) := hf
  refine lv_aload_n hx hb dX10_surge_0 rfl (lv_at hl 0 rfl) ?_
  refine va_get (D := D) (ci := 10) (v := .int (st_I t 0)) (C := RX10) (T := TX10) (N := 13) hx hb hts inX10 hown hK hP 0 (heX_0 ca a t) rfl 11 (by decide) (hts _ kw_365) (fun _ h9 => h9) rfl dX10_surge_1 ?_
  refine lv_if_eq (tgt := 9) hx hb dX10_surge_4 (by decide) (fun h_4 => ?_) (fun h_4 => ?_)
  · have hf := fb_t h_4 hf
    exact w_X_X10_surge__0_9 C hr hf hP hS (lv_sub hl [0] rfl)
  · have hf := fb_f h_4 hf
    exact w_X_X10_surge__0_7 C hr hf hP hS (lv_sub hl [] rfl)
set_option maxRecDepth 20000 in
theorem c_X_X10_surge__0 {l : Launch} {D : va_G} {ca : Nat → ClassId} {a : Nat → Nat} {t : fw_S}  {u : fw_S} {r : Int32} (hf : f_X_X10_surge__0 t  = some (r, u)) : MC (WX ca a) D (tyv ca) l yX10_surge (.code yX10_surge prog_1_method_41_code 3 (some .int) :: lw_gd) rm_X_X10_surge__0 [.ref (a 0)] (some (.int r)) t u := by
  refine fw_met (okX ca a) (by decide +kernel) rfl rfl (Nat.le_of_ble_eq_true rfl) ?_
  intro p e s m args below meth c A Q ls C hr hk hP hS hl hQ
  exact w_X_X10_surge__0_0 C (fun _ => fw_ri C hr hk hQ) hf hP hS (lv_sub hl [0] rfl)
/-! ReactiveSheet.input(IJ)I ['x'] -/
abbrev rm_X_X10_input__0 : Room := { frames := 6, cells := 0, slots := 0, locals := 187 }
def b_X_X10_input__0_10  (t : fw_S) (x1 : Int32) (y2 : Int64) : Option (Int32 × fw_S) := fb_v (f_X_X7_put__6_N t x1 ((1 : Int32)) y2) fun t_1 => (fb_b (f_X_X10_surge__0 t_1) fun v_3 t_2 => (some (v_3, t_2)))
def b_X_X10_input__0_8  (t : fw_S)  : Option (Int32 × fw_S) := some ((-1 : Int32), t)
def b_X_X10_input__0_0  (t : fw_S) (x1 : Int32) (y2 : Int64) : Option (Int32 × fw_S) := fb_b (f_X_X10_isCell t x1.toInt64) fun v_2 t_1 => (if v_2 = 0 then b_X_X10_input__0_8 t_1 else b_X_X10_input__0_10 t_1 x1 y2)
def f_X_X10_input__0 (t : fw_S) (x1 : Int32) (y2 : Int64) : Option (Int32 × fw_S) := b_X_X10_input__0_0 t x1 y2
set_option maxRecDepth 20000 in
theorem w_X_X10_input__0_10 {p : Program} {l : Launch} {e : Env} {s : State} {m : MethodId} {args : Array Value} {below : List Frame} {meth : Method} {c : Code} {A : Nat → Prop} {Q : State → Prop} {D : va_G} {ca : Nat → ClassId} {a : Nat → Nat} {u : fw_S} {r : Int32}  (C : CX (WX ca a) D (tyv ca) p s m args c A prog_1_method_2_code 4 RX10) (hr : True → RX (WX ca a) D p l e rm_X_X10_input__0 s m args below meth c A prog_1_method_2_code Q .ireturn [.int r] u) {t : fw_S} {x1 : Int32} {y2 : Int64} {H : Heap} {locs : List Loc} {ls : Array Slot} (hf : b_X_X10_input__0_10  t x1 y2 = some (r, u)) (hP : va_P D classes (WX ca a t) H) (hS : va_S A s.heap H locs) (hl : lv_has ls 4 [(0, .ref (a 0)), (1, .int x1), (2, .long y2)]) : W p l e rm_X_X10_input__0 s m args below meth c H locs 0 0 Q (F0 m 10 ls []) := by
  obtain ⟨hx, hb, hml, hown, hts, hN, hK, hD, hA⟩ := id C
  have hf : (fb_v (f_X_X7_put__6_N t x1 ((1 : Int32)) y2) fun t_1 => (fb_b (f_X_X10_surge__0 t_1) fun v_3 t_2 => (some (v_3, t_2)))) = some (r, u) := hf
  refine lv_aload_n hx hb dX10_input_10 rfl (lv_at hl 0 rfl) ?_
  refine va_get (D := D) (ci := 10) (v := .ref (a 6)) (C := RX10) (T := TX10) (N := 13) hx hb hts inX10 hown hK hP 0 (heX_0 ca a t) rfl 3 (by decide) (hts _ kw_357) (fun _ h9 => h9) rfl dX10_input_11 ?_
  refine lv_iload_n hx hb dX10_input_14 rfl (lv_at hl 1 rfl) ?_
  refine lv_iconst (v := 1) hx hb dX10_input_15 (by decide) ?_
  refine lv_lload_n hx hb dX10_input_16 rfl (lv_at hl 2 rfl) ?_
  refine lv_null hx hb dX10_input_17 ?_
  obtain ⟨t_1, g_18, hf⟩ := fb_vs hf
  refine fw_V1 (As := [.int x1, .int ((1 : Int32)), .long y2, .null]) (rest := []) (n := 4) (q0 := 6) C (c_X_X7_put__6_N (l := l) (D := D) (ca := ca) (a := a) g_18) kw_402 kw_403 kw_97 kw_405 kw_404 hP hS hl (heX_6 ca a t) rfl rfl rfl (by decide) (by decide +kernel) ⟨Nat.le_of_ble_eq_true rfl, Nat.le_of_ble_eq_true rfl⟩ rfl rfl (Nat.le_of_ble_eq_true rfl) dX10_input_18 (fun H locs hP hS => ?_)
  refine W.eq (g2 := F0 m 21 ls []) rfl ?_
  refine lv_aload_n hx hb dX10_input_21 rfl (lv_at hl 0 rfl) ?_
  obtain ⟨v_3, t_2, g_22, hf⟩ := fb_bs hf
  refine fw_V1 (As := []) (rest := []) (n := 0) (q0 := 0) C (c_X_X10_surge__0 (l := l) (D := D) (ca := ca) (a := a) g_22) kw_410 kw_412 kw_92 kw_413 kw_0 hP hS hl (heX_0 ca a t_1) rfl rfl rfl (by decide) (by decide +kernel) ⟨Nat.le_of_ble_eq_true rfl, Nat.le_of_ble_eq_true rfl⟩ rfl rfl (Nat.le_of_ble_eq_true rfl) dX10_input_22 (fun H locs hP hS => ?_)
  refine W.eq (g2 := F0 m 25 ls [.int v_3]) rfl ?_
  obtain ⟨e_25, e2_25⟩ := fb_e hf
  subst e_25; subst e2_25
  exact hr trivial _ _ _ _ hP hS dX10_input_25
set_option maxRecDepth 20000 in
theorem w_X_X10_input__0_8 {p : Program} {l : Launch} {e : Env} {s : State} {m : MethodId} {args : Array Value} {below : List Frame} {meth : Method} {c : Code} {A : Nat → Prop} {Q : State → Prop} {D : va_G} {ca : Nat → ClassId} {a : Nat → Nat} {u : fw_S} {r : Int32}  (C : CX (WX ca a) D (tyv ca) p s m args c A prog_1_method_2_code 4 RX10) (hr : True → RX (WX ca a) D p l e rm_X_X10_input__0 s m args below meth c A prog_1_method_2_code Q .ireturn [.int r] u) {t : fw_S}  {H : Heap} {locs : List Loc} {ls : Array Slot} (hf : b_X_X10_input__0_8  t  = some (r, u)) (hP : va_P D classes (WX ca a t) H) (hS : va_S A s.heap H locs) (hl : lv_has ls 4 []) : W p l e rm_X_X10_input__0 s m args below meth c H locs 0 0 Q (F0 m 8 ls []) := by
  obtain ⟨hx, hb, hml, hown, hts, hN, hK, hD, hA⟩ := id C
  have hf : (some ((-1 : Int32), t)) = some (r, u) := hf
  refine lv_iconst (v := (-1)) hx hb dX10_input_8 (by decide) ?_
  obtain ⟨e_9, e2_9⟩ := fb_e hf
  subst e_9; subst e2_9
  exact hr trivial _ _ _ _ hP hS dX10_input_9
set_option maxRecDepth 20000 in
theorem w_X_X10_input__0_0 {p : Program} {l : Launch} {e : Env} {s : State} {m : MethodId} {args : Array Value} {below : List Frame} {meth : Method} {c : Code} {A : Nat → Prop} {Q : State → Prop} {D : va_G} {ca : Nat → ClassId} {a : Nat → Nat} {u : fw_S} {r : Int32}  (C : CX (WX ca a) D (tyv ca) p s m args c A prog_1_method_2_code 4 RX10) (hr : True → RX (WX ca a) D p l e rm_X_X10_input__0 s m args below meth c A prog_1_method_2_code Q .ireturn [.int r] u) {t : fw_S} {x1 : Int32} {y2 : Int64} {H : Heap} {locs : List Loc} {ls : Array Slot} (hf : b_X_X10_input__0_0  t x1 y2 = some (r, u)) (hP : va_P D classes (WX ca a t) H) (hS : va_S A s.heap H locs) (hl : lv_has ls 4 [(0, .ref (a 0)), (1, .int x1), (2, .long y2)]) : W p l e rm_X_X10_input__0 s m args below meth c H locs 0 0 Q (F0 m 0 ls []) := by
  obtain ⟨hx, hb, hml, hown, hts, hN, hK, hD, hA⟩ := id C
  have hf : (fb_b (f_X_X10_isCell t x1.toInt64) fun v_2 t_1 => (if v_2 = 0 then b_X_X10_input__0_8 t_1 else b_X_X10_input__0_10 t_1 x1 y2)) = some (r, u) := hf
  refine lv_iload_n hx hb dX10_input_0 rfl (lv_at hl 1 rfl) ?_
  refine lv_i2l hx hb dX10_input_1 rfl ?_
  obtain ⟨v_2, t_1, g_2, hf⟩ := fb_bs hf
  refine fw_S1 (As := [.long x1.toInt64]) (rest := []) (n := 1) C (c_X_X10_isCell (l := l) (D := D) (ca := ca) (a := a) g_2) kw_398 kw_399 kw_92 kw_400 hP hS hl rfl rfl (by decide) (by decide +kernel) ⟨Nat.le_of_ble_eq_true rfl, Nat.le_of_ble_eq_true rfl⟩ rfl rfl (Nat.le_of_ble_eq_true rfl) dX10_input_2 (fun H locs hP hS => ?_)
  refine W.eq (g2 := F0 m 5 ls [.int v_2]) rfl ?_
  refine lv_if_ne (tgt := 10) hx hb dX10_input_5 (by decide) (fun h_5 => ?_) (fun h_5 => ?_)
  · have hf := fb_f h_5 hf
    exact w_X_X10_input__0_10 C hr hf hP hS (lv_sub hl [0, 1, 2] rfl)
  · have hf := fb_t h_5 hf
    exact w_X_X10_input__0_8 C hr hf hP hS (lv_sub hl [] rfl)
set_option maxRecDepth 20000 in
theorem c_X_X10_input__0 {l : Launch} {D : va_G} {ca : Nat → ClassId} {a : Nat → Nat} {t : fw_S} {x1 : Int32} {y2 : Int64} {u : fw_S} {r : Int32} (hf : f_X_X10_input__0 t x1 y2 = some (r, u)) : MC (WX ca a) D (tyv ca) l yX10_input (.code yX10_input prog_1_method_2_code 4 (some .int) :: lw_gd) rm_X_X10_input__0 [.ref (a 0), .int x1, .long y2] (some (.int r)) t u := by
  refine fw_met (okX ca a) (by decide +kernel) rfl rfl (Nat.le_of_ble_eq_true rfl) ?_
  intro p e s m args below meth c A Q ls C hr hk hP hS hl hQ
  exact w_X_X10_input__0_0 C (fun _ => fw_ri C hr hk hQ) hf hP hS (lv_sub hl [0, 1, 2] rfl)
/-! ReactiveSheet.Parser.here()I ['x.parser'] -/
abbrev rm_X_X5_here__1 : Room := { frames := 0, cells := 0, slots := 0, locals := 0 }
def b_X_X5_here__1_40  (t : fw_S) (z0 : Int32) : Option (Int32 × fw_S) := some (z0, t)
def b_X_X5_here__1_39  (t : fw_S)  : Option (Int32 × fw_S) := b_X_X5_here__1_40 t ((0 : Int32))
def b_X_X5_here__1_27  (t : fw_S)  : Option (Int32 × fw_S) := fb_g (¬ ((st_I t 3) < 0 ∨ 120 ≤ (st_I t 3).toNatClampNeg)) (b_X_X5_here__1_40 t (st_F t 0 (st_I t 3).toNatClampNeg))
def b_X_X5_here__1_18  (t : fw_S)  : Option (Int32 × fw_S) := if ((120 : Int32)) ≤ (st_I t 3) then b_X_X5_here__1_39 t else b_X_X5_here__1_27 t
def b_X_X5_here__1_7  (t : fw_S)  : Option (Int32 × fw_S) := if (st_I t 2) ≤ (st_I t 3) then b_X_X5_here__1_39 t else b_X_X5_here__1_18 t
def b_X_X5_here__1_0  (t : fw_S)  : Option (Int32 × fw_S) := if 0 ≤ (st_I t 4) then b_X_X5_here__1_39 t else b_X_X5_here__1_7 t
def f_X_X5_here__1 (t : fw_S)  : Option (Int32 × fw_S) := b_X_X5_here__1_0 t 
set_option maxRecDepth 20000 in
theorem w_X_X5_here__1_40 {p : Program} {l : Launch} {e : Env} {s : State} {m : MethodId} {args : Array Value} {below : List Frame} {meth : Method} {c : Code} {A : Nat → Prop} {Q : State → Prop} {D : va_G} {ca : Nat → ClassId} {a : Nat → Nat} {u : fw_S} {r : Int32}  (C : CX (WX ca a) D (tyv ca) p s m args c A prog_7_method_7_code 1 RX5) (hr : True → RX (WX ca a) D p l e rm_X_X5_here__1 s m args below meth c A prog_7_method_7_code Q .ireturn [.int r] u) {t : fw_S} {z0 : Int32} {H : Heap} {locs : List Loc} {ls : Array Slot} (hf : b_X_X5_here__1_40  t z0 = some (r, u)) (hP : va_P D classes (WX ca a t) H) (hS : va_S A s.heap H locs) (hl : lv_has ls 1 []) : W p l e rm_X_X5_here__1 s m args below meth c H locs 0 0 Q (F0 m 40 ls [.int z0]) := by
  obtain ⟨hx, hb, hml, hown, hts, hN, hK, hD, hA⟩ := id C
  have hf : (some (z0, t)) = some (r, u) := hf
  obtain ⟨e_40, e2_40⟩ := fb_e hf
  subst e_40; subst e2_40
  exact hr trivial _ _ _ _ hP hS dX5_here_40
set_option maxRecDepth 20000 in
theorem w_X_X5_here__1_39 {p : Program} {l : Launch} {e : Env} {s : State} {m : MethodId} {args : Array Value} {below : List Frame} {meth : Method} {c : Code} {A : Nat → Prop} {Q : State → Prop} {D : va_G} {ca : Nat → ClassId} {a : Nat → Nat} {u : fw_S} {r : Int32}  (C : CX (WX ca a) D (tyv ca) p s m args c A prog_7_method_7_code 1 RX5) (hr : True → RX (WX ca a) D p l e rm_X_X5_here__1 s m args below meth c A prog_7_method_7_code Q .ireturn [.int r] u) {t : fw_S}  {H : Heap} {locs : List Loc} {ls : Array Slot} (hf : b_X_X5_here__1_39  t  = some (r, u)) (hP : va_P D classes (WX ca a t) H) (hS : va_S A s.heap H locs) (hl : lv_has ls 1 []) : W p l e rm_X_X5_here__1 s m args below meth c H locs 0 0 Q (F0 m 39 ls []) := by
  obtain ⟨hx, hb, hml, hown, hts, hN, hK, hD, hA⟩ := id C
  have hf : (b_X_X5_here__1_40 t ((0 : Int32))) = some (r, u) := hf
  refine lv_iconst (v := 0) hx hb dX5_here_39 (by decide) ?_
  exact w_X_X5_here__1_40 C hr hf hP hS (lv_sub hl [] rfl)
set_option maxRecDepth 20000 in
theorem w_X_X5_here__1_27 {p : Program} {l : Launch} {e : Env} {s : State} {m : MethodId} {args : Array Value} {below : List Frame} {meth : Method} {c : Code} {A : Nat → Prop} {Q : State → Prop} {D : va_G} {ca : Nat → ClassId} {a : Nat → Nat} {u : fw_S} {r : Int32}  (C : CX (WX ca a) D (tyv ca) p s m args c A prog_7_method_7_code 1 RX5) (hr : True → RX (WX ca a) D p l e rm_X_X5_here__1 s m args below meth c A prog_7_method_7_code Q .ireturn [.int r] u) {t : fw_S}  {H : Heap} {locs : List Loc} {ls : Array Slot} (hf : b_X_X5_here__1_27  t  = some (r, u)) (hP : va_P D classes (WX ca a t) H) (hS : va_S A s.heap H locs) (hl : lv_has ls 1 [(0, .ref (a 1))]) : W p l e rm_X_X5_here__1 s m args below meth c H locs 0 0 Q (F0 m 27 ls []) := by
  obtain ⟨hx, hb, hml, hown, hts, hN, hK, hD, hA⟩ := id C
  have hf : (fb_g (¬ ((st_I t 3) < 0 ∨ 120 ≤ (st_I t 3).toNatClampNeg)) (b_X_X5_here__1_40 t (st_F t 0 (st_I t 3).toNatClampNeg))) = some (r, u) := hf
  refine lv_aload_n hx hb dX5_here_27 rfl (lv_at hl 0 rfl) ?_
  refine va_get (D := D) (ci := 5) (v := .ref (a 14)) (C := RX5) (T := TX5) (N := 10) hx hb hts inX5 hown hK hP 1 (heX_1 ca a t) rfl 0 (by decide) (hts _ kw_122) (fun _ h9 => h9) rfl dX5_here_28 ?_
  refine lv_aload_n hx hb dX5_here_31 rfl (lv_at hl 0 rfl) ?_
  refine va_get (D := D) (ci := 5) (v := .int (st_I t 3)) (C := RX5) (T := TX5) (N := 10) hx hb hts inX5 hown hK hP 1 (heX_1 ca a t) rfl 7 (by decide) (hts _ kw_129) (fun _ h9 => h9) rfl dX5_here_32 ?_
  obtain ⟨h_35, hf⟩ := fb_if hf
  refine va_iald hx hb hK hP 14 0 (haX_14 ca a t) rfl h_35 dX5_here_35 ?_
  refine lv_goto (tgt := 40) hx hb dX5_here_36 (by decide) ?_
  exact w_X_X5_here__1_40 C hr hf hP hS (lv_sub hl [] rfl)
set_option maxRecDepth 20000 in
theorem w_X_X5_here__1_18 {p : Program} {l : Launch} {e : Env} {s : State} {m : MethodId} {args : Array Value} {below : List Frame} {meth : Method} {c : Code} {A : Nat → Prop} {Q : State → Prop} {D : va_G} {ca : Nat → ClassId} {a : Nat → Nat} {u : fw_S} {r : Int32}  (C : CX (WX ca a) D (tyv ca) p s m args c A prog_7_method_7_code 1 RX5) (hr : True → RX (WX ca a) D p l e rm_X_X5_here__1 s m args below meth c A prog_7_method_7_code Q .ireturn [.int r] u) {t : fw_S}  {H : Heap} {locs : List Loc} {ls : Array Slot} (hf : b_X_X5_here__1_18  t  = some (r, u)) (hP : va_P D classes (WX ca a t) H) (hS : va_S A s.heap H locs) (hl : lv_has ls 1 [(0, .ref (a 1))]) : W p l e rm_X_X5_here__1 s m args below meth c H locs 0 0 Q (F0 m 18 ls []) := by
  obtain ⟨hx, hb, hml, hown, hts, hN, hK, hD, hA⟩ := id C
  have hf : (if ((120 : Int32)) ≤ (st_I t 3) then b_X_X5_here__1_39 t else b_X_X5_here__1_27 t) = some (r, u) := hf
  refine lv_aload_n hx hb dX5_here_18 rfl (lv_at hl 0 rfl) ?_
  refine va_get (D := D) (ci := 5) (v := .int (st_I t 3)) (C := RX5) (T := TX5) (N := 10) hx hb hts inX5 hown hK hP 1 (heX_1 ca a t) rfl 7 (by decide) (hts _ kw_129) (fun _ h9 => h9) rfl dX5_here_19 ?_
  refine lv_bipush (v := 120) hx hb dX5_here_22 (by decide) ?_
  refine lv_icmp_ge (tgt := 39) hx hb dX5_here_24 (by decide) (fun h_24 => ?_) (fun h_24 => ?_)
  · have hf := fb_t h_24 hf
    exact w_X_X5_here__1_39 C hr hf hP hS (lv_sub hl [] rfl)
  · have hf := fb_f h_24 hf
    exact w_X_X5_here__1_27 C hr hf hP hS (lv_sub hl [0] rfl)
set_option maxRecDepth 20000 in
theorem w_X_X5_here__1_7 {p : Program} {l : Launch} {e : Env} {s : State} {m : MethodId} {args : Array Value} {below : List Frame} {meth : Method} {c : Code} {A : Nat → Prop} {Q : State → Prop} {D : va_G} {ca : Nat → ClassId} {a : Nat → Nat} {u : fw_S} {r : Int32}  (C : CX (WX ca a) D (tyv ca) p s m args c A prog_7_method_7_code 1 RX5) (hr : True → RX (WX ca a) D p l e rm_X_X5_here__1 s m args below meth c A prog_7_method_7_code Q .ireturn [.int r] u) {t : fw_S}  {H : Heap} {locs : List Loc} {ls : Array Slot} (hf : b_X_X5_here__1_7  t  = some (r, u)) (hP : va_P D classes (WX ca a t) H) (hS : va_S A s.heap H locs) (hl : lv_has ls 1 [(0, .ref (a 1))]) : W p l e rm_X_X5_here__1 s m args below meth c H locs 0 0 Q (F0 m 7 ls []) := by
  obtain ⟨hx, hb, hml, hown, hts, hN, hK, hD, hA⟩ := id C
  have hf : (if (st_I t 2) ≤ (st_I t 3) then b_X_X5_here__1_39 t else b_X_X5_here__1_18 t) = some (r, u) := hf
  refine lv_aload_n hx hb dX5_here_7 rfl (lv_at hl 0 rfl) ?_
  refine va_get (D := D) (ci := 5) (v := .int (st_I t 3)) (C := RX5) (T := TX5) (N := 10) hx hb hts inX5 hown hK hP 1 (heX_1 ca a t) rfl 7 (by decide) (hts _ kw_129) (fun _ h9 => h9) rfl dX5_here_8 ?_
  refine lv_aload_n hx hb dX5_here_11 rfl (lv_at hl 0 rfl) ?_
  refine va_get (D := D) (ci := 5) (v := .int (st_I t 2)) (C := RX5) (T := TX5) (N := 10) hx hb hts inX5 hown hK hP 1 (heX_1 ca a t) rfl 6 (by decide) (hts _ kw_128) (fun _ h9 => h9) rfl dX5_here_12 ?_
  refine lv_icmp_ge (tgt := 39) hx hb dX5_here_15 (by decide) (fun h_15 => ?_) (fun h_15 => ?_)
  · have hf := fb_t h_15 hf
    exact w_X_X5_here__1_39 C hr hf hP hS (lv_sub hl [] rfl)
  · have hf := fb_f h_15 hf
    exact w_X_X5_here__1_18 C hr hf hP hS (lv_sub hl [0] rfl)
set_option maxRecDepth 20000 in
theorem w_X_X5_here__1_0 {p : Program} {l : Launch} {e : Env} {s : State} {m : MethodId} {args : Array Value} {below : List Frame} {meth : Method} {c : Code} {A : Nat → Prop} {Q : State → Prop} {D : va_G} {ca : Nat → ClassId} {a : Nat → Nat} {u : fw_S} {r : Int32}  (C : CX (WX ca a) D (tyv ca) p s m args c A prog_7_method_7_code 1 RX5) (hr : True → RX (WX ca a) D p l e rm_X_X5_here__1 s m args below meth c A prog_7_method_7_code Q .ireturn [.int r] u) {t : fw_S}  {H : Heap} {locs : List Loc} {ls : Array Slot} (hf : b_X_X5_here__1_0  t  = some (r, u)) (hP : va_P D classes (WX ca a t) H) (hS : va_S A s.heap H locs) (hl : lv_has ls 1 [(0, .ref (a 1))]) : W p l e rm_X_X5_here__1 s m args below meth c H locs 0 0 Q (F0 m 0 ls []) := by
  obtain ⟨hx, hb, hml, hown, hts, hN, hK, hD, hA⟩ := id C
  have hf : (if 0 ≤ (st_I t 4) then b_X_X5_here__1_39 t else b_X_X5_here__1_7 t) = some (r, u) := hf
  refine lv_aload_n hx hb dX5_here_0 rfl (lv_at hl 0 rfl) ?_
  refine va_get (D := D) (ci := 5) (v := .int (st_I t 4)) (C := RX5) (T := TX5) (N := 10) hx hb hts inX5 hown hK hP 1 (heX_1 ca a t) rfl 8 (by decide) (hts _ kw_130) (fun _ h9 => h9) rfl dX5_here_1 ?_
  refine lv_if_ge (tgt := 39) hx hb dX5_here_4 (by decide) (fun h_4 => ?_) (fun h_4 => ?_)
  · have hf := fb_t h_4 hf
    exact w_X_X5_here__1_39 C hr hf hP hS (lv_sub hl [] rfl)
  · have hf := fb_f h_4 hf
    exact w_X_X5_here__1_7 C hr hf hP hS (lv_sub hl [0] rfl)
set_option maxRecDepth 20000 in
theorem c_X_X5_here__1 {l : Launch} {D : va_G} {ca : Nat → ClassId} {a : Nat → Nat} {t : fw_S}  {u : fw_S} {r : Int32} (hf : f_X_X5_here__1 t  = some (r, u)) : MC (WX ca a) D (tyv ca) l yX5_here (.code yX5_here prog_7_method_7_code 1 (some .int) :: lw_gd) rm_X_X5_here__1 [.ref (a 1)] (some (.int r)) t u := by
  refine fw_met (okX ca a) (by decide +kernel) rfl rfl (Nat.le_of_ble_eq_true rfl) ?_
  intro p e s m args below meth c A Q ls C hr hk hP hS hl hQ
  exact w_X_X5_here__1_0 C (fun _ => fw_ri C hr hk hQ) hf hP hS (lv_sub hl [0] rfl)
/-! ReactiveSheet.Parser.isFigure(I)Z [] -/
abbrev rm_X_X5_isFigure : Room := { frames := 0, cells := 0, slots := 0, locals := 0 }
def b_X_X5_isFigure_17  (t : fw_S) (z0 : Int32) : Option (Int32 × fw_S) := fb_g (z0 = 0 ∨ z0 = 1) (some (z0, t))
def b_X_X5_isFigure_16  (t : fw_S)  : Option (Int32 × fw_S) := b_X_X5_isFigure_17 t ((0 : Int32))
def b_X_X5_isFigure_12  (t : fw_S)  : Option (Int32 × fw_S) := b_X_X5_isFigure_17 t ((1 : Int32))
def b_X_X5_isFigure_6  (t : fw_S) (x0 : Int32) : Option (Int32 × fw_S) := if ((57 : Int32)) < x0 then b_X_X5_isFigure_16 t else b_X_X5_isFigure_12 t
def b_X_X5_isFigure_0  (t : fw_S) (x0 : Int32) : Option (Int32 × fw_S) := if x0 < ((48 : Int32)) then b_X_X5_isFigure_16 t else b_X_X5_isFigure_6 t x0
def f_X_X5_isFigure (t : fw_S) (x0 : Int32) : Option (Int32 × fw_S) := b_X_X5_isFigure_0 t x0
set_option maxRecDepth 20000 in
theorem w_X_X5_isFigure_17 {p : Program} {l : Launch} {e : Env} {s : State} {m : MethodId} {args : Array Value} {below : List Frame} {meth : Method} {c : Code} {A : Nat → Prop} {Q : State → Prop} {D : va_G} {ca : Nat → ClassId} {a : Nat → Nat} {u : fw_S} {r : Int32}  (C : CX (WX ca a) D (tyv ca) p s m args c A prog_7_method_21_code 1 RX5) (hr : (r = 0 ∨ r = 1) → RX (WX ca a) D p l e rm_X_X5_isFigure s m args below meth c A prog_7_method_21_code Q .ireturn [.int r] u) {t : fw_S} {z0 : Int32} {H : Heap} {locs : List Loc} {ls : Array Slot} (hf : b_X_X5_isFigure_17  t z0 = some (r, u)) (hP : va_P D classes (WX ca a t) H) (hS : va_S A s.heap H locs) (hl : lv_has ls 1 []) : W p l e rm_X_X5_isFigure s m args below meth c H locs 0 0 Q (F0 m 17 ls [.int z0]) := by
  obtain ⟨hx, hb, hml, hown, hts, hN, hK, hD, hA⟩ := id C
  have hf : (fb_g (z0 = 0 ∨ z0 = 1) (some (z0, t))) = some (r, u) := hf
  obtain ⟨h_17, hf⟩ := fb_if hf
  obtain ⟨e_17, e2_17⟩ := fb_e hf
  subst e_17; subst e2_17
  exact hr h_17 _ _ _ _ hP hS dX5_isFigure_17
set_option maxRecDepth 20000 in
theorem w_X_X5_isFigure_16 {p : Program} {l : Launch} {e : Env} {s : State} {m : MethodId} {args : Array Value} {below : List Frame} {meth : Method} {c : Code} {A : Nat → Prop} {Q : State → Prop} {D : va_G} {ca : Nat → ClassId} {a : Nat → Nat} {u : fw_S} {r : Int32}  (C : CX (WX ca a) D (tyv ca) p s m args c A prog_7_method_21_code 1 RX5) (hr : (r = 0 ∨ r = 1) → RX (WX ca a) D p l e rm_X_X5_isFigure s m args below meth c A prog_7_method_21_code Q .ireturn [.int r] u) {t : fw_S}  {H : Heap} {locs : List Loc} {ls : Array Slot} (hf : b_X_X5_isFigure_16  t  = some (r, u)) (hP : va_P D classes (WX ca a t) H) (hS : va_S A s.heap H locs) (hl : lv_has ls 1 []) : W p l e rm_X_X5_isFigure s m args below meth c H locs 0 0 Q (F0 m 16 ls []) := by
  obtain ⟨hx, hb, hml, hown, hts, hN, hK, hD, hA⟩ := id C
  have hf : (b_X_X5_isFigure_17 t ((0 : Int32))) = some (r, u) := hf
  refine lv_iconst (v := 0) hx hb dX5_isFigure_16 (by decide) ?_
  exact w_X_X5_isFigure_17 C hr hf hP hS (lv_sub hl [] rfl)
set_option maxRecDepth 20000 in
theorem w_X_X5_isFigure_12 {p : Program} {l : Launch} {e : Env} {s : State} {m : MethodId} {args : Array Value} {below : List Frame} {meth : Method} {c : Code} {A : Nat → Prop} {Q : State → Prop} {D : va_G} {ca : Nat → ClassId} {a : Nat → Nat} {u : fw_S} {r : Int32}  (C : CX (WX ca a) D (tyv ca) p s m args c A prog_7_method_21_code 1 RX5) (hr : (r = 0 ∨ r = 1) → RX (WX ca a) D p l e rm_X_X5_isFigure s m args below meth c A prog_7_method_21_code Q .ireturn [.int r] u) {t : fw_S}  {H : Heap} {locs : List Loc} {ls : Array Slot} (hf : b_X_X5_isFigure_12  t  = some (r, u)) (hP : va_P D classes (WX ca a t) H) (hS : va_S A s.heap H locs) (hl : lv_has ls 1 []) : W p l e rm_X_X5_isFigure s m args below meth c H locs 0 0 Q (F0 m 12 ls []) := by
  obtain ⟨hx, hb, hml, hown, hts, hN, hK, hD, hA⟩ := id C
  have hf : (b_X_X5_isFigure_17 t ((1 : Int32))) = some (r, u) := hf
  refine lv_iconst (v := 1) hx hb dX5_isFigure_12 (by decide) ?_
  refine lv_goto (tgt := 17) hx hb dX5_isFigure_13 (by decide) ?_
  exact w_X_X5_isFigure_17 C hr hf hP hS (lv_sub hl [] rfl)
set_option maxRecDepth 20000 in
theorem w_X_X5_isFigure_6 {p : Program} {l : Launch} {e : Env} {s : State} {m : MethodId} {args : Array Value} {below : List Frame} {meth : Method} {c : Code} {A : Nat → Prop} {Q : State → Prop} {D : va_G} {ca : Nat → ClassId} {a : Nat → Nat} {u : fw_S} {r : Int32}  (C : CX (WX ca a) D (tyv ca) p s m args c A prog_7_method_21_code 1 RX5) (hr : (r = 0 ∨ r = 1) → RX (WX ca a) D p l e rm_X_X5_isFigure s m args below meth c A prog_7_method_21_code Q .ireturn [.int r] u) {t : fw_S} {x0 : Int32} {H : Heap} {locs : List Loc} {ls : Array Slot} (hf : b_X_X5_isFigure_6  t x0 = some (r, u)) (hP : va_P D classes (WX ca a t) H) (hS : va_S A s.heap H locs) (hl : lv_has ls 1 [(0, .int x0)]) : W p l e rm_X_X5_isFigure s m args below meth c H locs 0 0 Q (F0 m 6 ls []) := by
  obtain ⟨hx, hb, hml, hown, hts, hN, hK, hD, hA⟩ := id C
  have hf : (if ((57 : Int32)) < x0 then b_X_X5_isFigure_16 t else b_X_X5_isFigure_12 t) = some (r, u) := hf
  refine lv_iload_n hx hb dX5_isFigure_6 rfl (lv_at hl 0 rfl) ?_
  refine lv_bipush (v := 57) hx hb dX5_isFigure_7 (by decide) ?_
  refine lv_icmp_gt (tgt := 16) hx hb dX5_isFigure_9 (by decide) (fun h_9 => ?_) (fun h_9 => ?_)
  · have hf := fb_t h_9 hf
    exact w_X_X5_isFigure_16 C hr hf hP hS (lv_sub hl [] rfl)
  · have hf := fb_f h_9 hf
    exact w_X_X5_isFigure_12 C hr hf hP hS (lv_sub hl [] rfl)
set_option maxRecDepth 20000 in
theorem w_X_X5_isFigure_0 {p : Program} {l : Launch} {e : Env} {s : State} {m : MethodId} {args : Array Value} {below : List Frame} {meth : Method} {c : Code} {A : Nat → Prop} {Q : State → Prop} {D : va_G} {ca : Nat → ClassId} {a : Nat → Nat} {u : fw_S} {r : Int32}  (C : CX (WX ca a) D (tyv ca) p s m args c A prog_7_method_21_code 1 RX5) (hr : (r = 0 ∨ r = 1) → RX (WX ca a) D p l e rm_X_X5_isFigure s m args below meth c A prog_7_method_21_code Q .ireturn [.int r] u) {t : fw_S} {x0 : Int32} {H : Heap} {locs : List Loc} {ls : Array Slot} (hf : b_X_X5_isFigure_0  t x0 = some (r, u)) (hP : va_P D classes (WX ca a t) H) (hS : va_S A s.heap H locs) (hl : lv_has ls 1 [(0, .int x0)]) : W p l e rm_X_X5_isFigure s m args below meth c H locs 0 0 Q (F0 m 0 ls []) := by
  obtain ⟨hx, hb, hml, hown, hts, hN, hK, hD, hA⟩ := id C
  have hf : (if x0 < ((48 : Int32)) then b_X_X5_isFigure_16 t else b_X_X5_isFigure_6 t x0) = some (r, u) := hf
  refine lv_iload_n hx hb dX5_isFigure_0 rfl (lv_at hl 0 rfl) ?_
  refine lv_bipush (v := 48) hx hb dX5_isFigure_1 (by decide) ?_
  refine lv_icmp_lt (tgt := 16) hx hb dX5_isFigure_3 (by decide) (fun h_3 => ?_) (fun h_3 => ?_)
  · have hf := fb_t h_3 hf
    exact w_X_X5_isFigure_16 C hr hf hP hS (lv_sub hl [] rfl)
  · have hf := fb_f h_3 hf
    exact w_X_X5_isFigure_6 C hr hf hP hS (lv_sub hl [0] rfl)
set_option maxRecDepth 20000 in
theorem c_X_X5_isFigure {l : Launch} {D : va_G} {ca : Nat → ClassId} {a : Nat → Nat} {t : fw_S} {x0 : Int32} {u : fw_S} {r : Int32} (hf : f_X_X5_isFigure t x0 = some (r, u)) : MC (WX ca a) D (tyv ca) l yX5_isFigure (.code yX5_isFigure prog_7_method_21_code 1 (some .boolean) :: lw_gd) rm_X_X5_isFigure [.int x0] (some (.int r)) t u := by
  refine fw_met (okX ca a) (by decide +kernel) rfl rfl (Nat.le_of_ble_eq_true rfl) ?_
  intro p e s m args below meth c A Q ls C hr hk hP hS hl hQ
  exact w_X_X5_isFigure_0 C (fun hz => fw_rz C hr hk hz hQ) hf hP hS (lv_sub hl [0] rfl)
/-! ReactiveSheet.Parser.fail(I)I ['x.parser'] -/
abbrev rm_X_X5_fail__1 : Room := { frames := 0, cells := 0, slots := 0, locals := 0 }
def b_X_X5_fail__1_12  (t : fw_S)  : Option (Int32 × fw_S) := some ((0 : Int32), t)
def b_X_X5_fail__1_7  (t : fw_S) (x1 : Int32) : Option (Int32 × fw_S) := fb_l (up_I t 4 x1) fun t_1 => (b_X_X5_fail__1_12 t_1)
def b_X_X5_fail__1_0  (t : fw_S) (x1 : Int32) : Option (Int32 × fw_S) := if 0 ≤ (st_I t 4) then b_X_X5_fail__1_12 t else b_X_X5_fail__1_7 t x1
def f_X_X5_fail__1 (t : fw_S) (x1 : Int32) : Option (Int32 × fw_S) := b_X_X5_fail__1_0 t x1
set_option maxRecDepth 20000 in
theorem w_X_X5_fail__1_12 {p : Program} {l : Launch} {e : Env} {s : State} {m : MethodId} {args : Array Value} {below : List Frame} {meth : Method} {c : Code} {A : Nat → Prop} {Q : State → Prop} {D : va_G} {ca : Nat → ClassId} {a : Nat → Nat} {u : fw_S} {r : Int32}  (C : CX (WX ca a) D (tyv ca) p s m args c A prog_7_method_8_code 2 RX5) (hr : True → RX (WX ca a) D p l e rm_X_X5_fail__1 s m args below meth c A prog_7_method_8_code Q .ireturn [.int r] u) {t : fw_S}  {H : Heap} {locs : List Loc} {ls : Array Slot} (hf : b_X_X5_fail__1_12  t  = some (r, u)) (hP : va_P D classes (WX ca a t) H) (hS : va_S A s.heap H locs) (hl : lv_has ls 2 []) : W p l e rm_X_X5_fail__1 s m args below meth c H locs 0 0 Q (F0 m 12 ls []) := by
  obtain ⟨hx, hb, hml, hown, hts, hN, hK, hD, hA⟩ := id C
  have hf : (some ((0 : Int32), t)) = some (r, u) := hf
  refine lv_iconst (v := 0) hx hb dX5_fail_12 (by decide) ?_
  obtain ⟨e_13, e2_13⟩ := fb_e hf
  subst e_13; subst e2_13
  exact hr trivial _ _ _ _ hP hS dX5_fail_13
set_option maxRecDepth 20000 in
theorem w_X_X5_fail__1_7 {p : Program} {l : Launch} {e : Env} {s : State} {m : MethodId} {args : Array Value} {below : List Frame} {meth : Method} {c : Code} {A : Nat → Prop} {Q : State → Prop} {D : va_G} {ca : Nat → ClassId} {a : Nat → Nat} {u : fw_S} {r : Int32}  (C : CX (WX ca a) D (tyv ca) p s m args c A prog_7_method_8_code 2 RX5) (hr : True → RX (WX ca a) D p l e rm_X_X5_fail__1 s m args below meth c A prog_7_method_8_code Q .ireturn [.int r] u) {t : fw_S} {x1 : Int32} {H : Heap} {locs : List Loc} {ls : Array Slot} (hf : b_X_X5_fail__1_7  t x1 = some (r, u)) (hP : va_P D classes (WX ca a t) H) (hS : va_S A s.heap H locs) (hl : lv_has ls 2 [(0, .ref (a 1)), (1, .int x1)]) : W p l e rm_X_X5_fail__1 s m args below meth c H locs 0 0 Q (F0 m 7 ls []) := by
  obtain ⟨hx, hb, hml, hown, hts, hN, hK, hD, hA⟩ := id C
  have hf : (fb_l (up_I t 4 x1) fun t_1 => (b_X_X5_fail__1_12 t_1)) = some (r, u) := hf
  refine lv_aload_n hx hb dX5_fail_7 rfl (lv_at hl 0 rfl) ?_
  refine lv_iload_n hx hb dX5_fail_8 rfl (lv_at hl 1 rfl) ?_
  refine va_put (D := D) (ci := 5) (v := .int x1) (ty := .int) (C := RX5) (T := TX5) (N := 10) hx hb hts inX5 tyX5 tyX5_ok nmX5 hown hK hP (hD t) hS 1 (heX_1 ca a t) rfl 8 (by decide) (hts _ kw_130) (fun _ h9 => h9) rfl (by decide +kernel) rfl rfl (Nat.le_of_ble_eq_true rfl) dX5_fail_9 (fun H locs hP _ hS => ?_)
  rw [suX_1_8] at hP
  obtain ⟨t_1, e_9, hf⟩ := fb_ls hf
  rw [← e_9] at hP
  exact w_X_X5_fail__1_12 C hr hf hP hS (lv_sub hl [] rfl)
set_option maxRecDepth 20000 in
theorem w_X_X5_fail__1_0 {p : Program} {l : Launch} {e : Env} {s : State} {m : MethodId} {args : Array Value} {below : List Frame} {meth : Method} {c : Code} {A : Nat → Prop} {Q : State → Prop} {D : va_G} {ca : Nat → ClassId} {a : Nat → Nat} {u : fw_S} {r : Int32}  (C : CX (WX ca a) D (tyv ca) p s m args c A prog_7_method_8_code 2 RX5) (hr : True → RX (WX ca a) D p l e rm_X_X5_fail__1 s m args below meth c A prog_7_method_8_code Q .ireturn [.int r] u) {t : fw_S} {x1 : Int32} {H : Heap} {locs : List Loc} {ls : Array Slot} (hf : b_X_X5_fail__1_0  t x1 = some (r, u)) (hP : va_P D classes (WX ca a t) H) (hS : va_S A s.heap H locs) (hl : lv_has ls 2 [(0, .ref (a 1)), (1, .int x1)]) : W p l e rm_X_X5_fail__1 s m args below meth c H locs 0 0 Q (F0 m 0 ls []) := by
  obtain ⟨hx, hb, hml, hown, hts, hN, hK, hD, hA⟩ := id C
  have hf : (if 0 ≤ (st_I t 4) then b_X_X5_fail__1_12 t else b_X_X5_fail__1_7 t x1) = some (r, u) := hf
  refine lv_aload_n hx hb dX5_fail_0 rfl (lv_at hl 0 rfl) ?_
  refine va_get (D := D) (ci := 5) (v := .int (st_I t 4)) (C := RX5) (T := TX5) (N := 10) hx hb hts inX5 hown hK hP 1 (heX_1 ca a t) rfl 8 (by decide) (hts _ kw_130) (fun _ h9 => h9) rfl dX5_fail_1 ?_
  refine lv_if_ge (tgt := 12) hx hb dX5_fail_4 (by decide) (fun h_4 => ?_) (fun h_4 => ?_)
  · have hf := fb_t h_4 hf
    exact w_X_X5_fail__1_12 C hr hf hP hS (lv_sub hl [] rfl)
  · have hf := fb_f h_4 hf
    exact w_X_X5_fail__1_7 C hr hf hP hS (lv_sub hl [0, 1] rfl)
set_option maxRecDepth 20000 in
theorem c_X_X5_fail__1 {l : Launch} {D : va_G} {ca : Nat → ClassId} {a : Nat → Nat} {t : fw_S} {x1 : Int32} {u : fw_S} {r : Int32} (hf : f_X_X5_fail__1 t x1 = some (r, u)) : MC (WX ca a) D (tyv ca) l yX5_fail (.code yX5_fail prog_7_method_8_code 2 (some .int) :: lw_gd) rm_X_X5_fail__1 [.ref (a 1), .int x1] (some (.int r)) t u := by
  refine fw_met (okX ca a) (by decide +kernel) rfl rfl (Nat.le_of_ble_eq_true rfl) ?_
  intro p e s m args below meth c A Q ls C hr hk hP hS hl hQ
  exact w_X_X5_fail__1_0 C (fun _ => fw_ri C hr hk hQ) hf hP hS (lv_sub hl [0, 1] rfl)
/-! ReactiveSheet.Parser.number(I)I ['x.parser'] -/
abbrev rm_X_X5_number__1 : Room := { frames := 1, cells := 0, slots := 0, locals := 21 }
def b_X_X5_number__1_67  (t : fw_S) (x2 : Int32) : Option (Int32 × fw_S) := some (x2, t)
def b_X_X5_number__1_38 (k23 : fw_S → Int32 → Int32 → Int32 → Option (Int32 × fw_S)) (t : fw_S) (x1 : Int32) (x2 : Int32) (x3 : Int32) : Option (Int32 × fw_S) := fb_b (f_X_X5_here__1 t) fun v_2 t_1 => (fb_l (up_I t_1 3 ((st_I t_1 3) + ((1 : Int32)))) fun t_3 => (k23 t_3 x1 (((x2 * ((10 : Int32))) + v_2) - ((48 : Int32))) (x3 + 1)))
def b_X_X5_number__1_28 (k23 : fw_S → Int32 → Int32 → Int32 → Option (Int32 × fw_S)) (t : fw_S) (x1 : Int32) (x2 : Int32) (x3 : Int32) : Option (Int32 × fw_S) := fb_b (f_X_X5_here__1 t) fun v_2 t_1 => (fb_b (f_X_X5_isFigure t_1 v_2) fun v_4 t_3 => (if v_4 = 0 then b_X_X5_number__1_67 t_3 x2 else b_X_X5_number__1_38 k23 t_3 x1 x2 x3))
def b_X_X5_number__1_23  : Nat → (fw_S → Int32 → Int32 → Int32 → Option (Int32 × fw_S))
  | 0 => fun _ _ _ _ => none
  | n + 1 => fun t x1 x2 x3 => if x1 ≤ x3 then b_X_X5_number__1_67 t x2 else b_X_X5_number__1_28 (b_X_X5_number__1_23 n) t x1 x2 x3
def b_X_X5_number__1_19  (t : fw_S) (x1 : Int32) : Option (Int32 × fw_S) := b_X_X5_number__1_23 3000 t x1 ((0 : Int32)) ((0 : Int32))
def b_X_X5_number__1_10  (t : fw_S)  : Option (Int32 × fw_S) := fb_b (f_X_X5_fail__1 t (st_I t 3)) fun v_2 t_1 => (some (v_2, t_1))
def b_X_X5_number__1_0  (t : fw_S) (x1 : Int32) : Option (Int32 × fw_S) := fb_b (f_X_X5_here__1 t) fun v_2 t_1 => (fb_b (f_X_X5_isFigure t_1 v_2) fun v_4 t_3 => (if v_4 = 0 then b_X_X5_number__1_10 t_3 else b_X_X5_number__1_19 t_3 x1))
def f_X_X5_number__1 (t : fw_S) (x1 : Int32) : Option (Int32 × fw_S) := b_X_X5_number__1_0 t x1
set_option maxRecDepth 20000 in
theorem w_X_X5_number__1_67 {p : Program} {l : Launch} {e : Env} {s : State} {m : MethodId} {args : Array Value} {below : List Frame} {meth : Method} {c : Code} {A : Nat → Prop} {Q : State → Prop} {D : va_G} {ca : Nat → ClassId} {a : Nat → Nat} {u : fw_S} {r : Int32}  (C : CX (WX ca a) D (tyv ca) p s m args c A prog_7_method_23_code 4 RX5) (hr : True → RX (WX ca a) D p l e rm_X_X5_number__1 s m args below meth c A prog_7_method_23_code Q .ireturn [.int r] u) {t : fw_S} {x2 : Int32} {H : Heap} {locs : List Loc} {ls : Array Slot} (hf : b_X_X5_number__1_67  t x2 = some (r, u)) (hP : va_P D classes (WX ca a t) H) (hS : va_S A s.heap H locs) (hl : lv_has ls 4 [(2, .int x2)]) : W p l e rm_X_X5_number__1 s m args below meth c H locs 0 0 Q (F0 m 67 ls []) := by
  obtain ⟨hx, hb, hml, hown, hts, hN, hK, hD, hA⟩ := id C
  have hf : (some (x2, t)) = some (r, u) := hf
  refine lv_iload_n hx hb dX5_number_67 rfl (lv_at hl 0 rfl) ?_
  obtain ⟨e_68, e2_68⟩ := fb_e hf
  subst e_68; subst e2_68
  exact hr trivial _ _ _ _ hP hS dX5_number_68
set_option maxRecDepth 20000 in
theorem w_X_X5_number__1_38 {p : Program} {l : Launch} {e : Env} {s : State} {m : MethodId} {args : Array Value} {below : List Frame} {meth : Method} {c : Code} {A : Nat → Prop} {Q : State → Prop} {D : va_G} {ca : Nat → ClassId} {a : Nat → Nat} {u : fw_S} {r : Int32} {k23 : fw_S → Int32 → Int32 → Int32 → Option (Int32 × fw_S)} (C : CX (WX ca a) D (tyv ca) p s m args c A prog_7_method_23_code 4 RX5) (hr : True → RX (WX ca a) D p l e rm_X_X5_number__1 s m args below meth c A prog_7_method_23_code Q .ireturn [.int r] u) (hk23 : ∀ (t : fw_S) (x1 : Int32) (x2 : Int32) (x3 : Int32) (H : Heap) (locs : List Loc) (ls : Array Slot), k23 t x1 x2 x3 = some (r, u) → va_P D classes (WX ca a t) H → va_S A s.heap H locs → lv_has ls 4 [(0, .ref (a 1)), (1, .int x1), (2, .int x2), (3, .int x3)] → W p l e rm_X_X5_number__1 s m args below meth c H locs 0 0 Q (F0 m 23 ls [])) {t : fw_S} {x1 : Int32} {x2 : Int32} {x3 : Int32} {H : Heap} {locs : List Loc} {ls : Array Slot} (hf : b_X_X5_number__1_38 k23 t x1 x2 x3 = some (r, u)) (hP : va_P D classes (WX ca a t) H) (hS : va_S A s.heap H locs) (hl : lv_has ls 4 [(0, .ref (a 1)), (1, .int x1), (2, .int x2), (3, .int x3)]) : W p l e rm_X_X5_number__1 s m args below meth c H locs 0 0 Q (F0 m 38 ls []) := by
  obtain ⟨hx, hb, hml, hown, hts, hN, hK, hD, hA⟩ := id C
  have hf : (fb_b (f_X_X5_here__1 t) fun v_2 t_1 => (fb_l (up_I t_1 3 ((st_I t_1 3) + ((1 : Int32)))) fun t_3 => (k23 t_3 x1 (((x2 * ((10 : Int32))) + v_2) - ((48 : Int32))) (x3 + 1)))) = some (r, u) := hf
  refine lv_iload_n hx hb dX5_number_38 rfl (lv_at hl 2 rfl) ?_
  refine lv_bipush (v := 10) hx hb dX5_number_39 (by decide) ?_
  refine lv_imul hx hb dX5_number_41 ?_
  refine lv_aload_n hx hb dX5_number_42 rfl (lv_at hl 0 rfl) ?_
  obtain ⟨v_2, t_1, g_43, hf⟩ := fb_bs hf
  refine fw_V1 (As := []) (rest := [.int (x2 * ((10 : Int32)))]) (n := 0) (q0 := 1) C (c_X_X5_here__1 (l := l) (D := D) (ca := ca) (a := a) g_43) kw_701 kw_703 kw_93 kw_704 kw_23 hP hS hl (heX_1 ca a t) rfl rfl rfl (by decide) (by decide +kernel) ⟨Nat.le_of_ble_eq_true rfl, Nat.le_of_ble_eq_true rfl⟩ rfl rfl (Nat.le_of_ble_eq_true rfl) dX5_number_43 (fun H locs hP hS => ?_)
  refine W.eq (g2 := F0 m 46 ls [.int v_2, .int (x2 * ((10 : Int32)))]) rfl ?_
  refine lv_iadd hx hb dX5_number_46 ?_
  refine lv_bipush (v := 48) hx hb dX5_number_47 (by decide) ?_
  refine lv_isub hx hb dX5_number_49 ?_
  refine lv_istore_n (lv' := [(2, .int (((x2 * ((10 : Int32))) + v_2) - ((48 : Int32)))), (0, .ref (a 1)), (1, .int x1), (3, .int x3)]) hx hb dX5_number_50 rfl hl (by decide) rfl (fun ls hl => ?_)
  refine lv_aload_n hx hb dX5_number_51 rfl (lv_at hl 1 rfl) ?_
  refine lv_dup hx hb dX5_number_52 rfl ?_
  refine va_get (D := D) (ci := 5) (v := .int (st_I t_1 3)) (C := RX5) (T := TX5) (N := 10) hx hb hts inX5 hown hK hP 1 (heX_1 ca a t_1) rfl 7 (by decide) (hts _ kw_129) (fun _ h9 => h9) rfl dX5_number_53 ?_
  refine lv_iconst (v := 1) hx hb dX5_number_56 (by decide) ?_
  refine lv_iadd hx hb dX5_number_57 ?_
  refine va_put (D := D) (ci := 5) (v := .int ((st_I t_1 3) + ((1 : Int32)))) (ty := .int) (C := RX5) (T := TX5) (N := 10) hx hb hts inX5 tyX5 tyX5_ok nmX5 hown hK hP (hD t_1) hS 1 (heX_1 ca a t_1) rfl 7 (by decide) (hts _ kw_129) (fun _ h9 => h9) rfl (by decide +kernel) rfl rfl (Nat.le_of_ble_eq_true rfl) dX5_number_58 (fun H locs hP _ hS => ?_)
  rw [suX_1_7] at hP
  obtain ⟨t_3, e_58, hf⟩ := fb_ls hf
  rw [← e_58] at hP
  refine lv_iinc (v := x3 + 1) (lv' := [(3, .int (x3 + 1)), (2, .int (((x2 * ((10 : Int32))) + v_2) - ((48 : Int32)))), (0, .ref (a 1)), (1, .int x1)]) hx hb dX5_number_61 hl (k := 3) rfl rfl (by decide) rfl (fun ls hl => ?_)
  refine lv_goto (tgt := 23) hx hb dX5_number_64 (by decide) ?_
  exact hk23 t_3 x1 (((x2 * ((10 : Int32))) + v_2) - ((48 : Int32))) (x3 + 1) _ _ _ hf hP hS (lv_sub hl [2, 3, 1, 0] rfl)
set_option maxRecDepth 20000 in
theorem w_X_X5_number__1_28 {p : Program} {l : Launch} {e : Env} {s : State} {m : MethodId} {args : Array Value} {below : List Frame} {meth : Method} {c : Code} {A : Nat → Prop} {Q : State → Prop} {D : va_G} {ca : Nat → ClassId} {a : Nat → Nat} {u : fw_S} {r : Int32} {k23 : fw_S → Int32 → Int32 → Int32 → Option (Int32 × fw_S)} (C : CX (WX ca a) D (tyv ca) p s m args c A prog_7_method_23_code 4 RX5) (hr : True → RX (WX ca a) D p l e rm_X_X5_number__1 s m args below meth c A prog_7_method_23_code Q .ireturn [.int r] u) (hk23 : ∀ (t : fw_S) (x1 : Int32) (x2 : Int32) (x3 : Int32) (H : Heap) (locs : List Loc) (ls : Array Slot), k23 t x1 x2 x3 = some (r, u) → va_P D classes (WX ca a t) H → va_S A s.heap H locs → lv_has ls 4 [(0, .ref (a 1)), (1, .int x1), (2, .int x2), (3, .int x3)] → W p l e rm_X_X5_number__1 s m args below meth c H locs 0 0 Q (F0 m 23 ls [])) {t : fw_S} {x1 : Int32} {x2 : Int32} {x3 : Int32} {H : Heap} {locs : List Loc} {ls : Array Slot} (hf : b_X_X5_number__1_28 k23 t x1 x2 x3 = some (r, u)) (hP : va_P D classes (WX ca a t) H) (hS : va_S A s.heap H locs) (hl : lv_has ls 4 [(0, .ref (a 1)), (1, .int x1), (2, .int x2), (3, .int x3)]) : W p l e rm_X_X5_number__1 s m args below meth c H locs 0 0 Q (F0 m 28 ls []) := by
  obtain ⟨hx, hb, hml, hown, hts, hN, hK, hD, hA⟩ := id C
  have hf : (fb_b (f_X_X5_here__1 t) fun v_2 t_1 => (fb_b (f_X_X5_isFigure t_1 v_2) fun v_4 t_3 => (if v_4 = 0 then b_X_X5_number__1_67 t_3 x2 else b_X_X5_number__1_38 k23 t_3 x1 x2 x3))) = some (r, u) := hf
  refine lv_aload_n hx hb dX5_number_28 rfl (lv_at hl 0 rfl) ?_
  obtain ⟨v_2, t_1, g_29, hf⟩ := fb_bs hf
  refine fw_V1 (As := []) (rest := []) (n := 0) (q0 := 1) C (c_X_X5_here__1 (l := l) (D := D) (ca := ca) (a := a) g_29) kw_701 kw_703 kw_93 kw_704 kw_23 hP hS hl (heX_1 ca a t) rfl rfl rfl (by decide) (by decide +kernel) ⟨Nat.le_of_ble_eq_true rfl, Nat.le_of_ble_eq_true rfl⟩ rfl rfl (Nat.le_of_ble_eq_true rfl) dX5_number_29 (fun H locs hP hS => ?_)
  refine W.eq (g2 := F0 m 32 ls [.int v_2]) rfl ?_
  obtain ⟨v_4, t_3, g_32, hf⟩ := fb_bs hf
  refine fw_S1 (As := [.int v_2]) (rest := []) (n := 1) C (c_X_X5_isFigure (l := l) (D := D) (ca := ca) (a := a) g_32) kw_705 kw_706 kw_93 kw_707 hP hS hl rfl rfl (by decide) (by decide +kernel) ⟨Nat.le_of_ble_eq_true rfl, Nat.le_of_ble_eq_true rfl⟩ rfl rfl (Nat.le_of_ble_eq_true rfl) dX5_number_32 (fun H locs hP hS => ?_)
  refine W.eq (g2 := F0 m 35 ls [.int v_4]) rfl ?_
  refine lv_if_eq (tgt := 67) hx hb dX5_number_35 (by decide) (fun h_35 => ?_) (fun h_35 => ?_)
  · have hf := fb_t h_35 hf
    exact w_X_X5_number__1_67 C hr hf hP hS (lv_sub hl [2] rfl)
  · have hf := fb_f h_35 hf
    exact w_X_X5_number__1_38 C hr hk23 hf hP hS (lv_sub hl [0, 1, 2, 3] rfl)
set_option maxRecDepth 20000 in
theorem w_X_X5_number__1_23 {p : Program} {l : Launch} {e : Env} {s : State} {m : MethodId} {args : Array Value} {below : List Frame} {meth : Method} {c : Code} {A : Nat → Prop} {Q : State → Prop} {D : va_G} {ca : Nat → ClassId} {a : Nat → Nat} {u : fw_S} {r : Int32}  (C : CX (WX ca a) D (tyv ca) p s m args c A prog_7_method_23_code 4 RX5) (hr : True → RX (WX ca a) D p l e rm_X_X5_number__1 s m args below meth c A prog_7_method_23_code Q .ireturn [.int r] u) : ∀ (n : Nat) (t : fw_S) (x1 : Int32) (x2 : Int32) (x3 : Int32) (H : Heap) (locs : List Loc) (ls : Array Slot), b_X_X5_number__1_23  n t x1 x2 x3 = some (r, u) → va_P D classes (WX ca a t) H → va_S A s.heap H locs → lv_has ls 4 [(0, .ref (a 1)), (1, .int x1), (2, .int x2), (3, .int x3)] → W p l e rm_X_X5_number__1 s m args below meth c H locs 0 0 Q (F0 m 23 ls []) := by
  obtain ⟨hx, hb, hml, hown, hts, hN, hK, hD, hA⟩ := id C
  intro n
  induction n with
  | zero => intro t x1 x2 x3 H locs ls hf; cases hf
  | succ n hk23 =>
    intro t x1 x2 x3 H locs ls hf hP hS hl
    have hf : (if x1 ≤ x3 then b_X_X5_number__1_67 t x2 else b_X_X5_number__1_28 (b_X_X5_number__1_23 n) t x1 x2 x3) = some (r, u) := hf
    refine lv_iload_n hx hb dX5_number_23 rfl (lv_at hl 3 rfl) ?_
    refine lv_iload_n hx hb dX5_number_24 rfl (lv_at hl 1 rfl) ?_
    refine lv_icmp_ge (tgt := 67) hx hb dX5_number_25 (by decide) (fun h_25 => ?_) (fun h_25 => ?_)
    · have hf := fb_t h_25 hf
      exact w_X_X5_number__1_67 C hr hf hP hS (lv_sub hl [2] rfl)
    · have hf := fb_f h_25 hf
      exact w_X_X5_number__1_28 C hr hk23 hf hP hS (lv_sub hl [0, 1, 2, 3] rfl)
set_option maxRecDepth 20000 in
theorem w_X_X5_number__1_19 {p : Program} {l : Launch} {e : Env} {s : State} {m : MethodId} {args : Array Value} {below : List Frame} {meth : Method} {c : Code} {A : Nat → Prop} {Q : State → Prop} {D : va_G} {ca : Nat → ClassId} {a : Nat → Nat} {u : fw_S} {r : Int32}  (C : CX (WX ca a) D (tyv ca) p s m args c A prog_7_method_23_code 4 RX5) (hr : True → RX (WX ca a) D p l e rm_X_X5_number__1 s m args below meth c A prog_7_method_23_code Q .ireturn [.int r] u) {t : fw_S} {x1 : Int32} {H : Heap} {locs : List Loc} {ls : Array Slot} (hf : b_X_X5_number__1_19  t x1 = some (r, u)) (hP : va_P D classes (WX ca a t) H) (hS : va_S A s.heap H locs) (hl : lv_has ls 4 [(0, .ref (a 1)), (1, .int x1)]) : W p l e rm_X_X5_number__1 s m args below meth c H locs 0 0 Q (F0 m 19 ls []) := by
  obtain ⟨hx, hb, hml, hown, hts, hN, hK, hD, hA⟩ := id C
  have hf : (b_X_X5_number__1_23 3000 t x1 ((0 : Int32)) ((0 : Int32))) = some (r, u) := hf
  refine lv_iconst (v := 0) hx hb dX5_number_19 (by decide) ?_
  refine lv_istore_n (lv' := [(2, .int ((0 : Int32))), (0, .ref (a 1)), (1, .int x1)]) hx hb dX5_number_20 rfl hl (by decide) rfl (fun ls hl => ?_)
  refine lv_iconst (v := 0) hx hb dX5_number_21 (by decide) ?_
  refine lv_istore_n (lv' := [(3, .int ((0 : Int32))), (2, .int ((0 : Int32))), (0, .ref (a 1)), (1, .int x1)]) hx hb dX5_number_22 rfl hl (by decide) rfl (fun ls hl => ?_)
  exact w_X_X5_number__1_23 C hr 3000 t x1 ((0 : Int32)) ((0 : Int32)) _ _ _ hf hP hS (lv_sub hl [2, 3, 1, 0] rfl)
set_option maxRecDepth 20000 in
theorem w_X_X5_number__1_10 {p : Program} {l : Launch} {e : Env} {s : State} {m : MethodId} {args : Array Value} {below : List Frame} {meth : Method} {c : Code} {A : Nat → Prop} {Q : State → Prop} {D : va_G} {ca : Nat → ClassId} {a : Nat → Nat} {u : fw_S} {r : Int32}  (C : CX (WX ca a) D (tyv ca) p s m args c A prog_7_method_23_code 4 RX5) (hr : True → RX (WX ca a) D p l e rm_X_X5_number__1 s m args below meth c A prog_7_method_23_code Q .ireturn [.int r] u) {t : fw_S}  {H : Heap} {locs : List Loc} {ls : Array Slot} (hf : b_X_X5_number__1_10  t  = some (r, u)) (hP : va_P D classes (WX ca a t) H) (hS : va_S A s.heap H locs) (hl : lv_has ls 4 [(0, .ref (a 1))]) : W p l e rm_X_X5_number__1 s m args below meth c H locs 0 0 Q (F0 m 10 ls []) := by
  obtain ⟨hx, hb, hml, hown, hts, hN, hK, hD, hA⟩ := id C
  have hf : (fb_b (f_X_X5_fail__1 t (st_I t 3)) fun v_2 t_1 => (some (v_2, t_1))) = some (r, u) := hf
  refine lv_aload_n hx hb dX5_number_10 rfl (lv_at hl 0 rfl) ?_
  refine lv_aload_n hx hb dX5_number_11 rfl (lv_at hl 0 rfl) ?_
  refine va_get (D := D) (ci := 5) (v := .int (st_I t 3)) (C := RX5) (T := TX5) (N := 10) hx hb hts inX5 hown hK hP 1 (heX_1 ca a t) rfl 7 (by decide) (hts _ kw_129) (fun _ h9 => h9) rfl dX5_number_12 ?_
  obtain ⟨v_2, t_1, g_15, hf⟩ := fb_bs hf
  refine fw_V1 (As := [.int (st_I t 3)]) (rest := []) (n := 1) (q0 := 1) C (c_X_X5_fail__1 (l := l) (D := D) (ca := ca) (a := a) g_15) kw_712 kw_714 kw_93 kw_715 kw_25 hP hS hl (heX_1 ca a t) rfl rfl rfl (by decide) (by decide +kernel) ⟨Nat.le_of_ble_eq_true rfl, Nat.le_of_ble_eq_true rfl⟩ rfl rfl (Nat.le_of_ble_eq_true rfl) dX5_number_15 (fun H locs hP hS => ?_)
  refine W.eq (g2 := F0 m 18 ls [.int v_2]) rfl ?_
  obtain ⟨e_18, e2_18⟩ := fb_e hf
  subst e_18; subst e2_18
  exact hr trivial _ _ _ _ hP hS dX5_number_18
set_option maxRecDepth 20000 in
theorem w_X_X5_number__1_0 {p : Program} {l : Launch} {e : Env} {s : State} {m : MethodId} {args : Array Value} {below : List Frame} {meth : Method} {c : Code} {A : Nat → Prop} {Q : State → Prop} {D : va_G} {ca : Nat → ClassId} {a : Nat → Nat} {u : fw_S} {r : Int32}  (C : CX (WX ca a) D (tyv ca) p s m args c A prog_7_method_23_code 4 RX5) (hr : True → RX (WX ca a) D p l e rm_X_X5_number__1 s m args below meth c A prog_7_method_23_code Q .ireturn [.int r] u) {t : fw_S} {x1 : Int32} {H : Heap} {locs : List Loc} {ls : Array Slot} (hf : b_X_X5_number__1_0  t x1 = some (r, u)) (hP : va_P D classes (WX ca a t) H) (hS : va_S A s.heap H locs) (hl : lv_has ls 4 [(0, .ref (a 1)), (1, .int x1)]) : W p l e rm_X_X5_number__1 s m args below meth c H locs 0 0 Q (F0 m 0 ls []) := by
  obtain ⟨hx, hb, hml, hown, hts, hN, hK, hD, hA⟩ := id C
  have hf : (fb_b (f_X_X5_here__1 t) fun v_2 t_1 => (fb_b (f_X_X5_isFigure t_1 v_2) fun v_4 t_3 => (if v_4 = 0 then b_X_X5_number__1_10 t_3 else b_X_X5_number__1_19 t_3 x1))) = some (r, u) := hf
  refine lv_aload_n hx hb dX5_number_0 rfl (lv_at hl 0 rfl) ?_
  obtain ⟨v_2, t_1, g_1, hf⟩ := fb_bs hf
  refine fw_V1 (As := []) (rest := []) (n := 0) (q0 := 1) C (c_X_X5_here__1 (l := l) (D := D) (ca := ca) (a := a) g_1) kw_701 kw_703 kw_93 kw_704 kw_23 hP hS hl (heX_1 ca a t) rfl rfl rfl (by decide) (by decide +kernel) ⟨Nat.le_of_ble_eq_true rfl, Nat.le_of_ble_eq_true rfl⟩ rfl rfl (Nat.le_of_ble_eq_true rfl) dX5_number_1 (fun H locs hP hS => ?_)
  refine W.eq (g2 := F0 m 4 ls [.int v_2]) rfl ?_
  obtain ⟨v_4, t_3, g_4, hf⟩ := fb_bs hf
  refine fw_S1 (As := [.int v_2]) (rest := []) (n := 1) C (c_X_X5_isFigure (l := l) (D := D) (ca := ca) (a := a) g_4) kw_705 kw_706 kw_93 kw_707 hP hS hl rfl rfl (by decide) (by decide +kernel) ⟨Nat.le_of_ble_eq_true rfl, Nat.le_of_ble_eq_true rfl⟩ rfl rfl (Nat.le_of_ble_eq_true rfl) dX5_number_4 (fun H locs hP hS => ?_)
  refine W.eq (g2 := F0 m 7 ls [.int v_4]) rfl ?_
  refine lv_if_ne (tgt := 19) hx hb dX5_number_7 (by decide) (fun h_7 => ?_) (fun h_7 => ?_)
  · have hf := fb_f h_7 hf
    exact w_X_X5_number__1_19 C hr hf hP hS (lv_sub hl [0, 1] rfl)
  · have hf := fb_t h_7 hf
    exact w_X_X5_number__1_10 C hr hf hP hS (lv_sub hl [0] rfl)
set_option maxRecDepth 20000 in
theorem c_X_X5_number__1 {l : Launch} {D : va_G} {ca : Nat → ClassId} {a : Nat → Nat} {t : fw_S} {x1 : Int32} {u : fw_S} {r : Int32} (hf : f_X_X5_number__1 t x1 = some (r, u)) : MC (WX ca a) D (tyv ca) l yX5_number (.code yX5_number prog_7_method_23_code 4 (some .int) :: lw_gd) rm_X_X5_number__1 [.ref (a 1), .int x1] (some (.int r)) t u := by
  refine fw_met (okX ca a) (by decide +kernel) rfl rfl (Nat.le_of_ble_eq_true rfl) ?_
  intro p e s m args below meth c A Q ls C hr hk hP hS hl hQ
  exact w_X_X5_number__1_0 C (fun _ => fw_ri C hr hk hQ) hf hP hS (lv_sub hl [0, 1] rfl)
/-! ReactiveSheet.Parser.node(IIII)I ['x.parser'] -/
abbrev rm_X_X5_node__1 : Room := { frames := 1, cells := 0, slots := 0, locals := 21 }
def b_X_X5_node__1_19  (t : fw_S) (x1 : Int32) (x2 : Int32) (x3 : Int32) (x4 : Int32) : Option (Int32 × fw_S) := fb_g (¬ ((st_I t 5) < 0 ∨ 160 ≤ (st_I t 5).toNatClampNeg)) (fb_l (up_F t 1 (upd (st_F t 1) (st_I t 5).toNatClampNeg x1)) fun t_1 => (fb_g (¬ ((st_I t_1 5) < 0 ∨ 160 ≤ (st_I t_1 5).toNatClampNeg)) (fb_l (up_F t_1 2 (upd (st_F t_1 2) (st_I t_1 5).toNatClampNeg x2)) fun t_2 => (fb_g (¬ ((st_I t_2 5) < 0 ∨ 160 ≤ (st_I t_2 5).toNatClampNeg)) (fb_l (up_F t_2 3 (upd (st_F t_2 3) (st_I t_2 5).toNatClampNeg x3)) fun t_3 => (fb_g (¬ ((st_I t_3 5) < 0 ∨ 160 ≤ (st_I t_3 5).toNatClampNeg)) (fb_l (up_F t_3 4 (upd (st_F t_3 4) (st_I t_3 5).toNatClampNeg x4)) fun t_4 => (fb_g (¬ ((st_I t_4 5) < 0 ∨ 160 ≤ (st_I t_4 5).toNatClampNeg)) (fb_l (up_F t_4 5 (upd (st_F t_4 5) (st_I t_4 5).toNatClampNeg ((-1 : Int32)))) fun t_5 => (fb_l (up_I t_5 5 ((st_I t_5 5) + ((1 : Int32)))) fun t_6 => (some ((st_I t_6 5) - ((1 : Int32)), t_6))))))))))))
def b_X_X5_node__1_10  (t : fw_S)  : Option (Int32 × fw_S) := fb_b (f_X_X5_fail__1 t (st_I t 3)) fun v_2 t_1 => (some (v_2, t_1))
def b_X_X5_node__1_0  (t : fw_S) (x1 : Int32) (x2 : Int32) (x3 : Int32) (x4 : Int32) : Option (Int32 × fw_S) := if (st_I t 5) < ((160 : Int32)) then b_X_X5_node__1_19 t x1 x2 x3 x4 else b_X_X5_node__1_10 t
def f_X_X5_node__1 (t : fw_S) (x1 : Int32) (x2 : Int32) (x3 : Int32) (x4 : Int32) : Option (Int32 × fw_S) := b_X_X5_node__1_0 t x1 x2 x3 x4
set_option maxRecDepth 20000 in
theorem w_X_X5_node__1_19 {p : Program} {l : Launch} {e : Env} {s : State} {m : MethodId} {args : Array Value} {below : List Frame} {meth : Method} {c : Code} {A : Nat → Prop} {Q : State → Prop} {D : va_G} {ca : Nat → ClassId} {a : Nat → Nat} {u : fw_S} {r : Int32}  (C : CX (WX ca a) D (tyv ca) p s m args c A prog_7_method_11_code 5 RX5) (hr : True → RX (WX ca a) D p l e rm_X_X5_node__1 s m args below meth c A prog_7_method_11_code Q .ireturn [.int r] u) {t : fw_S} {x1 : Int32} {x2 : Int32} {x3 : Int32} {x4 : Int32} {H : Heap} {locs : List Loc} {ls : Array Slot} (hf : b_X_X5_node__1_19  t x1 x2 x3 x4 = some (r, u)) (hP : va_P D classes (WX ca a t) H) (hS : va_S A s.heap H locs) (hl : lv_has ls 5 [(0, .ref (a 1)), (1, .int x1), (2, .int x2), (3, .int x3), (4, .int x4)]) : W p l e rm_X_X5_node__1 s m args below meth c H locs 0 0 Q (F0 m 19 ls []) := by
  obtain ⟨hx, hb, hml, hown, hts, hN, hK, hD, hA⟩ := id C
  have hf : (fb_g (¬ ((st_I t 5) < 0 ∨ 160 ≤ (st_I t 5).toNatClampNeg)) (fb_l (up_F t 1 (upd (st_F t 1) (st_I t 5).toNatClampNeg x1)) fun t_1 => (fb_g (¬ ((st_I t_1 5) < 0 ∨ 160 ≤ (st_I t_1 5).toNatClampNeg)) (fb_l (up_F t_1 2 (upd (st_F t_1 2) (st_I t_1 5).toNatClampNeg x2)) fun t_2 => (fb_g (¬ ((st_I t_2 5) < 0 ∨ 160 ≤ (st_I t_2 5).toNatClampNeg)) (fb_l (up_F t_2 3 (upd (st_F t_2 3) (st_I t_2 5).toNatClampNeg x3)) fun t_3 => (fb_g (¬ ((st_I t_3 5) < 0 ∨ 160 ≤ (st_I t_3 5).toNatClampNeg)) (fb_l (up_F t_3 4 (upd (st_F t_3 4) (st_I t_3 5).toNatClampNeg x4)) fun t_4 => (fb_g (¬ ((st_I t_4 5) < 0 ∨ 160 ≤ (st_I t_4 5).toNatClampNeg)) (fb_l (up_F t_4 5 (upd (st_F t_4 5) (st_I t_4 5).toNatClampNeg ((-1 : Int32)))) fun t_5 => (fb_l (up_I t_5 5 ((st_I t_5 5) + ((1 : Int32)))) fun t_6 => (some ((st_I t_6 5) - ((1 : Int32)), t_6))))))))))))) = some (r, u) := hf
  refine lv_aload_n hx hb dX5_node_19 rfl (lv_at hl 0 rfl) ?_
  refine va_get (D := D) (ci := 5) (v := .ref (a 15)) (C := RX5) (T := TX5) (N := 10) hx hb hts inX5 hown hK hP 1 (heX_1 ca a t) rfl 1 (by decide) (hts _ kw_123) (fun _ h9 => h9) rfl dX5_node_20 ?_
  refine lv_aload_n hx hb dX5_node_23 rfl (lv_at hl 0 rfl) ?_
  refine va_get (D := D) (ci := 5) (v := .int (st_I t 5)) (C := RX5) (T := TX5) (N := 10) hx hb hts inX5 hown hK hP 1 (heX_1 ca a t) rfl 9 (by decide) (hts _ kw_131) (fun _ h9 => h9) rfl dX5_node_24 ?_
  refine lv_iload_n hx hb dX5_node_27 rfl (lv_at hl 1 rfl) ?_
  obtain ⟨h_28, hf⟩ := fb_if hf
  refine va_iast hx hb hK hP (hD t) hS 15 0 (haX_15 ca a t) rfl h_28 dX5_node_28 (fun H locs hP _ hS => ?_)
  rw [saX_15] at hP
  obtain ⟨t_1, e_28, hf⟩ := fb_ls hf
  rw [← e_28] at hP
  refine lv_aload_n hx hb dX5_node_29 rfl (lv_at hl 0 rfl) ?_
  refine va_get (D := D) (ci := 5) (v := .ref (a 16)) (C := RX5) (T := TX5) (N := 10) hx hb hts inX5 hown hK hP 1 (heX_1 ca a t_1) rfl 2 (by decide) (hts _ kw_124) (fun _ h9 => h9) rfl dX5_node_30 ?_
  refine lv_aload_n hx hb dX5_node_33 rfl (lv_at hl 0 rfl) ?_
  refine va_get (D := D) (ci := 5) (v := .int (st_I t_1 5)) (C := RX5) (T := TX5) (N := 10) hx hb hts inX5 hown hK hP 1 (heX_1 ca a t_1) rfl 9 (by decide) (hts _ kw_131) (fun _ h9 => h9) rfl dX5_node_34 ?_
  refine lv_iload_n hx hb dX5_node_37 rfl (lv_at hl 2 rfl) ?_
  obtain ⟨h_38, hf⟩ := fb_if hf
  refine va_iast hx hb hK hP (hD t_1) hS 16 0 (haX_16 ca a t_1) rfl h_38 dX5_node_38 (fun H locs hP _ hS => ?_)
  rw [saX_16] at hP
  obtain ⟨t_2, e_38, hf⟩ := fb_ls hf
  rw [← e_38] at hP
  refine lv_aload_n hx hb dX5_node_39 rfl (lv_at hl 0 rfl) ?_
  refine va_get (D := D) (ci := 5) (v := .ref (a 17)) (C := RX5) (T := TX5) (N := 10) hx hb hts inX5 hown hK hP 1 (heX_1 ca a t_2) rfl 3 (by decide) (hts _ kw_125) (fun _ h9 => h9) rfl dX5_node_40 ?_
  refine lv_aload_n hx hb dX5_node_43 rfl (lv_at hl 0 rfl) ?_
  refine va_get (D := D) (ci := 5) (v := .int (st_I t_2 5)) (C := RX5) (T := TX5) (N := 10) hx hb hts inX5 hown hK hP 1 (heX_1 ca a t_2) rfl 9 (by decide) (hts _ kw_131) (fun _ h9 => h9) rfl dX5_node_44 ?_
  refine lv_iload_n hx hb dX5_node_47 rfl (lv_at hl 3 rfl) ?_
  obtain ⟨h_48, hf⟩ := fb_if hf
  refine va_iast hx hb hK hP (hD t_2) hS 17 0 (haX_17 ca a t_2) rfl h_48 dX5_node_48 (fun H locs hP _ hS => ?_)
  rw [saX_17] at hP
  obtain ⟨t_3, e_48, hf⟩ := fb_ls hf
  rw [← e_48] at hP
  refine lv_aload_n hx hb dX5_node_49 rfl (lv_at hl 0 rfl) ?_
  refine va_get (D := D) (ci := 5) (v := .ref (a 18)) (C := RX5) (T := TX5) (N := 10) hx hb hts inX5 hown hK hP 1 (heX_1 ca a t_3) rfl 4 (by decide) (hts _ kw_126) (fun _ h9 => h9) rfl dX5_node_50 ?_
  refine lv_aload_n hx hb dX5_node_53 rfl (lv_at hl 0 rfl) ?_
  refine va_get (D := D) (ci := 5) (v := .int (st_I t_3 5)) (C := RX5) (T := TX5) (N := 10) hx hb hts inX5 hown hK hP 1 (heX_1 ca a t_3) rfl 9 (by decide) (hts _ kw_131) (fun _ h9 => h9) rfl dX5_node_54 ?_
  refine lv_iload hx hb dX5_node_57 (lv_at hl 4 rfl) ?_
  obtain ⟨h_59, hf⟩ := fb_if hf
  refine va_iast hx hb hK hP (hD t_3) hS 18 0 (haX_18 ca a t_3) rfl h_59 dX5_node_59 (fun H locs hP _ hS => ?_)
  rw [saX_18] at hP
  obtain ⟨t_4, e_59, hf⟩ := fb_ls hf
  rw [← e_59] at hP
  refine lv_aload_n hx hb dX5_node_60 rfl (lv_at hl 0 rfl) ?_
  refine va_get (D := D) (ci := 5) (v := .ref (a 19)) (C := RX5) (T := TX5) (N := 10) hx hb hts inX5 hown hK hP 1 (heX_1 ca a t_4) rfl 5 (by decide) (hts _ kw_127) (fun _ h9 => h9) rfl dX5_node_61 ?_
  refine lv_aload_n hx hb dX5_node_64 rfl (lv_at hl 0 rfl) ?_
  refine va_get (D := D) (ci := 5) (v := .int (st_I t_4 5)) (C := RX5) (T := TX5) (N := 10) hx hb hts inX5 hown hK hP 1 (heX_1 ca a t_4) rfl 9 (by decide) (hts _ kw_131) (fun _ h9 => h9) rfl dX5_node_65 ?_
  refine lv_iconst (v := (-1)) hx hb dX5_node_68 (by decide) ?_
  obtain ⟨h_69, hf⟩ := fb_if hf
  refine va_iast hx hb hK hP (hD t_4) hS 19 0 (haX_19 ca a t_4) rfl h_69 dX5_node_69 (fun H locs hP _ hS => ?_)
  rw [saX_19] at hP
  obtain ⟨t_5, e_69, hf⟩ := fb_ls hf
  rw [← e_69] at hP
  refine lv_aload_n hx hb dX5_node_70 rfl (lv_at hl 0 rfl) ?_
  refine lv_dup hx hb dX5_node_71 rfl ?_
  refine va_get (D := D) (ci := 5) (v := .int (st_I t_5 5)) (C := RX5) (T := TX5) (N := 10) hx hb hts inX5 hown hK hP 1 (heX_1 ca a t_5) rfl 9 (by decide) (hts _ kw_131) (fun _ h9 => h9) rfl dX5_node_72 ?_
  refine lv_iconst (v := 1) hx hb dX5_node_75 (by decide) ?_
  refine lv_iadd hx hb dX5_node_76 ?_
  refine va_put (D := D) (ci := 5) (v := .int ((st_I t_5 5) + ((1 : Int32)))) (ty := .int) (C := RX5) (T := TX5) (N := 10) hx hb hts inX5 tyX5 tyX5_ok nmX5 hown hK hP (hD t_5) hS 1 (heX_1 ca a t_5) rfl 9 (by decide) (hts _ kw_131) (fun _ h9 => h9) rfl (by decide +kernel) rfl rfl (Nat.le_of_ble_eq_true rfl) dX5_node_77 (fun H locs hP _ hS => ?_)
  rw [suX_1_9] at hP
  obtain ⟨t_6, e_77, hf⟩ := fb_ls hf
  rw [← e_77] at hP
  refine lv_aload_n hx hb dX5_node_80 rfl (lv_at hl 0 rfl) ?_
  refine va_get (D := D) (ci := 5) (v := .int (st_I t_6 5)) (C := RX5) (T := TX5) (N := 10) hx hb hts inX5 hown hK hP 1 (heX_1 ca a t_6) rfl 9 (by decide) (hts _ kw_131) (fun _ h9 => h9) rfl dX5_node_81 ?_
  refine lv_iconst (v := 1) hx hb dX5_node_84 (by decide) ?_
  refine lv_isub hx hb dX5_node_85 ?_
  obtain ⟨e_86, e2_86⟩ := fb_e hf
  subst e_86; subst e2_86
  exact hr trivial _ _ _ _ hP hS dX5_node_86
set_option maxRecDepth 20000 in
theorem w_X_X5_node__1_10 {p : Program} {l : Launch} {e : Env} {s : State} {m : MethodId} {args : Array Value} {below : List Frame} {meth : Method} {c : Code} {A : Nat → Prop} {Q : State → Prop} {D : va_G} {ca : Nat → ClassId} {a : Nat → Nat} {u : fw_S} {r : Int32}  (C : CX (WX ca a) D (tyv ca) p s m args c A prog_7_method_11_code 5 RX5) (hr : True → RX (WX ca a) D p l e rm_X_X5_node__1 s m args below meth c A prog_7_method_11_code Q .ireturn [.int r] u) {t : fw_S}  {H : Heap} {locs : List Loc} {ls : Array Slot} (hf : b_X_X5_node__1_10  t  = some (r, u)) (hP : va_P D classes (WX ca a t) H) (hS : va_S A s.heap H locs) (hl : lv_has ls 5 [(0, .ref (a 1))]) : W p l e rm_X_X5_node__1 s m args below meth c H locs 0 0 Q (F0 m 10 ls []) := by
  obtain ⟨hx, hb, hml, hown, hts, hN, hK, hD, hA⟩ := id C
  have hf : (fb_b (f_X_X5_fail__1 t (st_I t 3)) fun v_2 t_1 => (some (v_2, t_1))) = some (r, u) := hf
  refine lv_aload_n hx hb dX5_node_10 rfl (lv_at hl 0 rfl) ?_
  refine lv_aload_n hx hb dX5_node_11 rfl (lv_at hl 0 rfl) ?_
  refine va_get (D := D) (ci := 5) (v := .int (st_I t 3)) (C := RX5) (T := TX5) (N := 10) hx hb hts inX5 hown hK hP 1 (heX_1 ca a t) rfl 7 (by decide) (hts _ kw_129) (fun _ h9 => h9) rfl dX5_node_12 ?_
  obtain ⟨v_2, t_1, g_15, hf⟩ := fb_bs hf
  refine fw_V1 (As := [.int (st_I t 3)]) (rest := []) (n := 1) (q0 := 1) C (c_X_X5_fail__1 (l := l) (D := D) (ca := ca) (a := a) g_15) kw_712 kw_714 kw_93 kw_715 kw_25 hP hS hl (heX_1 ca a t) rfl rfl rfl (by decide) (by decide +kernel) ⟨Nat.le_of_ble_eq_true rfl, Nat.le_of_ble_eq_true rfl⟩ rfl rfl (Nat.le_of_ble_eq_true rfl) dX5_node_15 (fun H locs hP hS => ?_)
  refine W.eq (g2 := F0 m 18 ls [.int v_2]) rfl ?_
  obtain ⟨e_18, e2_18⟩ := fb_e hf
  subst e_18; subst e2_18
  exact hr trivial _ _ _ _ hP hS dX5_node_18
set_option maxRecDepth 20000 in
theorem w_X_X5_node__1_0 {p : Program} {l : Launch} {e : Env} {s : State} {m : MethodId} {args : Array Value} {below : List Frame} {meth : Method} {c : Code} {A : Nat → Prop} {Q : State → Prop} {D : va_G} {ca : Nat → ClassId} {a : Nat → Nat} {u : fw_S} {r : Int32}  (C : CX (WX ca a) D (tyv ca) p s m args c A prog_7_method_11_code 5 RX5) (hr : True → RX (WX ca a) D p l e rm_X_X5_node__1 s m args below meth c A prog_7_method_11_code Q .ireturn [.int r] u) {t : fw_S} {x1 : Int32} {x2 : Int32} {x3 : Int32} {x4 : Int32} {H : Heap} {locs : List Loc} {ls : Array Slot} (hf : b_X_X5_node__1_0  t x1 x2 x3 x4 = some (r, u)) (hP : va_P D classes (WX ca a t) H) (hS : va_S A s.heap H locs) (hl : lv_has ls 5 [(0, .ref (a 1)), (1, .int x1), (2, .int x2), (3, .int x3), (4, .int x4)]) : W p l e rm_X_X5_node__1 s m args below meth c H locs 0 0 Q (F0 m 0 ls []) := by
  obtain ⟨hx, hb, hml, hown, hts, hN, hK, hD, hA⟩ := id C
  have hf : (if (st_I t 5) < ((160 : Int32)) then b_X_X5_node__1_19 t x1 x2 x3 x4 else b_X_X5_node__1_10 t) = some (r, u) := hf
  refine lv_aload_n hx hb dX5_node_0 rfl (lv_at hl 0 rfl) ?_
  refine va_get (D := D) (ci := 5) (v := .int (st_I t 5)) (C := RX5) (T := TX5) (N := 10) hx hb hts inX5 hown hK hP 1 (heX_1 ca a t) rfl 9 (by decide) (hts _ kw_131) (fun _ h9 => h9) rfl dX5_node_1 ?_
  refine lv_sipush (v := 160) hx hb dX5_node_4 (by decide) ?_
  refine lv_icmp_lt (tgt := 19) hx hb dX5_node_7 (by decide) (fun h_7 => ?_) (fun h_7 => ?_)
  · have hf := fb_t h_7 hf
    exact w_X_X5_node__1_19 C hr hf hP hS (lv_sub hl [0, 1, 2, 3, 4] rfl)
  · have hf := fb_f h_7 hf
    exact w_X_X5_node__1_10 C hr hf hP hS (lv_sub hl [0] rfl)
set_option maxRecDepth 20000 in
theorem c_X_X5_node__1 {l : Launch} {D : va_G} {ca : Nat → ClassId} {a : Nat → Nat} {t : fw_S} {x1 : Int32} {x2 : Int32} {x3 : Int32} {x4 : Int32} {u : fw_S} {r : Int32} (hf : f_X_X5_node__1 t x1 x2 x3 x4 = some (r, u)) : MC (WX ca a) D (tyv ca) l yX5_node (.code yX5_node prog_7_method_11_code 5 (some .int) :: lw_gd) rm_X_X5_node__1 [.ref (a 1), .int x1, .int x2, .int x3, .int x4] (some (.int r)) t u := by
  refine fw_met (okX ca a) (by decide +kernel) rfl rfl (Nat.le_of_ble_eq_true rfl) ?_
  intro p e s m args below meth c A Q ls C hr hk hP hS hl hQ
  exact w_X_X5_node__1_0 C (fun _ => fw_ri C hr hk hQ) hf hP hS (lv_sub hl [0, 1, 2, 3, 4] rfl)
/-! ReactiveSheet.Parser.skip(I)Z ['x.parser'] -/
abbrev rm_X_X5_skip__1 : Room := { frames := 1, cells := 0, slots := 0, locals := 20 }
def b_X_X5_skip__1_10  (t : fw_S)  : Option (Int32 × fw_S) := fb_l (up_I t 3 ((st_I t 3) + ((1 : Int32)))) fun t_1 => (fb_g (((1 : Int32)) = 0 ∨ ((1 : Int32)) = 1) (some ((1 : Int32), t_1)))
def b_X_X5_skip__1_8  (t : fw_S)  : Option (Int32 × fw_S) := fb_g (((0 : Int32)) = 0 ∨ ((0 : Int32)) = 1) (some ((0 : Int32), t))
def b_X_X5_skip__1_0  (t : fw_S) (x1 : Int32) : Option (Int32 × fw_S) := fb_b (f_X_X5_here__1 t) fun v_2 t_1 => (if v_2 = x1 then b_X_X5_skip__1_10 t_1 else b_X_X5_skip__1_8 t_1)
def f_X_X5_skip__1 (t : fw_S) (x1 : Int32) : Option (Int32 × fw_S) := b_X_X5_skip__1_0 t x1
set_option maxRecDepth 20000 in
theorem w_X_X5_skip__1_10 {p : Program} {l : Launch} {e : Env} {s : State} {m : MethodId} {args : Array Value} {below : List Frame} {meth : Method} {c : Code} {A : Nat → Prop} {Q : State → Prop} {D : va_G} {ca : Nat → ClassId} {a : Nat → Nat} {u : fw_S} {r : Int32}  (C : CX (WX ca a) D (tyv ca) p s m args c A prog_7_method_9_code 2 RX5) (hr : (r = 0 ∨ r = 1) → RX (WX ca a) D p l e rm_X_X5_skip__1 s m args below meth c A prog_7_method_9_code Q .ireturn [.int r] u) {t : fw_S}  {H : Heap} {locs : List Loc} {ls : Array Slot} (hf : b_X_X5_skip__1_10  t  = some (r, u)) (hP : va_P D classes (WX ca a t) H) (hS : va_S A s.heap H locs) (hl : lv_has ls 2 [(0, .ref (a 1))]) : W p l e rm_X_X5_skip__1 s m args below meth c H locs 0 0 Q (F0 m 10 ls []) := by
  obtain ⟨hx, hb, hml, hown, hts, hN, hK, hD, hA⟩ := id C
  have hf : (fb_l (up_I t 3 ((st_I t 3) + ((1 : Int32)))) fun t_1 => (fb_g (((1 : Int32)) = 0 ∨ ((1 : Int32)) = 1) (some ((1 : Int32), t_1)))) = some (r, u) := hf
  refine lv_aload_n hx hb dX5_skip_10 rfl (lv_at hl 0 rfl) ?_
  refine lv_dup hx hb dX5_skip_11 rfl ?_
  refine va_get (D := D) (ci := 5) (v := .int (st_I t 3)) (C := RX5) (T := TX5) (N := 10) hx hb hts inX5 hown hK hP 1 (heX_1 ca a t) rfl 7 (by decide) (hts _ kw_129) (fun _ h9 => h9) rfl dX5_skip_12 ?_
  refine lv_iconst (v := 1) hx hb dX5_skip_15 (by decide) ?_
  refine lv_iadd hx hb dX5_skip_16 ?_
  refine va_put (D := D) (ci := 5) (v := .int ((st_I t 3) + ((1 : Int32)))) (ty := .int) (C := RX5) (T := TX5) (N := 10) hx hb hts inX5 tyX5 tyX5_ok nmX5 hown hK hP (hD t) hS 1 (heX_1 ca a t) rfl 7 (by decide) (hts _ kw_129) (fun _ h9 => h9) rfl (by decide +kernel) rfl rfl (Nat.le_of_ble_eq_true rfl) dX5_skip_17 (fun H locs hP _ hS => ?_)
  rw [suX_1_7] at hP
  obtain ⟨t_1, e_17, hf⟩ := fb_ls hf
  rw [← e_17] at hP
  refine lv_iconst (v := 1) hx hb dX5_skip_20 (by decide) ?_
  obtain ⟨h_21, hf⟩ := fb_if hf
  obtain ⟨e_21, e2_21⟩ := fb_e hf
  subst e_21; subst e2_21
  exact hr h_21 _ _ _ _ hP hS dX5_skip_21
set_option maxRecDepth 20000 in
theorem w_X_X5_skip__1_8 {p : Program} {l : Launch} {e : Env} {s : State} {m : MethodId} {args : Array Value} {below : List Frame} {meth : Method} {c : Code} {A : Nat → Prop} {Q : State → Prop} {D : va_G} {ca : Nat → ClassId} {a : Nat → Nat} {u : fw_S} {r : Int32}  (C : CX (WX ca a) D (tyv ca) p s m args c A prog_7_method_9_code 2 RX5) (hr : (r = 0 ∨ r = 1) → RX (WX ca a) D p l e rm_X_X5_skip__1 s m args below meth c A prog_7_method_9_code Q .ireturn [.int r] u) {t : fw_S}  {H : Heap} {locs : List Loc} {ls : Array Slot} (hf : b_X_X5_skip__1_8  t  = some (r, u)) (hP : va_P D classes (WX ca a t) H) (hS : va_S A s.heap H locs) (hl : lv_has ls 2 []) : W p l e rm_X_X5_skip__1 s m args below meth c H locs 0 0 Q (F0 m 8 ls []) := by
  obtain ⟨hx, hb, hml, hown, hts, hN, hK, hD, hA⟩ := id C
  have hf : (fb_g (((0 : Int32)) = 0 ∨ ((0 : Int32)) = 1) (some ((0 : Int32), t))) = some (r, u) := hf
  refine lv_iconst (v := 0) hx hb dX5_skip_8 (by decide) ?_
  obtain ⟨h_9, hf⟩ := fb_if hf
  obtain ⟨e_9, e2_9⟩ := fb_e hf
  subst e_9; subst e2_9
  exact hr h_9 _ _ _ _ hP hS dX5_skip_9
set_option maxRecDepth 20000 in
theorem w_X_X5_skip__1_0 {p : Program} {l : Launch} {e : Env} {s : State} {m : MethodId} {args : Array Value} {below : List Frame} {meth : Method} {c : Code} {A : Nat → Prop} {Q : State → Prop} {D : va_G} {ca : Nat → ClassId} {a : Nat → Nat} {u : fw_S} {r : Int32}  (C : CX (WX ca a) D (tyv ca) p s m args c A prog_7_method_9_code 2 RX5) (hr : (r = 0 ∨ r = 1) → RX (WX ca a) D p l e rm_X_X5_skip__1 s m args below meth c A prog_7_method_9_code Q .ireturn [.int r] u) {t : fw_S} {x1 : Int32} {H : Heap} {locs : List Loc} {ls : Array Slot} (hf : b_X_X5_skip__1_0  t x1 = some (r, u)) (hP : va_P D classes (WX ca a t) H) (hS : va_S A s.heap H locs) (hl : lv_has ls 2 [(0, .ref (a 1)), (1, .int x1)]) : W p l e rm_X_X5_skip__1 s m args below meth c H locs 0 0 Q (F0 m 0 ls []) := by
  obtain ⟨hx, hb, hml, hown, hts, hN, hK, hD, hA⟩ := id C
  have hf : (fb_b (f_X_X5_here__1 t) fun v_2 t_1 => (if v_2 = x1 then b_X_X5_skip__1_10 t_1 else b_X_X5_skip__1_8 t_1)) = some (r, u) := hf
  refine lv_aload_n hx hb dX5_skip_0 rfl (lv_at hl 0 rfl) ?_
  obtain ⟨v_2, t_1, g_1, hf⟩ := fb_bs hf
  refine fw_V1 (As := []) (rest := []) (n := 0) (q0 := 1) C (c_X_X5_here__1 (l := l) (D := D) (ca := ca) (a := a) g_1) kw_701 kw_703 kw_93 kw_704 kw_23 hP hS hl (heX_1 ca a t) rfl rfl rfl (by decide) (by decide +kernel) ⟨Nat.le_of_ble_eq_true rfl, Nat.le_of_ble_eq_true rfl⟩ rfl rfl (Nat.le_of_ble_eq_true rfl) dX5_skip_1 (fun H locs hP hS => ?_)
  refine W.eq (g2 := F0 m 4 ls [.int v_2]) rfl ?_
  refine lv_iload_n hx hb dX5_skip_4 rfl (lv_at hl 1 rfl) ?_
  refine lv_icmp_eq (tgt := 10) hx hb dX5_skip_5 (by decide) (fun h_5 => ?_) (fun h_5 => ?_)
  · have hf := fb_t h_5 hf
    exact w_X_X5_skip__1_10 C hr hf hP hS (lv_sub hl [0] rfl)
  · have hf := fb_f h_5 hf
    exact w_X_X5_skip__1_8 C hr hf hP hS (lv_sub hl [] rfl)
set_option maxRecDepth 20000 in
theorem c_X_X5_skip__1 {l : Launch} {D : va_G} {ca : Nat → ClassId} {a : Nat → Nat} {t : fw_S} {x1 : Int32} {u : fw_S} {r : Int32} (hf : f_X_X5_skip__1 t x1 = some (r, u)) : MC (WX ca a) D (tyv ca) l yX5_skip (.code yX5_skip prog_7_method_9_code 2 (some .boolean) :: lw_gd) rm_X_X5_skip__1 [.ref (a 1), .int x1] (some (.int r)) t u := by
  refine fw_met (okX ca a) (by decide +kernel) rfl rfl (Nat.le_of_ble_eq_true rfl) ?_
  intro p e s m args below meth c A Q ls C hr hk hP hS hl hQ
  exact w_X_X5_skip__1_0 C (fun hz => fw_rz C hr hk hz hQ) hf hP hS (lv_sub hl [0, 1] rfl)
/-! ReactiveSheet.Parser.cellNumber(I)I ['x.parser'] -/
abbrev rm_X_X5_cellNumber__1 : Room := { frames := 2, cells := 0, slots := 0, locals := 44 }
def b_X_X5_cellNumber__1_33  (t : fw_S) (z0 : Int32) : Option (Int32 × fw_S) := some (z0, t)
def b_X_X5_cellNumber__1_28  (t : fw_S) (x2 : Int32) : Option (Int32 × fw_S) := fb_b (f_X_X5_fail__1 t x2) fun v_2 t_1 => (b_X_X5_cellNumber__1_33 t_1 v_2)
def b_X_X5_cellNumber__1_24  (t : fw_S) (x3 : Int32) : Option (Int32 × fw_S) := b_X_X5_cellNumber__1_33 t x3
def b_X_X5_cellNumber__1_19  (t : fw_S) (x1 : Int32) (x2 : Int32) (x3 : Int32) : Option (Int32 × fw_S) := if x3 < x1 then b_X_X5_cellNumber__1_28 t x2 else b_X_X5_cellNumber__1_24 t x3
def b_X_X5_cellNumber__1_0  (t : fw_S) (x1 : Int32) : Option (Int32 × fw_S) := fb_b (f_X_X5_number__1 t ((2 : Int32))) fun v_2 t_1 => (fb_b (f_X_X10_isCell t_1 v_2.toInt64) fun v_4 t_3 => (if v_4 = 0 then b_X_X5_cellNumber__1_28 t_3 (st_I t 3) else b_X_X5_cellNumber__1_19 t_3 x1 (st_I t 3) v_2))
def f_X_X5_cellNumber__1 (t : fw_S) (x1 : Int32) : Option (Int32 × fw_S) := b_X_X5_cellNumber__1_0 t x1
set_option maxRecDepth 20000 in
theorem w_X_X5_cellNumber__1_33 {p : Program} {l : Launch} {e : Env} {s : State} {m : MethodId} {args : Array Value} {below : List Frame} {meth : Method} {c : Code} {A : Nat → Prop} {Q : State → Prop} {D : va_G} {ca : Nat → ClassId} {a : Nat → Nat} {u : fw_S} {r : Int32}  (C : CX (WX ca a) D (tyv ca) p s m args c A prog_7_method_22_code 4 RX5) (hr : True → RX (WX ca a) D p l e rm_X_X5_cellNumber__1 s m args below meth c A prog_7_method_22_code Q .ireturn [.int r] u) {t : fw_S} {z0 : Int32} {H : Heap} {locs : List Loc} {ls : Array Slot} (hf : b_X_X5_cellNumber__1_33  t z0 = some (r, u)) (hP : va_P D classes (WX ca a t) H) (hS : va_S A s.heap H locs) (hl : lv_has ls 4 []) : W p l e rm_X_X5_cellNumber__1 s m args below meth c H locs 0 0 Q (F0 m 33 ls [.int z0]) := by
  obtain ⟨hx, hb, hml, hown, hts, hN, hK, hD, hA⟩ := id C
  have hf : (some (z0, t)) = some (r, u) := hf
  obtain ⟨e_33, e2_33⟩ := fb_e hf
  subst e_33; subst e2_33
  exact hr trivial _ _ _ _ hP hS dX5_cellNumber_33
set_option maxRecDepth 20000 in
theorem w_X_X5_cellNumber__1_28 {p : Program} {l : Launch} {e : Env} {s : State} {m : MethodId} {args : Array Value} {below : List Frame} {meth : Method} {c : Code} {A : Nat → Prop} {Q : State → Prop} {D : va_G} {ca : Nat → ClassId} {a : Nat → Nat} {u : fw_S} {r : Int32}  (C : CX (WX ca a) D (tyv ca) p s m args c A prog_7_method_22_code 4 RX5) (hr : True → RX (WX ca a) D p l e rm_X_X5_cellNumber__1 s m args below meth c A prog_7_method_22_code Q .ireturn [.int r] u) {t : fw_S} {x2 : Int32} {H : Heap} {locs : List Loc} {ls : Array Slot} (hf : b_X_X5_cellNumber__1_28  t x2 = some (r, u)) (hP : va_P D classes (WX ca a t) H) (hS : va_S A s.heap H locs) (hl : lv_has ls 4 [(0, .ref (a 1)), (2, .int x2)]) : W p l e rm_X_X5_cellNumber__1 s m args below meth c H locs 0 0 Q (F0 m 28 ls []) := by
  obtain ⟨hx, hb, hml, hown, hts, hN, hK, hD, hA⟩ := id C
  have hf : (fb_b (f_X_X5_fail__1 t x2) fun v_2 t_1 => (b_X_X5_cellNumber__1_33 t_1 v_2)) = some (r, u) := hf
  refine lv_aload_n hx hb dX5_cellNumber_28 rfl (lv_at hl 0 rfl) ?_
  refine lv_iload_n hx hb dX5_cellNumber_29 rfl (lv_at hl 1 rfl) ?_
  obtain ⟨v_2, t_1, g_30, hf⟩ := fb_bs hf
  refine fw_V1 (As := [.int x2]) (rest := []) (n := 1) (q0 := 1) C (c_X_X5_fail__1 (l := l) (D := D) (ca := ca) (a := a) g_30) kw_712 kw_714 kw_93 kw_715 kw_25 hP hS hl (heX_1 ca a t) rfl rfl rfl (by decide) (by decide +kernel) ⟨Nat.le_of_ble_eq_true rfl, Nat.le_of_ble_eq_true rfl⟩ rfl rfl (Nat.le_of_ble_eq_true rfl) dX5_cellNumber_30 (fun H locs hP hS => ?_)
  refine W.eq (g2 := F0 m 33 ls [.int v_2]) rfl ?_
  exact w_X_X5_cellNumber__1_33 C hr hf hP hS (lv_sub hl [] rfl)
set_option maxRecDepth 20000 in
theorem w_X_X5_cellNumber__1_24 {p : Program} {l : Launch} {e : Env} {s : State} {m : MethodId} {args : Array Value} {below : List Frame} {meth : Method} {c : Code} {A : Nat → Prop} {Q : State → Prop} {D : va_G} {ca : Nat → ClassId} {a : Nat → Nat} {u : fw_S} {r : Int32}  (C : CX (WX ca a) D (tyv ca) p s m args c A prog_7_method_22_code 4 RX5) (hr : True → RX (WX ca a) D p l e rm_X_X5_cellNumber__1 s m args below meth c A prog_7_method_22_code Q .ireturn [.int r] u) {t : fw_S} {x3 : Int32} {H : Heap} {locs : List Loc} {ls : Array Slot} (hf : b_X_X5_cellNumber__1_24  t x3 = some (r, u)) (hP : va_P D classes (WX ca a t) H) (hS : va_S A s.heap H locs) (hl : lv_has ls 4 [(3, .int x3)]) : W p l e rm_X_X5_cellNumber__1 s m args below meth c H locs 0 0 Q (F0 m 24 ls []) := by
  obtain ⟨hx, hb, hml, hown, hts, hN, hK, hD, hA⟩ := id C
  have hf : (b_X_X5_cellNumber__1_33 t x3) = some (r, u) := hf
  refine lv_iload_n hx hb dX5_cellNumber_24 rfl (lv_at hl 0 rfl) ?_
  refine lv_goto (tgt := 33) hx hb dX5_cellNumber_25 (by decide) ?_
  exact w_X_X5_cellNumber__1_33 C hr hf hP hS (lv_sub hl [] rfl)
set_option maxRecDepth 20000 in
theorem w_X_X5_cellNumber__1_19 {p : Program} {l : Launch} {e : Env} {s : State} {m : MethodId} {args : Array Value} {below : List Frame} {meth : Method} {c : Code} {A : Nat → Prop} {Q : State → Prop} {D : va_G} {ca : Nat → ClassId} {a : Nat → Nat} {u : fw_S} {r : Int32}  (C : CX (WX ca a) D (tyv ca) p s m args c A prog_7_method_22_code 4 RX5) (hr : True → RX (WX ca a) D p l e rm_X_X5_cellNumber__1 s m args below meth c A prog_7_method_22_code Q .ireturn [.int r] u) {t : fw_S} {x1 : Int32} {x2 : Int32} {x3 : Int32} {H : Heap} {locs : List Loc} {ls : Array Slot} (hf : b_X_X5_cellNumber__1_19  t x1 x2 x3 = some (r, u)) (hP : va_P D classes (WX ca a t) H) (hS : va_S A s.heap H locs) (hl : lv_has ls 4 [(0, .ref (a 1)), (1, .int x1), (2, .int x2), (3, .int x3)]) : W p l e rm_X_X5_cellNumber__1 s m args below meth c H locs 0 0 Q (F0 m 19 ls []) := by
  obtain ⟨hx, hb, hml, hown, hts, hN, hK, hD, hA⟩ := id C
  have hf : (if x3 < x1 then b_X_X5_cellNumber__1_28 t x2 else b_X_X5_cellNumber__1_24 t x3) = some (r, u) := hf
  refine lv_iload_n hx hb dX5_cellNumber_19 rfl (lv_at hl 3 rfl) ?_
  refine lv_iload_n hx hb dX5_cellNumber_20 rfl (lv_at hl 1 rfl) ?_
  refine lv_icmp_lt (tgt := 28) hx hb dX5_cellNumber_21 (by decide) (fun h_21 => ?_) (fun h_21 => ?_)
  · have hf := fb_t h_21 hf
    exact w_X_X5_cellNumber__1_28 C hr hf hP hS (lv_sub hl [0, 2] rfl)
  · have hf := fb_f h_21 hf
    exact w_X_X5_cellNumber__1_24 C hr hf hP hS (lv_sub hl [3] rfl)
set_option maxRecDepth 20000 in
theorem w_X_X5_cellNumber__1_0 {p : Program} {l : Launch} {e : Env} {s : State} {m : MethodId} {args : Array Value} {below : List Frame} {meth : Method} {c : Code} {A : Nat → Prop} {Q : State → Prop} {D : va_G} {ca : Nat → ClassId} {a : Nat → Nat} {u : fw_S} {r : Int32}  (C : CX (WX ca a) D (tyv ca) p s m args c A prog_7_method_22_code 4 RX5) (hr : True → RX (WX ca a) D p l e rm_X_X5_cellNumber__1 s m args below meth c A prog_7_method_22_code Q .ireturn [.int r] u) {t : fw_S} {x1 : Int32} {H : Heap} {locs : List Loc} {ls : Array Slot} (hf : b_X_X5_cellNumber__1_0  t x1 = some (r, u)) (hP : va_P D classes (WX ca a t) H) (hS : va_S A s.heap H locs) (hl : lv_has ls 4 [(0, .ref (a 1)), (1, .int x1)]) : W p l e rm_X_X5_cellNumber__1 s m args below meth c H locs 0 0 Q (F0 m 0 ls []) := by
  obtain ⟨hx, hb, hml, hown, hts, hN, hK, hD, hA⟩ := id C
  have hf : (fb_b (f_X_X5_number__1 t ((2 : Int32))) fun v_2 t_1 => (fb_b (f_X_X10_isCell t_1 v_2.toInt64) fun v_4 t_3 => (if v_4 = 0 then b_X_X5_cellNumber__1_28 t_3 (st_I t 3) else b_X_X5_cellNumber__1_19 t_3 x1 (st_I t 3) v_2))) = some (r, u) := hf
  refine lv_aload_n hx hb dX5_cellNumber_0 rfl (lv_at hl 0 rfl) ?_
  refine va_get (D := D) (ci := 5) (v := .int (st_I t 3)) (C := RX5) (T := TX5) (N := 10) hx hb hts inX5 hown hK hP 1 (heX_1 ca a t) rfl 7 (by decide) (hts _ kw_129) (fun _ h9 => h9) rfl dX5_cellNumber_1 ?_
  refine lv_istore_n (lv' := [(2, .int (st_I t 3)), (0, .ref (a 1)), (1, .int x1)]) hx hb dX5_cellNumber_4 rfl hl (by decide) rfl (fun ls hl => ?_)
  refine lv_aload_n hx hb dX5_cellNumber_5 rfl (lv_at hl 1 rfl) ?_
  refine lv_iconst (v := 2) hx hb dX5_cellNumber_6 (by decide) ?_
  obtain ⟨v_2, t_1, g_7, hf⟩ := fb_bs hf
  refine fw_V1 (As := [.int ((2 : Int32))]) (rest := []) (n := 1) (q0 := 1) C (c_X_X5_number__1 (l := l) (D := D) (ca := ca) (a := a) g_7) kw_708 kw_710 kw_93 kw_711 kw_24 hP hS hl (heX_1 ca a t) rfl rfl rfl (by decide) (by decide +kernel) ⟨Nat.le_of_ble_eq_true rfl, Nat.le_of_ble_eq_true rfl⟩ rfl rfl (Nat.le_of_ble_eq_true rfl) dX5_cellNumber_7 (fun H locs hP hS => ?_)
  refine W.eq (g2 := F0 m 10 ls [.int v_2]) rfl ?_
  refine lv_istore_n (lv' := [(3, .int v_2), (2, .int (st_I t 3)), (0, .ref (a 1)), (1, .int x1)]) hx hb dX5_cellNumber_10 rfl hl (by decide) rfl (fun ls hl => ?_)
  refine lv_iload_n hx hb dX5_cellNumber_11 rfl (lv_at hl 0 rfl) ?_
  refine lv_i2l hx hb dX5_cellNumber_12 rfl ?_
  obtain ⟨v_4, t_3, g_13, hf⟩ := fb_bs hf
  refine fw_S2 (As := [.long v_2.toInt64]) (rest := []) (n := 1) C (c_X_X10_isCell (l := l) (D := D) (ca := ca) (a := a) g_13) kw_728 kw_399 kw_92 kw_400 hP hS hl rfl rfl (by decide) (by decide +kernel) ⟨Nat.le_of_ble_eq_true rfl, Nat.le_of_ble_eq_true rfl⟩ rfl rfl (Nat.le_of_ble_eq_true rfl) dX5_cellNumber_13 (fun H locs hP hS => ?_)
  refine W.eq (g2 := F0 m 16 ls [.int v_4]) rfl ?_
  refine lv_if_eq (tgt := 28) hx hb dX5_cellNumber_16 (by decide) (fun h_16 => ?_) (fun h_16 => ?_)
  · have hf := fb_t h_16 hf
    exact w_X_X5_cellNumber__1_28 C hr hf hP hS (lv_sub hl [2, 1] rfl)
  · have hf := fb_f h_16 hf
    exact w_X_X5_cellNumber__1_19 C hr hf hP hS (lv_sub hl [2, 3, 1, 0] rfl)
set_option maxRecDepth 20000 in
theorem c_X_X5_cellNumber__1 {l : Launch} {D : va_G} {ca : Nat → ClassId} {a : Nat → Nat} {t : fw_S} {x1 : Int32} {u : fw_S} {r : Int32} (hf : f_X_X5_cellNumber__1 t x1 = some (r, u)) : MC (WX ca a) D (tyv ca) l yX5_cellNumber (.code yX5_cellNumber prog_7_method_22_code 4 (some .int) :: lw_gd) rm_X_X5_cellNumber__1 [.ref (a 1), .int x1] (some (.int r)) t u := by
  refine fw_met (okX ca a) (by decide +kernel) rfl rfl (Nat.le_of_ble_eq_true rfl) ?_
  intro p e s m args below meth c A Q ls C hr hk hP hS hl hQ
  exact w_X_X5_cellNumber__1_0 C (fun _ => fw_ri C hr hk hQ) hf hP hS (lv_sub hl [0, 1] rfl)
/-! ReactiveSheet.Parser.expect(I)V ['x.parser'] -/
abbrev rm_X_X5_expect__1 : Room := { frames := 2, cells := 0, slots := 0, locals := 41 }
def b_X_X5_expect__1_17  (t : fw_S)  : Option fw_S := some t
def b_X_X5_expect__1_8  (t : fw_S)  : Option fw_S := fb_b (f_X_X5_fail__1 t (st_I t 3)) fun v_2 t_1 => (b_X_X5_expect__1_17 t_1)
def b_X_X5_expect__1_0  (t : fw_S) (x1 : Int32) : Option fw_S := fb_b (f_X_X5_skip__1 t x1) fun v_2 t_1 => (if v_2 = 0 then b_X_X5_expect__1_8 t_1 else b_X_X5_expect__1_17 t_1)
def f_X_X5_expect__1 (t : fw_S) (x1 : Int32) : Option fw_S := b_X_X5_expect__1_0 t x1
set_option maxRecDepth 20000 in
theorem w_X_X5_expect__1_17 {p : Program} {l : Launch} {e : Env} {s : State} {m : MethodId} {args : Array Value} {below : List Frame} {meth : Method} {c : Code} {A : Nat → Prop} {Q : State → Prop} {D : va_G} {ca : Nat → ClassId} {a : Nat → Nat} {u : fw_S}  (C : CX (WX ca a) D (tyv ca) p s m args c A prog_7_method_10_code 2 RX5) (hr : True → RX (WX ca a) D p l e rm_X_X5_expect__1 s m args below meth c A prog_7_method_10_code Q .return_ [] u) {t : fw_S}  {H : Heap} {locs : List Loc} {ls : Array Slot} (hf : b_X_X5_expect__1_17  t  = some u) (hP : va_P D classes (WX ca a t) H) (hS : va_S A s.heap H locs) (hl : lv_has ls 2 []) : W p l e rm_X_X5_expect__1 s m args below meth c H locs 0 0 Q (F0 m 17 ls []) := by
  obtain ⟨hx, hb, hml, hown, hts, hN, hK, hD, hA⟩ := id C
  have hf : (some t) = some u := hf
  have e_17 := fb_ev hf
  subst e_17
  exact hr trivial _ _ _ _ hP hS dX5_expect_17
set_option maxRecDepth 20000 in
theorem w_X_X5_expect__1_8 {p : Program} {l : Launch} {e : Env} {s : State} {m : MethodId} {args : Array Value} {below : List Frame} {meth : Method} {c : Code} {A : Nat → Prop} {Q : State → Prop} {D : va_G} {ca : Nat → ClassId} {a : Nat → Nat} {u : fw_S}  (C : CX (WX ca a) D (tyv ca) p s m args c A prog_7_method_10_code 2 RX5) (hr : True → RX (WX ca a) D p l e rm_X_X5_expect__1 s m args below meth c A prog_7_method_10_code Q .return_ [] u) {t : fw_S}  {H : Heap} {locs : List Loc} {ls : Array Slot} (hf : b_X_X5_expect__1_8  t  = some u) (hP : va_P D classes (WX ca a t) H) (hS : va_S A s.heap H locs) (hl : lv_has ls 2 [(0, .ref (a 1))]) : W p l e rm_X_X5_expect__1 s m args below meth c H locs 0 0 Q (F0 m 8 ls []) := by
  obtain ⟨hx, hb, hml, hown, hts, hN, hK, hD, hA⟩ := id C
  have hf : (fb_b (f_X_X5_fail__1 t (st_I t 3)) fun v_2 t_1 => (b_X_X5_expect__1_17 t_1)) = some u := hf
  refine lv_aload_n hx hb dX5_expect_8 rfl (lv_at hl 0 rfl) ?_
  refine lv_aload_n hx hb dX5_expect_9 rfl (lv_at hl 0 rfl) ?_
  refine va_get (D := D) (ci := 5) (v := .int (st_I t 3)) (C := RX5) (T := TX5) (N := 10) hx hb hts inX5 hown hK hP 1 (heX_1 ca a t) rfl 7 (by decide) (hts _ kw_129) (fun _ h9 => h9) rfl dX5_expect_10 ?_
  obtain ⟨v_2, t_1, g_13, hf⟩ := fb_bs hf
  refine fw_V1 (As := [.int (st_I t 3)]) (rest := []) (n := 1) (q0 := 1) C (c_X_X5_fail__1 (l := l) (D := D) (ca := ca) (a := a) g_13) kw_712 kw_714 kw_93 kw_715 kw_25 hP hS hl (heX_1 ca a t) rfl rfl rfl (by decide) (by decide +kernel) ⟨Nat.le_of_ble_eq_true rfl, Nat.le_of_ble_eq_true rfl⟩ rfl rfl (Nat.le_of_ble_eq_true rfl) dX5_expect_13 (fun H locs hP hS => ?_)
  refine W.eq (g2 := F0 m 16 ls [.int v_2]) rfl ?_
  refine lv_pop hx hb dX5_expect_16 rfl ?_
  exact w_X_X5_expect__1_17 C hr hf hP hS (lv_sub hl [] rfl)
set_option maxRecDepth 20000 in
theorem w_X_X5_expect__1_0 {p : Program} {l : Launch} {e : Env} {s : State} {m : MethodId} {args : Array Value} {below : List Frame} {meth : Method} {c : Code} {A : Nat → Prop} {Q : State → Prop} {D : va_G} {ca : Nat → ClassId} {a : Nat → Nat} {u : fw_S}  (C : CX (WX ca a) D (tyv ca) p s m args c A prog_7_method_10_code 2 RX5) (hr : True → RX (WX ca a) D p l e rm_X_X5_expect__1 s m args below meth c A prog_7_method_10_code Q .return_ [] u) {t : fw_S} {x1 : Int32} {H : Heap} {locs : List Loc} {ls : Array Slot} (hf : b_X_X5_expect__1_0  t x1 = some u) (hP : va_P D classes (WX ca a t) H) (hS : va_S A s.heap H locs) (hl : lv_has ls 2 [(0, .ref (a 1)), (1, .int x1)]) : W p l e rm_X_X5_expect__1 s m args below meth c H locs 0 0 Q (F0 m 0 ls []) := by
  obtain ⟨hx, hb, hml, hown, hts, hN, hK, hD, hA⟩ := id C
  have hf : (fb_b (f_X_X5_skip__1 t x1) fun v_2 t_1 => (if v_2 = 0 then b_X_X5_expect__1_8 t_1 else b_X_X5_expect__1_17 t_1)) = some u := hf
  refine lv_aload_n hx hb dX5_expect_0 rfl (lv_at hl 0 rfl) ?_
  refine lv_iload_n hx hb dX5_expect_1 rfl (lv_at hl 1 rfl) ?_
  obtain ⟨v_2, t_1, g_2, hf⟩ := fb_bs hf
  refine fw_V1 (As := [.int x1]) (rest := []) (n := 1) (q0 := 1) C (c_X_X5_skip__1 (l := l) (D := D) (ca := ca) (a := a) g_2) kw_720 kw_722 kw_93 kw_723 kw_27 hP hS hl (heX_1 ca a t) rfl rfl rfl (by decide) (by decide +kernel) ⟨Nat.le_of_ble_eq_true rfl, Nat.le_of_ble_eq_true rfl⟩ rfl rfl (Nat.le_of_ble_eq_true rfl) dX5_expect_2 (fun H locs hP hS => ?_)
  refine W.eq (g2 := F0 m 5 ls [.int v_2]) rfl ?_
  refine lv_if_ne (tgt := 17) hx hb dX5_expect_5 (by decide) (fun h_5 => ?_) (fun h_5 => ?_)
  · have hf := fb_f h_5 hf
    exact w_X_X5_expect__1_17 C hr hf hP hS (lv_sub hl [] rfl)
  · have hf := fb_t h_5 hf
    exact w_X_X5_expect__1_8 C hr hf hP hS (lv_sub hl [0] rfl)
set_option maxRecDepth 20000 in
theorem c_X_X5_expect__1 {l : Launch} {D : va_G} {ca : Nat → ClassId} {a : Nat → Nat} {t : fw_S} {x1 : Int32} {u : fw_S} (hf : f_X_X5_expect__1 t x1 = some u) : MC (WX ca a) D (tyv ca) l yX5_expect (.code yX5_expect prog_7_method_10_code 2 none :: lw_gd) rm_X_X5_expect__1 [.ref (a 1), .int x1] none t u := by
  refine fw_met (okX ca a) (by decide +kernel) rfl rfl (Nat.le_of_ble_eq_true rfl) ?_
  intro p e s m args below meth c A Q ls C hr hk hP hS hl hQ
  exact w_X_X5_expect__1_0 C (fun _ => fw_rv C hr hk hQ) hf hP hS (lv_sub hl [0, 1] rfl)
/-! ReactiveSheet.Parser.not(I)I ['x.parser'] -/
abbrev rm_X_X5_not__1 : Room := { frames := 0, cells := 0, slots := 0, locals := 0 }
def b_X_X5_not__1_0  (t : fw_S) (x1 : Int32) : Option (Int32 × fw_S) := none
def f_X_X5_not__1 (t : fw_S) (x1 : Int32) : Option (Int32 × fw_S) := b_X_X5_not__1_0 t x1
set_option maxRecDepth 20000 in
theorem w_X_X5_not__1_0 {p : Program} {l : Launch} {e : Env} {s : State} {m : MethodId} {args : Array Value} {below : List Frame} {meth : Method} {c : Code} {A : Nat → Prop} {Q : State → Prop} {D : va_G} {ca : Nat → ClassId} {a : Nat → Nat} {u : fw_S} {r : Int32}  (C : CX (WX ca a) D (tyv ca) p s m args c A prog_7_method_20_code 6 RX5) (hr : True → RX (WX ca a) D p l e rm_X_X5_not__1 s m args below meth c A prog_7_method_20_code Q .ireturn [.int r] u) {t : fw_S} {x1 : Int32} {H : Heap} {locs : List Loc} {ls : Array Slot} (hf : b_X_X5_not__1_0  t x1 = some (r, u)) (hP : va_P D classes (WX ca a t) H) (hS : va_S A s.heap H locs) (hl : lv_has ls 6 [(0, .ref (a 1)), (1, .int x1)]) : W p l e rm_X_X5_not__1 s m args below meth c H locs 0 0 Q (F0 m 0 ls []) := by
  obtain ⟨hx, hb, hml, hown, hts, hN, hK, hD, hA⟩ := id C
  have hf : (none) = some (r, u) := hf
  refine lv_aload_n hx hb dX5_not_0 rfl (lv_at hl 0 rfl) ?_
  refine va_get (D := D) (ci := 5) (v := .int (st_I t 5)) (C := RX5) (T := TX5) (N := 10) hx hb hts inX5 hown hK hP 1 (heX_1 ca a t) rfl 9 (by decide) (hts _ kw_131) (fun _ h9 => h9) rfl dX5_not_1 ?_
  refine lv_istore_n (lv' := [(2, .int (st_I t 5)), (0, .ref (a 1)), (1, .int x1)]) hx hb dX5_not_4 rfl hl (by decide) rfl (fun ls hl => ?_)
  refine lv_aload_n hx hb dX5_not_5 rfl (lv_at hl 1 rfl) ?_
  refine lv_iload_n hx hb dX5_not_6 rfl (lv_at hl 2 rfl) ?_
  cases hf
set_option maxRecDepth 20000 in
theorem c_X_X5_not__1 {l : Launch} {D : va_G} {ca : Nat → ClassId} {a : Nat → Nat} {t : fw_S} {x1 : Int32} {u : fw_S} {r : Int32} (hf : f_X_X5_not__1 t x1 = some (r, u)) : MC (WX ca a) D (tyv ca) l yX5_not (.code yX5_not prog_7_method_20_code 6 (some .int) :: lw_gd) rm_X_X5_not__1 [.ref (a 1), .int x1] (some (.int r)) t u := by
  refine fw_met (okX ca a) (by decide +kernel) rfl rfl (Nat.le_of_ble_eq_true rfl) ?_
  intro p e s m args below meth c A Q ls C hr hk hP hS hl hQ
  exact w_X_X5_not__1_0 C (fun _ => fw_ri C hr hk hQ) hf hP hS (lv_sub hl [0, 1] rfl)
/-! ReactiveSheet.Parser.nested(II)I ['x.parser'] -/
abbrev rm_X_X5_nested__1 : Room := { frames := 3, cells := 0, slots := 0, locals := 62 }
def b_X_X5_nested__1_101  (t : fw_S) (x1 : Int32) (x2 : Int32) : Option (Int32 × fw_S) := fb_v (f_X_X5_expect__1 t ((40 : Int32))) fun t_1 => (none)
def b_X_X5_nested__1_156  (t : fw_S)  : Option (Int32 × fw_S) := fb_b (f_X_X5_fail__1 t (st_I t 3)) fun v_2 t_1 => (some (v_2, t_1))
def b_X_X5_nested__1_92  (t : fw_S) (x1 : Int32) (x2 : Int32) : Option (Int32 × fw_S) := fb_b (f_X_X5_skip__1 t ((103 : Int32))) fun v_2 t_1 => (if v_2 = 0 then b_X_X5_nested__1_156 t_1 else b_X_X5_nested__1_101 t_1 x1 x2)
def b_X_X5_nested__1_83  (t : fw_S) (x1 : Int32) (x2 : Int32) : Option (Int32 × fw_S) := fb_b (f_X_X5_skip__1 t ((108 : Int32))) fun v_2 t_1 => (if v_2 = 0 then b_X_X5_nested__1_92 t_1 x1 x2 else b_X_X5_nested__1_101 t_1 x1 x2)
def b_X_X5_nested__1_77  (t : fw_S) (x2 : Int32) : Option (Int32 × fw_S) := fb_b (f_X_X5_not__1 t x2) fun v_2 t_1 => (some (v_2, t_1))
def b_X_X5_nested__1_68  (t : fw_S) (x1 : Int32) (x2 : Int32) : Option (Int32 × fw_S) := fb_b (f_X_X5_skip__1 t ((33 : Int32))) fun v_2 t_1 => (if v_2 = 0 then b_X_X5_nested__1_83 t_1 x1 x2 else b_X_X5_nested__1_77 t_1 x2)
def b_X_X5_nested__1_55  (t : fw_S) (x2 : Int32) : Option (Int32 × fw_S) := none
def b_X_X5_nested__1_46  (t : fw_S) (x1 : Int32) (x2 : Int32) : Option (Int32 × fw_S) := fb_b (f_X_X5_skip__1 t ((64 : Int32))) fun v_2 t_1 => (if v_2 = 0 then b_X_X5_nested__1_68 t_1 x1 x2 else b_X_X5_nested__1_55 t_1 x2)
def b_X_X5_nested__1_33  (t : fw_S) (x2 : Int32) : Option (Int32 × fw_S) := none
def b_X_X5_nested__1_24  (t : fw_S) (x1 : Int32) (x2 : Int32) : Option (Int32 × fw_S) := fb_b (f_X_X5_skip__1 t ((45 : Int32))) fun v_2 t_1 => (if v_2 = 0 then b_X_X5_nested__1_46 t_1 x1 x2 else b_X_X5_nested__1_33 t_1 x2)
def b_X_X5_nested__1_9  (t : fw_S) (x2 : Int32) : Option (Int32 × fw_S) := none
def b_X_X5_nested__1_0  (t : fw_S) (x1 : Int32) (x2 : Int32) : Option (Int32 × fw_S) := fb_b (f_X_X5_skip__1 t ((40 : Int32))) fun v_2 t_1 => (if v_2 = 0 then b_X_X5_nested__1_24 t_1 x1 x2 else b_X_X5_nested__1_9 t_1 x2)
def f_X_X5_nested__1 (t : fw_S) (x1 : Int32) (x2 : Int32) : Option (Int32 × fw_S) := b_X_X5_nested__1_0 t x1 x2
set_option maxRecDepth 20000 in
theorem w_X_X5_nested__1_101 {p : Program} {l : Launch} {e : Env} {s : State} {m : MethodId} {args : Array Value} {below : List Frame} {meth : Method} {c : Code} {A : Nat → Prop} {Q : State → Prop} {D : va_G} {ca : Nat → ClassId} {a : Nat → Nat} {u : fw_S} {r : Int32}  (C : CX (WX ca a) D (tyv ca) p s m args c A prog_7_method_19_code 5 RX5) (hr : True → RX (WX ca a) D p l e rm_X_X5_nested__1 s m args below meth c A prog_7_method_19_code Q .ireturn [.int r] u) {t : fw_S} {x1 : Int32} {x2 : Int32} {H : Heap} {locs : List Loc} {ls : Array Slot} (hf : b_X_X5_nested__1_101  t x1 x2 = some (r, u)) (hP : va_P D classes (WX ca a t) H) (hS : va_S A s.heap H locs) (hl : lv_has ls 5 [(0, .ref (a 1)), (1, .int x1), (2, .int x2)]) : W p l e rm_X_X5_nested__1 s m args below meth c H locs 0 0 Q (F0 m 101 ls []) := by
  obtain ⟨hx, hb, hml, hown, hts, hN, hK, hD, hA⟩ := id C
  have hf : (fb_v (f_X_X5_expect__1 t ((40 : Int32))) fun t_1 => (none)) = some (r, u) := hf
  refine lv_aload_n hx hb dX5_nested_101 rfl (lv_at hl 0 rfl) ?_
  refine lv_bipush (v := 40) hx hb dX5_nested_102 (by decide) ?_
  obtain ⟨t_1, g_104, hf⟩ := fb_vs hf
  refine fw_V1 (As := [.int ((40 : Int32))]) (rest := []) (n := 1) (q0 := 1) C (c_X_X5_expect__1 (l := l) (D := D) (ca := ca) (a := a) g_104) kw_729 kw_731 kw_93 kw_732 kw_29 hP hS hl (heX_1 ca a t) rfl rfl rfl (by decide) (by decide +kernel) ⟨Nat.le_of_ble_eq_true rfl, Nat.le_of_ble_eq_true rfl⟩ rfl rfl (Nat.le_of_ble_eq_true rfl) dX5_nested_104 (fun H locs hP hS => ?_)
  refine W.eq (g2 := F0 m 107 ls []) rfl ?_
  refine lv_aload_n hx hb dX5_nested_107 rfl (lv_at hl 0 rfl) ?_
  refine lv_iload_n hx hb dX5_nested_108 rfl (lv_at hl 2 rfl) ?_
  refine lv_iconst (v := 0) hx hb dX5_nested_109 (by decide) ?_
  cases hf
set_option maxRecDepth 20000 in
theorem w_X_X5_nested__1_156 {p : Program} {l : Launch} {e : Env} {s : State} {m : MethodId} {args : Array Value} {below : List Frame} {meth : Method} {c : Code} {A : Nat → Prop} {Q : State → Prop} {D : va_G} {ca : Nat → ClassId} {a : Nat → Nat} {u : fw_S} {r : Int32}  (C : CX (WX ca a) D (tyv ca) p s m args c A prog_7_method_19_code 5 RX5) (hr : True → RX (WX ca a) D p l e rm_X_X5_nested__1 s m args below meth c A prog_7_method_19_code Q .ireturn [.int r] u) {t : fw_S}  {H : Heap} {locs : List Loc} {ls : Array Slot} (hf : b_X_X5_nested__1_156  t  = some (r, u)) (hP : va_P D classes (WX ca a t) H) (hS : va_S A s.heap H locs) (hl : lv_has ls 5 [(0, .ref (a 1))]) : W p l e rm_X_X5_nested__1 s m args below meth c H locs 0 0 Q (F0 m 156 ls []) := by
  obtain ⟨hx, hb, hml, hown, hts, hN, hK, hD, hA⟩ := id C
  have hf : (fb_b (f_X_X5_fail__1 t (st_I t 3)) fun v_2 t_1 => (some (v_2, t_1))) = some (r, u) := hf
  refine lv_aload_n hx hb dX5_nested_156 rfl (lv_at hl 0 rfl) ?_
  refine lv_aload_n hx hb dX5_nested_157 rfl (lv_at hl 0 rfl) ?_
  refine va_get (D := D) (ci := 5) (v := .int (st_I t 3)) (C := RX5) (T := TX5) (N := 10) hx hb hts inX5 hown hK hP 1 (heX_1 ca a t) rfl 7 (by decide) (hts _ kw_129) (fun _ h9 => h9) rfl dX5_nested_158 ?_
  obtain ⟨v_2, t_1, g_161, hf⟩ := fb_bs hf
  refine fw_V1 (As := [.int (st_I t 3)]) (rest := []) (n := 1) (q0 := 1) C (c_X_X5_fail__1 (l := l) (D := D) (ca := ca) (a := a) g_161) kw_712 kw_714 kw_93 kw_715 kw_25 hP hS hl (heX_1 ca a t) rfl rfl rfl (by decide) (by decide +kernel) ⟨Nat.le_of_ble_eq_true rfl, Nat.le_of_ble_eq_true rfl⟩ rfl rfl (Nat.le_of_ble_eq_true rfl) dX5_nested_161 (fun H locs hP hS => ?_)
  refine W.eq (g2 := F0 m 164 ls [.int v_2]) rfl ?_
  obtain ⟨e_164, e2_164⟩ := fb_e hf
  subst e_164; subst e2_164
  exact hr trivial _ _ _ _ hP hS dX5_nested_164
set_option maxRecDepth 20000 in
theorem w_X_X5_nested__1_92 {p : Program} {l : Launch} {e : Env} {s : State} {m : MethodId} {args : Array Value} {below : List Frame} {meth : Method} {c : Code} {A : Nat → Prop} {Q : State → Prop} {D : va_G} {ca : Nat → ClassId} {a : Nat → Nat} {u : fw_S} {r : Int32}  (C : CX (WX ca a) D (tyv ca) p s m args c A prog_7_method_19_code 5 RX5) (hr : True → RX (WX ca a) D p l e rm_X_X5_nested__1 s m args below meth c A prog_7_method_19_code Q .ireturn [.int r] u) {t : fw_S} {x1 : Int32} {x2 : Int32} {H : Heap} {locs : List Loc} {ls : Array Slot} (hf : b_X_X5_nested__1_92  t x1 x2 = some (r, u)) (hP : va_P D classes (WX ca a t) H) (hS : va_S A s.heap H locs) (hl : lv_has ls 5 [(0, .ref (a 1)), (1, .int x1), (2, .int x2)]) : W p l e rm_X_X5_nested__1 s m args below meth c H locs 0 0 Q (F0 m 92 ls []) := by
  obtain ⟨hx, hb, hml, hown, hts, hN, hK, hD, hA⟩ := id C
  have hf : (fb_b (f_X_X5_skip__1 t ((103 : Int32))) fun v_2 t_1 => (if v_2 = 0 then b_X_X5_nested__1_156 t_1 else b_X_X5_nested__1_101 t_1 x1 x2)) = some (r, u) := hf
  refine lv_aload_n hx hb dX5_nested_92 rfl (lv_at hl 0 rfl) ?_
  refine lv_bipush (v := 103) hx hb dX5_nested_93 (by decide) ?_
  obtain ⟨v_2, t_1, g_95, hf⟩ := fb_bs hf
  refine fw_V1 (As := [.int ((103 : Int32))]) (rest := []) (n := 1) (q0 := 1) C (c_X_X5_skip__1 (l := l) (D := D) (ca := ca) (a := a) g_95) kw_720 kw_722 kw_93 kw_723 kw_27 hP hS hl (heX_1 ca a t) rfl rfl rfl (by decide) (by decide +kernel) ⟨Nat.le_of_ble_eq_true rfl, Nat.le_of_ble_eq_true rfl⟩ rfl rfl (Nat.le_of_ble_eq_true rfl) dX5_nested_95 (fun H locs hP hS => ?_)
  refine W.eq (g2 := F0 m 98 ls [.int v_2]) rfl ?_
  refine lv_if_eq (tgt := 156) hx hb dX5_nested_98 (by decide) (fun h_98 => ?_) (fun h_98 => ?_)
  · have hf := fb_t h_98 hf
    exact w_X_X5_nested__1_156 C hr hf hP hS (lv_sub hl [0] rfl)
  · have hf := fb_f h_98 hf
    exact w_X_X5_nested__1_101 C hr hf hP hS (lv_sub hl [0, 1, 2] rfl)
set_option maxRecDepth 20000 in
theorem w_X_X5_nested__1_83 {p : Program} {l : Launch} {e : Env} {s : State} {m : MethodId} {args : Array Value} {below : List Frame} {meth : Method} {c : Code} {A : Nat → Prop} {Q : State → Prop} {D : va_G} {ca : Nat → ClassId} {a : Nat → Nat} {u : fw_S} {r : Int32}  (C : CX (WX ca a) D (tyv ca) p s m args c A prog_7_method_19_code 5 RX5) (hr : True → RX (WX ca a) D p l e rm_X_X5_nested__1 s m args below meth c A prog_7_method_19_code Q .ireturn [.int r] u) {t : fw_S} {x1 : Int32} {x2 : Int32} {H : Heap} {locs : List Loc} {ls : Array Slot} (hf : b_X_X5_nested__1_83  t x1 x2 = some (r, u)) (hP : va_P D classes (WX ca a t) H) (hS : va_S A s.heap H locs) (hl : lv_has ls 5 [(0, .ref (a 1)), (1, .int x1), (2, .int x2)]) : W p l e rm_X_X5_nested__1 s m args below meth c H locs 0 0 Q (F0 m 83 ls []) := by
  obtain ⟨hx, hb, hml, hown, hts, hN, hK, hD, hA⟩ := id C
  have hf : (fb_b (f_X_X5_skip__1 t ((108 : Int32))) fun v_2 t_1 => (if v_2 = 0 then b_X_X5_nested__1_92 t_1 x1 x2 else b_X_X5_nested__1_101 t_1 x1 x2)) = some (r, u) := hf
  refine lv_aload_n hx hb dX5_nested_83 rfl (lv_at hl 0 rfl) ?_
  refine lv_bipush (v := 108) hx hb dX5_nested_84 (by decide) ?_
  obtain ⟨v_2, t_1, g_86, hf⟩ := fb_bs hf
  refine fw_V1 (As := [.int ((108 : Int32))]) (rest := []) (n := 1) (q0 := 1) C (c_X_X5_skip__1 (l := l) (D := D) (ca := ca) (a := a) g_86) kw_720 kw_722 kw_93 kw_723 kw_27 hP hS hl (heX_1 ca a t) rfl rfl rfl (by decide) (by decide +kernel) ⟨Nat.le_of_ble_eq_true rfl, Nat.le_of_ble_eq_true rfl⟩ rfl rfl (Nat.le_of_ble_eq_true rfl) dX5_nested_86 (fun H locs hP hS => ?_)
  refine W.eq (g2 := F0 m 89 ls [.int v_2]) rfl ?_
  refine lv_if_ne (tgt := 101) hx hb dX5_nested_89 (by decide) (fun h_89 => ?_) (fun h_89 => ?_)
  · have hf := fb_f h_89 hf
    exact w_X_X5_nested__1_101 C hr hf hP hS (lv_sub hl [0, 1, 2] rfl)
  · have hf := fb_t h_89 hf
    exact w_X_X5_nested__1_92 C hr hf hP hS (lv_sub hl [0, 1, 2] rfl)
set_option maxRecDepth 20000 in
theorem w_X_X5_nested__1_77 {p : Program} {l : Launch} {e : Env} {s : State} {m : MethodId} {args : Array Value} {below : List Frame} {meth : Method} {c : Code} {A : Nat → Prop} {Q : State → Prop} {D : va_G} {ca : Nat → ClassId} {a : Nat → Nat} {u : fw_S} {r : Int32}  (C : CX (WX ca a) D (tyv ca) p s m args c A prog_7_method_19_code 5 RX5) (hr : True → RX (WX ca a) D p l e rm_X_X5_nested__1 s m args below meth c A prog_7_method_19_code Q .ireturn [.int r] u) {t : fw_S} {x2 : Int32} {H : Heap} {locs : List Loc} {ls : Array Slot} (hf : b_X_X5_nested__1_77  t x2 = some (r, u)) (hP : va_P D classes (WX ca a t) H) (hS : va_S A s.heap H locs) (hl : lv_has ls 5 [(0, .ref (a 1)), (2, .int x2)]) : W p l e rm_X_X5_nested__1 s m args below meth c H locs 0 0 Q (F0 m 77 ls []) := by
  obtain ⟨hx, hb, hml, hown, hts, hN, hK, hD, hA⟩ := id C
  have hf : (fb_b (f_X_X5_not__1 t x2) fun v_2 t_1 => (some (v_2, t_1))) = some (r, u) := hf
  refine lv_aload_n hx hb dX5_nested_77 rfl (lv_at hl 0 rfl) ?_
  refine lv_iload_n hx hb dX5_nested_78 rfl (lv_at hl 1 rfl) ?_
  obtain ⟨v_2, t_1, g_79, hf⟩ := fb_bs hf
  refine fw_V1 (As := [.int x2]) (rest := []) (n := 1) (q0 := 1) C (c_X_X5_not__1 (l := l) (D := D) (ca := ca) (a := a) g_79) kw_737 kw_739 kw_93 kw_740 kw_31 hP hS hl (heX_1 ca a t) rfl rfl rfl (by decide) (by decide +kernel) ⟨Nat.le_of_ble_eq_true rfl, Nat.le_of_ble_eq_true rfl⟩ rfl rfl (Nat.le_of_ble_eq_true rfl) dX5_nested_79 (fun H locs hP hS => ?_)
  refine W.eq (g2 := F0 m 82 ls [.int v_2]) rfl ?_
  obtain ⟨e_82, e2_82⟩ := fb_e hf
  subst e_82; subst e2_82
  exact hr trivial _ _ _ _ hP hS dX5_nested_82
set_option maxRecDepth 20000 in
theorem w_X_X5_nested__1_68 {p : Program} {l : Launch} {e : Env} {s : State} {m : MethodId} {args : Array Value} {below : List Frame} {meth : Method} {c : Code} {A : Nat → Prop} {Q : State → Prop} {D : va_G} {ca : Nat → ClassId} {a : Nat → Nat} {u : fw_S} {r : Int32}  (C : CX (WX ca a) D (tyv ca) p s m args c A prog_7_method_19_code 5 RX5) (hr : True → RX (WX ca a) D p l e rm_X_X5_nested__1 s m args below meth c A prog_7_method_19_code Q .ireturn [.int r] u) {t : fw_S} {x1 : Int32} {x2 : Int32} {H : Heap} {locs : List Loc} {ls : Array Slot} (hf : b_X_X5_nested__1_68  t x1 x2 = some (r, u)) (hP : va_P D classes (WX ca a t) H) (hS : va_S A s.heap H locs) (hl : lv_has ls 5 [(0, .ref (a 1)), (1, .int x1), (2, .int x2)]) : W p l e rm_X_X5_nested__1 s m args below meth c H locs 0 0 Q (F0 m 68 ls []) := by
  obtain ⟨hx, hb, hml, hown, hts, hN, hK, hD, hA⟩ := id C
  have hf : (fb_b (f_X_X5_skip__1 t ((33 : Int32))) fun v_2 t_1 => (if v_2 = 0 then b_X_X5_nested__1_83 t_1 x1 x2 else b_X_X5_nested__1_77 t_1 x2)) = some (r, u) := hf
  refine lv_aload_n hx hb dX5_nested_68 rfl (lv_at hl 0 rfl) ?_
  refine lv_bipush (v := 33) hx hb dX5_nested_69 (by decide) ?_
  obtain ⟨v_2, t_1, g_71, hf⟩ := fb_bs hf
  refine fw_V1 (As := [.int ((33 : Int32))]) (rest := []) (n := 1) (q0 := 1) C (c_X_X5_skip__1 (l := l) (D := D) (ca := ca) (a := a) g_71) kw_720 kw_722 kw_93 kw_723 kw_27 hP hS hl (heX_1 ca a t) rfl rfl rfl (by decide) (by decide +kernel) ⟨Nat.le_of_ble_eq_true rfl, Nat.le_of_ble_eq_true rfl⟩ rfl rfl (Nat.le_of_ble_eq_true rfl) dX5_nested_71 (fun H locs hP hS => ?_)
  refine W.eq (g2 := F0 m 74 ls [.int v_2]) rfl ?_
  refine lv_if_eq (tgt := 83) hx hb dX5_nested_74 (by decide) (fun h_74 => ?_) (fun h_74 => ?_)
  · have hf := fb_t h_74 hf
    exact w_X_X5_nested__1_83 C hr hf hP hS (lv_sub hl [0, 1, 2] rfl)
  · have hf := fb_f h_74 hf
    exact w_X_X5_nested__1_77 C hr hf hP hS (lv_sub hl [0, 2] rfl)
set_option maxRecDepth 20000 in
theorem w_X_X5_nested__1_55 {p : Program} {l : Launch} {e : Env} {s : State} {m : MethodId} {args : Array Value} {below : List Frame} {meth : Method} {c : Code} {A : Nat → Prop} {Q : State → Prop} {D : va_G} {ca : Nat → ClassId} {a : Nat → Nat} {u : fw_S} {r : Int32}  (C : CX (WX ca a) D (tyv ca) p s m args c A prog_7_method_19_code 5 RX5) (hr : True → RX (WX ca a) D p l e rm_X_X5_nested__1 s m args below meth c A prog_7_method_19_code Q .ireturn [.int r] u) {t : fw_S} {x2 : Int32} {H : Heap} {locs : List Loc} {ls : Array Slot} (hf : b_X_X5_nested__1_55  t x2 = some (r, u)) (hP : va_P D classes (WX ca a t) H) (hS : va_S A s.heap H locs) (hl : lv_has ls 5 [(0, .ref (a 1)), (2, .int x2)]) : W p l e rm_X_X5_nested__1 s m args below meth c H locs 0 0 Q (F0 m 55 ls []) := by
  obtain ⟨hx, hb, hml, hown, hts, hN, hK, hD, hA⟩ := id C
  have hf : (none) = some (r, u) := hf
  refine lv_aload_n hx hb dX5_nested_55 rfl (lv_at hl 0 rfl) ?_
  refine lv_iconst (v := 4) hx hb dX5_nested_56 (by decide) ?_
  refine lv_aload_n hx hb dX5_nested_57 rfl (lv_at hl 0 rfl) ?_
  refine lv_iload_n hx hb dX5_nested_58 rfl (lv_at hl 1 rfl) ?_
  cases hf
set_option maxRecDepth 20000 in
theorem w_X_X5_nested__1_46 {p : Program} {l : Launch} {e : Env} {s : State} {m : MethodId} {args : Array Value} {below : List Frame} {meth : Method} {c : Code} {A : Nat → Prop} {Q : State → Prop} {D : va_G} {ca : Nat → ClassId} {a : Nat → Nat} {u : fw_S} {r : Int32}  (C : CX (WX ca a) D (tyv ca) p s m args c A prog_7_method_19_code 5 RX5) (hr : True → RX (WX ca a) D p l e rm_X_X5_nested__1 s m args below meth c A prog_7_method_19_code Q .ireturn [.int r] u) {t : fw_S} {x1 : Int32} {x2 : Int32} {H : Heap} {locs : List Loc} {ls : Array Slot} (hf : b_X_X5_nested__1_46  t x1 x2 = some (r, u)) (hP : va_P D classes (WX ca a t) H) (hS : va_S A s.heap H locs) (hl : lv_has ls 5 [(0, .ref (a 1)), (1, .int x1), (2, .int x2)]) : W p l e rm_X_X5_nested__1 s m args below meth c H locs 0 0 Q (F0 m 46 ls []) := by
  obtain ⟨hx, hb, hml, hown, hts, hN, hK, hD, hA⟩ := id C
  have hf : (fb_b (f_X_X5_skip__1 t ((64 : Int32))) fun v_2 t_1 => (if v_2 = 0 then b_X_X5_nested__1_68 t_1 x1 x2 else b_X_X5_nested__1_55 t_1 x2)) = some (r, u) := hf
  refine lv_aload_n hx hb dX5_nested_46 rfl (lv_at hl 0 rfl) ?_
  refine lv_bipush (v := 64) hx hb dX5_nested_47 (by decide) ?_
  obtain ⟨v_2, t_1, g_49, hf⟩ := fb_bs hf
  refine fw_V1 (As := [.int ((64 : Int32))]) (rest := []) (n := 1) (q0 := 1) C (c_X_X5_skip__1 (l := l) (D := D) (ca := ca) (a := a) g_49) kw_720 kw_722 kw_93 kw_723 kw_27 hP hS hl (heX_1 ca a t) rfl rfl rfl (by decide) (by decide +kernel) ⟨Nat.le_of_ble_eq_true rfl, Nat.le_of_ble_eq_true rfl⟩ rfl rfl (Nat.le_of_ble_eq_true rfl) dX5_nested_49 (fun H locs hP hS => ?_)
  refine W.eq (g2 := F0 m 52 ls [.int v_2]) rfl ?_
  refine lv_if_eq (tgt := 68) hx hb dX5_nested_52 (by decide) (fun h_52 => ?_) (fun h_52 => ?_)
  · have hf := fb_t h_52 hf
    exact w_X_X5_nested__1_68 C hr hf hP hS (lv_sub hl [0, 1, 2] rfl)
  · have hf := fb_f h_52 hf
    exact w_X_X5_nested__1_55 C hr hf hP hS (lv_sub hl [0, 2] rfl)
set_option maxRecDepth 20000 in
theorem w_X_X5_nested__1_33 {p : Program} {l : Launch} {e : Env} {s : State} {m : MethodId} {args : Array Value} {below : List Frame} {meth : Method} {c : Code} {A : Nat → Prop} {Q : State → Prop} {D : va_G} {ca : Nat → ClassId} {a : Nat → Nat} {u : fw_S} {r : Int32}  (C : CX (WX ca a) D (tyv ca) p s m args c A prog_7_method_19_code 5 RX5) (hr : True → RX (WX ca a) D p l e rm_X_X5_nested__1 s m args below meth c A prog_7_method_19_code Q .ireturn [.int r] u) {t : fw_S} {x2 : Int32} {H : Heap} {locs : List Loc} {ls : Array Slot} (hf : b_X_X5_nested__1_33  t x2 = some (r, u)) (hP : va_P D classes (WX ca a t) H) (hS : va_S A s.heap H locs) (hl : lv_has ls 5 [(0, .ref (a 1)), (2, .int x2)]) : W p l e rm_X_X5_nested__1 s m args below meth c H locs 0 0 Q (F0 m 33 ls []) := by
  obtain ⟨hx, hb, hml, hown, hts, hN, hK, hD, hA⟩ := id C
  have hf : (none) = some (r, u) := hf
  refine lv_aload_n hx hb dX5_nested_33 rfl (lv_at hl 0 rfl) ?_
  refine lv_iconst (v := 3) hx hb dX5_nested_34 (by decide) ?_
  refine lv_aload_n hx hb dX5_nested_35 rfl (lv_at hl 0 rfl) ?_
  refine lv_iload_n hx hb dX5_nested_36 rfl (lv_at hl 1 rfl) ?_
  cases hf
set_option maxRecDepth 20000 in
theorem w_X_X5_nested__1_24 {p : Program} {l : Launch} {e : Env} {s : State} {m : MethodId} {args : Array Value} {below : List Frame} {meth : Method} {c : Code} {A : Nat → Prop} {Q : State → Prop} {D : va_G} {ca : Nat → ClassId} {a : Nat → Nat} {u : fw_S} {r : Int32}  (C : CX (WX ca a) D (tyv ca) p s m args c A prog_7_method_19_code 5 RX5) (hr : True → RX (WX ca a) D p l e rm_X_X5_nested__1 s m args below meth c A prog_7_method_19_code Q .ireturn [.int r] u) {t : fw_S} {x1 : Int32} {x2 : Int32} {H : Heap} {locs : List Loc} {ls : Array Slot} (hf : b_X_X5_nested__1_24  t x1 x2 = some (r, u)) (hP : va_P D classes (WX ca a t) H) (hS : va_S A s.heap H locs) (hl : lv_has ls 5 [(0, .ref (a 1)), (1, .int x1), (2, .int x2)]) : W p l e rm_X_X5_nested__1 s m args below meth c H locs 0 0 Q (F0 m 24 ls []) := by
  obtain ⟨hx, hb, hml, hown, hts, hN, hK, hD, hA⟩ := id C
  have hf : (fb_b (f_X_X5_skip__1 t ((45 : Int32))) fun v_2 t_1 => (if v_2 = 0 then b_X_X5_nested__1_46 t_1 x1 x2 else b_X_X5_nested__1_33 t_1 x2)) = some (r, u) := hf
  refine lv_aload_n hx hb dX5_nested_24 rfl (lv_at hl 0 rfl) ?_
  refine lv_bipush (v := 45) hx hb dX5_nested_25 (by decide) ?_
  obtain ⟨v_2, t_1, g_27, hf⟩ := fb_bs hf
  refine fw_V1 (As := [.int ((45 : Int32))]) (rest := []) (n := 1) (q0 := 1) C (c_X_X5_skip__1 (l := l) (D := D) (ca := ca) (a := a) g_27) kw_720 kw_722 kw_93 kw_723 kw_27 hP hS hl (heX_1 ca a t) rfl rfl rfl (by decide) (by decide +kernel) ⟨Nat.le_of_ble_eq_true rfl, Nat.le_of_ble_eq_true rfl⟩ rfl rfl (Nat.le_of_ble_eq_true rfl) dX5_nested_27 (fun H locs hP hS => ?_)
  refine W.eq (g2 := F0 m 30 ls [.int v_2]) rfl ?_
  refine lv_if_eq (tgt := 46) hx hb dX5_nested_30 (by decide) (fun h_30 => ?_) (fun h_30 => ?_)
  · have hf := fb_t h_30 hf
    exact w_X_X5_nested__1_46 C hr hf hP hS (lv_sub hl [0, 1, 2] rfl)
  · have hf := fb_f h_30 hf
    exact w_X_X5_nested__1_33 C hr hf hP hS (lv_sub hl [0, 2] rfl)
set_option maxRecDepth 20000 in
theorem w_X_X5_nested__1_9 {p : Program} {l : Launch} {e : Env} {s : State} {m : MethodId} {args : Array Value} {below : List Frame} {meth : Method} {c : Code} {A : Nat → Prop} {Q : State → Prop} {D : va_G} {ca : Nat → ClassId} {a : Nat → Nat} {u : fw_S} {r : Int32}  (C : CX (WX ca a) D (tyv ca) p s m args c A prog_7_method_19_code 5 RX5) (hr : True → RX (WX ca a) D p l e rm_X_X5_nested__1 s m args below meth c A prog_7_method_19_code Q .ireturn [.int r] u) {t : fw_S} {x2 : Int32} {H : Heap} {locs : List Loc} {ls : Array Slot} (hf : b_X_X5_nested__1_9  t x2 = some (r, u)) (hP : va_P D classes (WX ca a t) H) (hS : va_S A s.heap H locs) (hl : lv_has ls 5 [(0, .ref (a 1)), (2, .int x2)]) : W p l e rm_X_X5_nested__1 s m args below meth c H locs 0 0 Q (F0 m 9 ls []) := by
  obtain ⟨hx, hb, hml, hown, hts, hN, hK, hD, hA⟩ := id C
  have hf : (none) = some (r, u) := hf
  refine lv_aload_n hx hb dX5_nested_9 rfl (lv_at hl 0 rfl) ?_
  refine lv_iload_n hx hb dX5_nested_10 rfl (lv_at hl 1 rfl) ?_
  refine lv_iconst (v := 0) hx hb dX5_nested_11 (by decide) ?_
  cases hf
set_option maxRecDepth 20000 in
theorem w_X_X5_nested__1_0 {p : Program} {l : Launch} {e : Env} {s : State} {m : MethodId} {args : Array Value} {below : List Frame} {meth : Method} {c : Code} {A : Nat → Prop} {Q : State → Prop} {D : va_G} {ca : Nat → ClassId} {a : Nat → Nat} {u : fw_S} {r : Int32}  (C : CX (WX ca a) D (tyv ca) p s m args c A prog_7_method_19_code 5 RX5) (hr : True → RX (WX ca a) D p l e rm_X_X5_nested__1 s m args below meth c A prog_7_method_19_code Q .ireturn [.int r] u) {t : fw_S} {x1 : Int32} {x2 : Int32} {H : Heap} {locs : List Loc} {ls : Array Slot} (hf : b_X_X5_nested__1_0  t x1 x2 = some (r, u)) (hP : va_P D classes (WX ca a t) H) (hS : va_S A s.heap H locs) (hl : lv_has ls 5 [(0, .ref (a 1)), (1, .int x1), (2, .int x2)]) : W p l e rm_X_X5_nested__1 s m args below meth c H locs 0 0 Q (F0 m 0 ls []) := by
  obtain ⟨hx, hb, hml, hown, hts, hN, hK, hD, hA⟩ := id C
  have hf : (fb_b (f_X_X5_skip__1 t ((40 : Int32))) fun v_2 t_1 => (if v_2 = 0 then b_X_X5_nested__1_24 t_1 x1 x2 else b_X_X5_nested__1_9 t_1 x2)) = some (r, u) := hf
  refine lv_aload_n hx hb dX5_nested_0 rfl (lv_at hl 0 rfl) ?_
  refine lv_bipush (v := 40) hx hb dX5_nested_1 (by decide) ?_
  obtain ⟨v_2, t_1, g_3, hf⟩ := fb_bs hf
  refine fw_V1 (As := [.int ((40 : Int32))]) (rest := []) (n := 1) (q0 := 1) C (c_X_X5_skip__1 (l := l) (D := D) (ca := ca) (a := a) g_3) kw_720 kw_722 kw_93 kw_723 kw_27 hP hS hl (heX_1 ca a t) rfl rfl rfl (by decide) (by decide +kernel) ⟨Nat.le_of_ble_eq_true rfl, Nat.le_of_ble_eq_true rfl⟩ rfl rfl (Nat.le_of_ble_eq_true rfl) dX5_nested_3 (fun H locs hP hS => ?_)
  refine W.eq (g2 := F0 m 6 ls [.int v_2]) rfl ?_
  refine lv_if_eq (tgt := 24) hx hb dX5_nested_6 (by decide) (fun h_6 => ?_) (fun h_6 => ?_)
  · have hf := fb_t h_6 hf
    exact w_X_X5_nested__1_24 C hr hf hP hS (lv_sub hl [0, 1, 2] rfl)
  · have hf := fb_f h_6 hf
    exact w_X_X5_nested__1_9 C hr hf hP hS (lv_sub hl [0, 2] rfl)
set_option maxRecDepth 20000 in
theorem c_X_X5_nested__1 {l : Launch} {D : va_G} {ca : Nat → ClassId} {a : Nat → Nat} {t : fw_S} {x1 : Int32} {x2 : Int32} {u : fw_S} {r : Int32} (hf : f_X_X5_nested__1 t x1 x2 = some (r, u)) : MC (WX ca a) D (tyv ca) l yX5_nested (.code yX5_nested prog_7_method_19_code 5 (some .int) :: lw_gd) rm_X_X5_nested__1 [.ref (a 1), .int x1, .int x2] (some (.int r)) t u := by
  refine fw_met (okX ca a) (by decide +kernel) rfl rfl (Nat.le_of_ble_eq_true rfl) ?_
  intro p e s m args below meth c A Q ls C hr hk hP hS hl hQ
  exact w_X_X5_nested__1_0 C (fun _ => fw_ri C hr hk hQ) hf hP hS (lv_sub hl [0, 1, 2] rfl)
/-! ReactiveSheet.Parser.factor(I)I ['x.parser'] -/
abbrev rm_X_X5_factor__1 : Room := { frames := 4, cells := 0, slots := 0, locals := 86 }
def b_X_X5_factor__1_96  (t : fw_S) (x1 : Int32) (x2 : Int32) : Option (Int32 × fw_S) := fb_b (f_X_X5_nested__1 t x2 (x1 + ((1 : Int32)))) fun v_2 t_1 => (some (v_2, t_1))
def b_X_X5_factor__1_87  (t : fw_S)  : Option (Int32 × fw_S) := fb_b (f_X_X5_fail__1 t (st_I t 3)) fun v_2 t_1 => (some (v_2, t_1))
def b_X_X5_factor__1_82  (t : fw_S) (x1 : Int32) (x2 : Int32) : Option (Int32 × fw_S) := if x1 < ((3 : Int32)) then b_X_X5_factor__1_96 t x1 x2 else b_X_X5_factor__1_87 t
def b_X_X5_factor__1_57  (t : fw_S)  : Option (Int32 × fw_S) := fb_b (f_X_X5_cellNumber__1 t ((0 : Int32))) fun v_2 t_1 => (fb_v (f_X_X5_expect__1 t_1 ((45 : Int32))) fun t_3 => (fb_b (f_X_X5_cellNumber__1 t_3 v_2) fun v_5 t_4 => (fb_b (f_X_X5_node__1 t_4 ((2 : Int32)) v_2 v_5 ((0 : Int32))) fun v_7 t_6 => (some (v_7, t_6)))))
def b_X_X5_factor__1_48  (t : fw_S) (x1 : Int32) (x2 : Int32) : Option (Int32 × fw_S) := fb_b (f_X_X5_skip__1 t ((115 : Int32))) fun v_2 t_1 => (if v_2 = 0 then b_X_X5_factor__1_82 t_1 x1 x2 else b_X_X5_factor__1_57 t_1)
def b_X_X5_factor__1_35  (t : fw_S)  : Option (Int32 × fw_S) := fb_b (f_X_X5_cellNumber__1 t ((0 : Int32))) fun v_2 t_1 => (fb_b (f_X_X5_node__1 t_1 ((1 : Int32)) v_2 ((0 : Int32)) ((0 : Int32))) fun v_4 t_3 => (some (v_4, t_3)))
def b_X_X5_factor__1_26  (t : fw_S) (x1 : Int32) (x2 : Int32) : Option (Int32 × fw_S) := fb_b (f_X_X5_skip__1 t ((35 : Int32))) fun v_2 t_1 => (if v_2 = 0 then b_X_X5_factor__1_48 t_1 x1 x2 else b_X_X5_factor__1_35 t_1)
def b_X_X5_factor__1_12  (t : fw_S)  : Option (Int32 × fw_S) := fb_b (f_X_X5_number__1 t ((9 : Int32))) fun v_2 t_1 => (fb_b (f_X_X5_node__1 t_1 ((0 : Int32)) v_2 ((0 : Int32)) ((0 : Int32))) fun v_4 t_3 => (some (v_4, t_3)))
def b_X_X5_factor__1_0  (t : fw_S) (x1 : Int32) : Option (Int32 × fw_S) := fb_b (f_X_X5_here__1 t) fun v_2 t_1 => (fb_b (f_X_X5_isFigure t_1 v_2) fun v_4 t_3 => (if v_4 = 0 then b_X_X5_factor__1_26 t_3 x1 v_2 else b_X_X5_factor__1_12 t_3))
def f_X_X5_factor__1 (t : fw_S) (x1 : Int32) : Option (Int32 × fw_S) := b_X_X5_factor__1_0 t x1
set_option maxRecDepth 20000 in
theorem w_X_X5_factor__1_96 {p : Program} {l : Launch} {e : Env} {s : State} {m : MethodId} {args : Array Value} {below : List Frame} {meth : Method} {c : Code} {A : Nat → Prop} {Q : State → Prop} {D : va_G} {ca : Nat → ClassId} {a : Nat → Nat} {u : fw_S} {r : Int32}  (C : CX (WX ca a) D (tyv ca) p s m args c A prog_7_method_18_code 4 RX5) (hr : True → RX (WX ca a) D p l e rm_X_X5_factor__1 s m args below meth c A prog_7_method_18_code Q .ireturn [.int r] u) {t : fw_S} {x1 : Int32} {x2 : Int32} {H : Heap} {locs : List Loc} {ls : Array Slot} (hf : b_X_X5_factor__1_96  t x1 x2 = some (r, u)) (hP : va_P D classes (WX ca a t) H) (hS : va_S A s.heap H locs) (hl : lv_has ls 4 [(0, .ref (a 1)), (1, .int x1), (2, .int x2)]) : W p l e rm_X_X5_factor__1 s m args below meth c H locs 0 0 Q (F0 m 96 ls []) := by
  obtain ⟨hx, hb, hml, hown, hts, hN, hK, hD, hA⟩ := id C
  have hf : (fb_b (f_X_X5_nested__1 t x2 (x1 + ((1 : Int32)))) fun v_2 t_1 => (some (v_2, t_1))) = some (r, u) := hf
  refine lv_aload_n hx hb dX5_factor_96 rfl (lv_at hl 0 rfl) ?_
  refine lv_iload_n hx hb dX5_factor_97 rfl (lv_at hl 2 rfl) ?_
  refine lv_iload_n hx hb dX5_factor_98 rfl (lv_at hl 1 rfl) ?_
  refine lv_iconst (v := 1) hx hb dX5_factor_99 (by decide) ?_
  refine lv_iadd hx hb dX5_factor_100 ?_
  obtain ⟨v_2, t_1, g_101, hf⟩ := fb_bs hf
  refine fw_V1 (As := [.int x2, .int (x1 + ((1 : Int32)))]) (rest := []) (n := 2) (q0 := 1) C (c_X_X5_nested__1 (l := l) (D := D) (ca := ca) (a := a) g_101) kw_733 kw_735 kw_93 kw_736 kw_30 hP hS hl (heX_1 ca a t) rfl rfl rfl (by decide) (by decide +kernel) ⟨Nat.le_of_ble_eq_true rfl, Nat.le_of_ble_eq_true rfl⟩ rfl rfl (Nat.le_of_ble_eq_true rfl) dX5_factor_101 (fun H locs hP hS => ?_)
  refine W.eq (g2 := F0 m 104 ls [.int v_2]) rfl ?_
  obtain ⟨e_104, e2_104⟩ := fb_e hf
  subst e_104; subst e2_104
  exact hr trivial _ _ _ _ hP hS dX5_factor_104
set_option maxRecDepth 20000 in
theorem w_X_X5_factor__1_87 {p : Program} {l : Launch} {e : Env} {s : State} {m : MethodId} {args : Array Value} {below : List Frame} {meth : Method} {c : Code} {A : Nat → Prop} {Q : State → Prop} {D : va_G} {ca : Nat → ClassId} {a : Nat → Nat} {u : fw_S} {r : Int32}  (C : CX (WX ca a) D (tyv ca) p s m args c A prog_7_method_18_code 4 RX5) (hr : True → RX (WX ca a) D p l e rm_X_X5_factor__1 s m args below meth c A prog_7_method_18_code Q .ireturn [.int r] u) {t : fw_S}  {H : Heap} {locs : List Loc} {ls : Array Slot} (hf : b_X_X5_factor__1_87  t  = some (r, u)) (hP : va_P D classes (WX ca a t) H) (hS : va_S A s.heap H locs) (hl : lv_has ls 4 [(0, .ref (a 1))]) : W p l e rm_X_X5_factor__1 s m args below meth c H locs 0 0 Q (F0 m 87 ls []) := by
  obtain ⟨hx, hb, hml, hown, hts, hN, hK, hD, hA⟩ := id C
  have hf : (fb_b (f_X_X5_fail__1 t (st_I t 3)) fun v_2 t_1 => (some (v_2, t_1))) = some (r, u) := hf
  refine lv_aload_n hx hb dX5_factor_87 rfl (lv_at hl 0 rfl) ?_
  refine lv_aload_n hx hb dX5_factor_88 rfl (lv_at hl 0 rfl) ?_
  refine va_get (D := D) (ci := 5) (v := .int (st_I t 3)) (C := RX5) (T := TX5) (N := 10) hx hb hts inX5 hown hK hP 1 (heX_1 ca a t) rfl 7 (by decide) (hts _ kw_129) (fun _ h9 => h9) rfl dX5_factor_89 ?_
  obtain ⟨v_2, t_1, g_92, hf⟩ := fb_bs hf
  refine fw_V1 (As := [.int (st_I t 3)]) (rest := []) (n := 1) (q0 := 1) C (c_X_X5_fail__1 (l := l) (D := D) (ca := ca) (a := a) g_92) kw_712 kw_714 kw_93 kw_715 kw_25 hP hS hl (heX_1 ca a t) rfl rfl rfl (by decide) (by decide +kernel) ⟨Nat.le_of_ble_eq_true rfl, Nat.le_of_ble_eq_true rfl⟩ rfl rfl (Nat.le_of_ble_eq_true rfl) dX5_factor_92 (fun H locs hP hS => ?_)
  refine W.eq (g2 := F0 m 95 ls [.int v_2]) rfl ?_
  obtain ⟨e_95, e2_95⟩ := fb_e hf
  subst e_95; subst e2_95
  exact hr trivial _ _ _ _ hP hS dX5_factor_95
set_option maxRecDepth 20000 in
theorem w_X_X5_factor__1_82 {p : Program} {l : Launch} {e : Env} {s : State} {m : MethodId} {args : Array Value} {below : List Frame} {meth : Method} {c : Code} {A : Nat → Prop} {Q : State → Prop} {D : va_G} {ca : Nat → ClassId} {a : Nat → Nat} {u : fw_S} {r : Int32}  (C : CX (WX ca a) D (tyv ca) p s m args c A prog_7_method_18_code 4 RX5) (hr : True → RX (WX ca a) D p l e rm_X_X5_factor__1 s m args below meth c A prog_7_method_18_code Q .ireturn [.int r] u) {t : fw_S} {x1 : Int32} {x2 : Int32} {H : Heap} {locs : List Loc} {ls : Array Slot} (hf : b_X_X5_factor__1_82  t x1 x2 = some (r, u)) (hP : va_P D classes (WX ca a t) H) (hS : va_S A s.heap H locs) (hl : lv_has ls 4 [(0, .ref (a 1)), (1, .int x1), (2, .int x2)]) : W p l e rm_X_X5_factor__1 s m args below meth c H locs 0 0 Q (F0 m 82 ls []) := by
  obtain ⟨hx, hb, hml, hown, hts, hN, hK, hD, hA⟩ := id C
  have hf : (if x1 < ((3 : Int32)) then b_X_X5_factor__1_96 t x1 x2 else b_X_X5_factor__1_87 t) = some (r, u) := hf
  refine lv_iload_n hx hb dX5_factor_82 rfl (lv_at hl 1 rfl) ?_
  refine lv_iconst (v := 3) hx hb dX5_factor_83 (by decide) ?_
  refine lv_icmp_lt (tgt := 96) hx hb dX5_factor_84 (by decide) (fun h_84 => ?_) (fun h_84 => ?_)
  · have hf := fb_t h_84 hf
    exact w_X_X5_factor__1_96 C hr hf hP hS (lv_sub hl [0, 1, 2] rfl)
  · have hf := fb_f h_84 hf
    exact w_X_X5_factor__1_87 C hr hf hP hS (lv_sub hl [0] rfl)
set_option maxRecDepth 20000 in
theorem w_X_X5_factor__1_57 {p : Program} {l : Launch} {e : Env} {s : State} {m : MethodId} {args : Array Value} {below : List Frame} {meth : Method} {c : Code} {A : Nat → Prop} {Q : State → Prop} {D : va_G} {ca : Nat → ClassId} {a : Nat → Nat} {u : fw_S} {r : Int32}  (C : CX (WX ca a) D (tyv ca) p s m args c A prog_7_method_18_code 4 RX5) (hr : True → RX (WX ca a) D p l e rm_X_X5_factor__1 s m args below meth c A prog_7_method_18_code Q .ireturn [.int r] u) {t : fw_S}  {H : Heap} {locs : List Loc} {ls : Array Slot} (hf : b_X_X5_factor__1_57  t  = some (r, u)) (hP : va_P D classes (WX ca a t) H) (hS : va_S A s.heap H locs) (hl : lv_has ls 4 [(0, .ref (a 1))]) : W p l e rm_X_X5_factor__1 s m args below meth c H locs 0 0 Q (F0 m 57 ls []) := by
  obtain ⟨hx, hb, hml, hown, hts, hN, hK, hD, hA⟩ := id C
  have hf : (fb_b (f_X_X5_cellNumber__1 t ((0 : Int32))) fun v_2 t_1 => (fb_v (f_X_X5_expect__1 t_1 ((45 : Int32))) fun t_3 => (fb_b (f_X_X5_cellNumber__1 t_3 v_2) fun v_5 t_4 => (fb_b (f_X_X5_node__1 t_4 ((2 : Int32)) v_2 v_5 ((0 : Int32))) fun v_7 t_6 => (some (v_7, t_6)))))) = some (r, u) := hf
  refine lv_aload_n hx hb dX5_factor_57 rfl (lv_at hl 0 rfl) ?_
  refine lv_iconst (v := 0) hx hb dX5_factor_58 (by decide) ?_
  obtain ⟨v_2, t_1, g_59, hf⟩ := fb_bs hf
  refine fw_V1 (As := [.int ((0 : Int32))]) (rest := []) (n := 1) (q0 := 1) C (c_X_X5_cellNumber__1 (l := l) (D := D) (ca := ca) (a := a) g_59) kw_724 kw_726 kw_93 kw_727 kw_28 hP hS hl (heX_1 ca a t) rfl rfl rfl (by decide) (by decide +kernel) ⟨Nat.le_of_ble_eq_true rfl, Nat.le_of_ble_eq_true rfl⟩ rfl rfl (Nat.le_of_ble_eq_true rfl) dX5_factor_59 (fun H locs hP hS => ?_)
  refine W.eq (g2 := F0 m 62 ls [.int v_2]) rfl ?_
  refine lv_istore_n (lv' := [(3, .int v_2), (0, .ref (a 1))]) hx hb dX5_factor_62 rfl hl (by decide) rfl (fun ls hl => ?_)
  refine lv_aload_n hx hb dX5_factor_63 rfl (lv_at hl 1 rfl) ?_
  refine lv_bipush (v := 45) hx hb dX5_factor_64 (by decide) ?_
  obtain ⟨t_3, g_66, hf⟩ := fb_vs hf
  refine fw_V1 (As := [.int ((45 : Int32))]) (rest := []) (n := 1) (q0 := 1) C (c_X_X5_expect__1 (l := l) (D := D) (ca := ca) (a := a) g_66) kw_729 kw_731 kw_93 kw_732 kw_29 hP hS hl (heX_1 ca a t_1) rfl rfl rfl (by decide) (by decide +kernel) ⟨Nat.le_of_ble_eq_true rfl, Nat.le_of_ble_eq_true rfl⟩ rfl rfl (Nat.le_of_ble_eq_true rfl) dX5_factor_66 (fun H locs hP hS => ?_)
  refine W.eq (g2 := F0 m 69 ls []) rfl ?_
  refine lv_aload_n hx hb dX5_factor_69 rfl (lv_at hl 1 rfl) ?_
  refine lv_iconst (v := 2) hx hb dX5_factor_70 (by decide) ?_
  refine lv_iload_n hx hb dX5_factor_71 rfl (lv_at hl 0 rfl) ?_
  refine lv_aload_n hx hb dX5_factor_72 rfl (lv_at hl 1 rfl) ?_
  refine lv_iload_n hx hb dX5_factor_73 rfl (lv_at hl 0 rfl) ?_
  obtain ⟨v_5, t_4, g_74, hf⟩ := fb_bs hf
  refine fw_V1 (As := [.int v_2]) (rest := [.int v_2, .int ((2 : Int32)), .ref (a 1)]) (n := 1) (q0 := 1) C (c_X_X5_cellNumber__1 (l := l) (D := D) (ca := ca) (a := a) g_74) kw_724 kw_726 kw_93 kw_727 kw_28 hP hS hl (heX_1 ca a t_3) rfl rfl rfl (by decide) (by decide +kernel) ⟨Nat.le_of_ble_eq_true rfl, Nat.le_of_ble_eq_true rfl⟩ rfl rfl (Nat.le_of_ble_eq_true rfl) dX5_factor_74 (fun H locs hP hS => ?_)
  refine W.eq (g2 := F0 m 77 ls [.int v_5, .int v_2, .int ((2 : Int32)), .ref (a 1)]) rfl ?_
  refine lv_iconst (v := 0) hx hb dX5_factor_77 (by decide) ?_
  obtain ⟨v_7, t_6, g_78, hf⟩ := fb_bs hf
  refine fw_V1 (As := [.int ((2 : Int32)), .int v_2, .int v_5, .int ((0 : Int32))]) (rest := []) (n := 4) (q0 := 1) C (c_X_X5_node__1 (l := l) (D := D) (ca := ca) (a := a) g_78) kw_716 kw_718 kw_93 kw_719 kw_26 hP hS hl (heX_1 ca a t_4) rfl rfl rfl (by decide) (by decide +kernel) ⟨Nat.le_of_ble_eq_true rfl, Nat.le_of_ble_eq_true rfl⟩ rfl rfl (Nat.le_of_ble_eq_true rfl) dX5_factor_78 (fun H locs hP hS => ?_)
  refine W.eq (g2 := F0 m 81 ls [.int v_7]) rfl ?_
  obtain ⟨e_81, e2_81⟩ := fb_e hf
  subst e_81; subst e2_81
  exact hr trivial _ _ _ _ hP hS dX5_factor_81
set_option maxRecDepth 20000 in
theorem w_X_X5_factor__1_48 {p : Program} {l : Launch} {e : Env} {s : State} {m : MethodId} {args : Array Value} {below : List Frame} {meth : Method} {c : Code} {A : Nat → Prop} {Q : State → Prop} {D : va_G} {ca : Nat → ClassId} {a : Nat → Nat} {u : fw_S} {r : Int32}  (C : CX (WX ca a) D (tyv ca) p s m args c A prog_7_method_18_code 4 RX5) (hr : True → RX (WX ca a) D p l e rm_X_X5_factor__1 s m args below meth c A prog_7_method_18_code Q .ireturn [.int r] u) {t : fw_S} {x1 : Int32} {x2 : Int32} {H : Heap} {locs : List Loc} {ls : Array Slot} (hf : b_X_X5_factor__1_48  t x1 x2 = some (r, u)) (hP : va_P D classes (WX ca a t) H) (hS : va_S A s.heap H locs) (hl : lv_has ls 4 [(0, .ref (a 1)), (1, .int x1), (2, .int x2)]) : W p l e rm_X_X5_factor__1 s m args below meth c H locs 0 0 Q (F0 m 48 ls []) := by
  obtain ⟨hx, hb, hml, hown, hts, hN, hK, hD, hA⟩ := id C
  have hf : (fb_b (f_X_X5_skip__1 t ((115 : Int32))) fun v_2 t_1 => (if v_2 = 0 then b_X_X5_factor__1_82 t_1 x1 x2 else b_X_X5_factor__1_57 t_1)) = some (r, u) := hf
  refine lv_aload_n hx hb dX5_factor_48 rfl (lv_at hl 0 rfl) ?_
  refine lv_bipush (v := 115) hx hb dX5_factor_49 (by decide) ?_
  obtain ⟨v_2, t_1, g_51, hf⟩ := fb_bs hf
  refine fw_V1 (As := [.int ((115 : Int32))]) (rest := []) (n := 1) (q0 := 1) C (c_X_X5_skip__1 (l := l) (D := D) (ca := ca) (a := a) g_51) kw_720 kw_722 kw_93 kw_723 kw_27 hP hS hl (heX_1 ca a t) rfl rfl rfl (by decide) (by decide +kernel) ⟨Nat.le_of_ble_eq_true rfl, Nat.le_of_ble_eq_true rfl⟩ rfl rfl (Nat.le_of_ble_eq_true rfl) dX5_factor_51 (fun H locs hP hS => ?_)
  refine W.eq (g2 := F0 m 54 ls [.int v_2]) rfl ?_
  refine lv_if_eq (tgt := 82) hx hb dX5_factor_54 (by decide) (fun h_54 => ?_) (fun h_54 => ?_)
  · have hf := fb_t h_54 hf
    exact w_X_X5_factor__1_82 C hr hf hP hS (lv_sub hl [0, 1, 2] rfl)
  · have hf := fb_f h_54 hf
    exact w_X_X5_factor__1_57 C hr hf hP hS (lv_sub hl [0] rfl)
set_option maxRecDepth 20000 in
theorem w_X_X5_factor__1_35 {p : Program} {l : Launch} {e : Env} {s : State} {m : MethodId} {args : Array Value} {below : List Frame} {meth : Method} {c : Code} {A : Nat → Prop} {Q : State → Prop} {D : va_G} {ca : Nat → ClassId} {a : Nat → Nat} {u : fw_S} {r : Int32}  (C : CX (WX ca a) D (tyv ca) p s m args c A prog_7_method_18_code 4 RX5) (hr : True → RX (WX ca a) D p l e rm_X_X5_factor__1 s m args below meth c A prog_7_method_18_code Q .ireturn [.int r] u) {t : fw_S}  {H : Heap} {locs : List Loc} {ls : Array Slot} (hf : b_X_X5_factor__1_35  t  = some (r, u)) (hP : va_P D classes (WX ca a t) H) (hS : va_S A s.heap H locs) (hl : lv_has ls 4 [(0, .ref (a 1))]) : W p l e rm_X_X5_factor__1 s m args below meth c H locs 0 0 Q (F0 m 35 ls []) := by
  obtain ⟨hx, hb, hml, hown, hts, hN, hK, hD, hA⟩ := id C
  have hf : (fb_b (f_X_X5_cellNumber__1 t ((0 : Int32))) fun v_2 t_1 => (fb_b (f_X_X5_node__1 t_1 ((1 : Int32)) v_2 ((0 : Int32)) ((0 : Int32))) fun v_4 t_3 => (some (v_4, t_3)))) = some (r, u) := hf
  refine lv_aload_n hx hb dX5_factor_35 rfl (lv_at hl 0 rfl) ?_
  refine lv_iconst (v := 1) hx hb dX5_factor_36 (by decide) ?_
  refine lv_aload_n hx hb dX5_factor_37 rfl (lv_at hl 0 rfl) ?_
  refine lv_iconst (v := 0) hx hb dX5_factor_38 (by decide) ?_
  obtain ⟨v_2, t_1, g_39, hf⟩ := fb_bs hf
  refine fw_V1 (As := [.int ((0 : Int32))]) (rest := [.int ((1 : Int32)), .ref (a 1)]) (n := 1) (q0 := 1) C (c_X_X5_cellNumber__1 (l := l) (D := D) (ca := ca) (a := a) g_39) kw_724 kw_726 kw_93 kw_727 kw_28 hP hS hl (heX_1 ca a t) rfl rfl rfl (by decide) (by decide +kernel) ⟨Nat.le_of_ble_eq_true rfl, Nat.le_of_ble_eq_true rfl⟩ rfl rfl (Nat.le_of_ble_eq_true rfl) dX5_factor_39 (fun H locs hP hS => ?_)
  refine W.eq (g2 := F0 m 42 ls [.int v_2, .int ((1 : Int32)), .ref (a 1)]) rfl ?_
  refine lv_iconst (v := 0) hx hb dX5_factor_42 (by decide) ?_
  refine lv_iconst (v := 0) hx hb dX5_factor_43 (by decide) ?_
  obtain ⟨v_4, t_3, g_44, hf⟩ := fb_bs hf
  refine fw_V1 (As := [.int ((1 : Int32)), .int v_2, .int ((0 : Int32)), .int ((0 : Int32))]) (rest := []) (n := 4) (q0 := 1) C (c_X_X5_node__1 (l := l) (D := D) (ca := ca) (a := a) g_44) kw_716 kw_718 kw_93 kw_719 kw_26 hP hS hl (heX_1 ca a t_1) rfl rfl rfl (by decide) (by decide +kernel) ⟨Nat.le_of_ble_eq_true rfl, Nat.le_of_ble_eq_true rfl⟩ rfl rfl (Nat.le_of_ble_eq_true rfl) dX5_factor_44 (fun H locs hP hS => ?_)
  refine W.eq (g2 := F0 m 47 ls [.int v_4]) rfl ?_
  obtain ⟨e_47, e2_47⟩ := fb_e hf
  subst e_47; subst e2_47
  exact hr trivial _ _ _ _ hP hS dX5_factor_47
set_option maxRecDepth 20000 in
theorem w_X_X5_factor__1_26 {p : Program} {l : Launch} {e : Env} {s : State} {m : MethodId} {args : Array Value} {below : List Frame} {meth : Method} {c : Code} {A : Nat → Prop} {Q : State → Prop} {D : va_G} {ca : Nat → ClassId} {a : Nat → Nat} {u : fw_S} {r : Int32}  (C : CX (WX ca a) D (tyv ca) p s m args c A prog_7_method_18_code 4 RX5) (hr : True → RX (WX ca a) D p l e rm_X_X5_factor__1 s m args below meth c A prog_7_method_18_code Q .ireturn [.int r] u) {t : fw_S} {x1 : Int32} {x2 : Int32} {H : Heap} {locs : List Loc} {ls : Array Slot} (hf : b_X_X5_factor__1_26  t x1 x2 = some (r, u)) (hP : va_P D classes (WX ca a t) H) (hS : va_S A s.heap H locs) (hl : lv_has ls 4 [(0, .ref (a 1)), (1, .int x1), (2, .int x2)]) : W p l e rm_X_X5_factor__1 s m args below meth c H locs 0 0 Q (F0 m 26 ls []) := by
  obtain ⟨hx, hb, hml, hown, hts, hN, hK, hD, hA⟩ := id C
  have hf : (fb_b (f_X_X5_skip__1 t ((35 : Int32))) fun v_2 t_1 => (if v_2 = 0 then b_X_X5_factor__1_48 t_1 x1 x2 else b_X_X5_factor__1_35 t_1)) = some (r, u) := hf
  refine lv_aload_n hx hb dX5_factor_26 rfl (lv_at hl 0 rfl) ?_
  refine lv_bipush (v := 35) hx hb dX5_factor_27 (by decide) ?_
  obtain ⟨v_2, t_1, g_29, hf⟩ := fb_bs hf
  refine fw_V1 (As := [.int ((35 : Int32))]) (rest := []) (n := 1) (q0 := 1) C (c_X_X5_skip__1 (l := l) (D := D) (ca := ca) (a := a) g_29) kw_720 kw_722 kw_93 kw_723 kw_27 hP hS hl (heX_1 ca a t) rfl rfl rfl (by decide) (by decide +kernel) ⟨Nat.le_of_ble_eq_true rfl, Nat.le_of_ble_eq_true rfl⟩ rfl rfl (Nat.le_of_ble_eq_true rfl) dX5_factor_29 (fun H locs hP hS => ?_)
  refine W.eq (g2 := F0 m 32 ls [.int v_2]) rfl ?_
  refine lv_if_eq (tgt := 48) hx hb dX5_factor_32 (by decide) (fun h_32 => ?_) (fun h_32 => ?_)
  · have hf := fb_t h_32 hf
    exact w_X_X5_factor__1_48 C hr hf hP hS (lv_sub hl [0, 1, 2] rfl)
  · have hf := fb_f h_32 hf
    exact w_X_X5_factor__1_35 C hr hf hP hS (lv_sub hl [0] rfl)
set_option maxRecDepth 20000 in
theorem w_X_X5_factor__1_12 {p : Program} {l : Launch} {e : Env} {s : State} {m : MethodId} {args : Array Value} {below : List Frame} {meth : Method} {c : Code} {A : Nat → Prop} {Q : State → Prop} {D : va_G} {ca : Nat → ClassId} {a : Nat → Nat} {u : fw_S} {r : Int32}  (C : CX (WX ca a) D (tyv ca) p s m args c A prog_7_method_18_code 4 RX5) (hr : True → RX (WX ca a) D p l e rm_X_X5_factor__1 s m args below meth c A prog_7_method_18_code Q .ireturn [.int r] u) {t : fw_S}  {H : Heap} {locs : List Loc} {ls : Array Slot} (hf : b_X_X5_factor__1_12  t  = some (r, u)) (hP : va_P D classes (WX ca a t) H) (hS : va_S A s.heap H locs) (hl : lv_has ls 4 [(0, .ref (a 1))]) : W p l e rm_X_X5_factor__1 s m args below meth c H locs 0 0 Q (F0 m 12 ls []) := by
  obtain ⟨hx, hb, hml, hown, hts, hN, hK, hD, hA⟩ := id C
  have hf : (fb_b (f_X_X5_number__1 t ((9 : Int32))) fun v_2 t_1 => (fb_b (f_X_X5_node__1 t_1 ((0 : Int32)) v_2 ((0 : Int32)) ((0 : Int32))) fun v_4 t_3 => (some (v_4, t_3)))) = some (r, u) := hf
  refine lv_aload_n hx hb dX5_factor_12 rfl (lv_at hl 0 rfl) ?_
  refine lv_iconst (v := 0) hx hb dX5_factor_13 (by decide) ?_
  refine lv_aload_n hx hb dX5_factor_14 rfl (lv_at hl 0 rfl) ?_
  refine lv_bipush (v := 9) hx hb dX5_factor_15 (by decide) ?_
  obtain ⟨v_2, t_1, g_17, hf⟩ := fb_bs hf
  refine fw_V1 (As := [.int ((9 : Int32))]) (rest := [.int ((0 : Int32)), .ref (a 1)]) (n := 1) (q0 := 1) C (c_X_X5_number__1 (l := l) (D := D) (ca := ca) (a := a) g_17) kw_708 kw_710 kw_93 kw_711 kw_24 hP hS hl (heX_1 ca a t) rfl rfl rfl (by decide) (by decide +kernel) ⟨Nat.le_of_ble_eq_true rfl, Nat.le_of_ble_eq_true rfl⟩ rfl rfl (Nat.le_of_ble_eq_true rfl) dX5_factor_17 (fun H locs hP hS => ?_)
  refine W.eq (g2 := F0 m 20 ls [.int v_2, .int ((0 : Int32)), .ref (a 1)]) rfl ?_
  refine lv_iconst (v := 0) hx hb dX5_factor_20 (by decide) ?_
  refine lv_iconst (v := 0) hx hb dX5_factor_21 (by decide) ?_
  obtain ⟨v_4, t_3, g_22, hf⟩ := fb_bs hf
  refine fw_V1 (As := [.int ((0 : Int32)), .int v_2, .int ((0 : Int32)), .int ((0 : Int32))]) (rest := []) (n := 4) (q0 := 1) C (c_X_X5_node__1 (l := l) (D := D) (ca := ca) (a := a) g_22) kw_716 kw_718 kw_93 kw_719 kw_26 hP hS hl (heX_1 ca a t_1) rfl rfl rfl (by decide) (by decide +kernel) ⟨Nat.le_of_ble_eq_true rfl, Nat.le_of_ble_eq_true rfl⟩ rfl rfl (Nat.le_of_ble_eq_true rfl) dX5_factor_22 (fun H locs hP hS => ?_)
  refine W.eq (g2 := F0 m 25 ls [.int v_4]) rfl ?_
  obtain ⟨e_25, e2_25⟩ := fb_e hf
  subst e_25; subst e2_25
  exact hr trivial _ _ _ _ hP hS dX5_factor_25
set_option maxRecDepth 20000 in
theorem w_X_X5_factor__1_0 {p : Program} {l : Launch} {e : Env} {s : State} {m : MethodId} {args : Array Value} {below : List Frame} {meth : Method} {c : Code} {A : Nat → Prop} {Q : State → Prop} {D : va_G} {ca : Nat → ClassId} {a : Nat → Nat} {u : fw_S} {r : Int32}  (C : CX (WX ca a) D (tyv ca) p s m args c A prog_7_method_18_code 4 RX5) (hr : True → RX (WX ca a) D p l e rm_X_X5_factor__1 s m args below meth c A prog_7_method_18_code Q .ireturn [.int r] u) {t : fw_S} {x1 : Int32} {H : Heap} {locs : List Loc} {ls : Array Slot} (hf : b_X_X5_factor__1_0  t x1 = some (r, u)) (hP : va_P D classes (WX ca a t) H) (hS : va_S A s.heap H locs) (hl : lv_has ls 4 [(0, .ref (a 1)), (1, .int x1)]) : W p l e rm_X_X5_factor__1 s m args below meth c H locs 0 0 Q (F0 m 0 ls []) := by
  obtain ⟨hx, hb, hml, hown, hts, hN, hK, hD, hA⟩ := id C
  have hf : (fb_b (f_X_X5_here__1 t) fun v_2 t_1 => (fb_b (f_X_X5_isFigure t_1 v_2) fun v_4 t_3 => (if v_4 = 0 then b_X_X5_factor__1_26 t_3 x1 v_2 else b_X_X5_factor__1_12 t_3))) = some (r, u) := hf
  refine lv_aload_n hx hb dX5_factor_0 rfl (lv_at hl 0 rfl) ?_
  obtain ⟨v_2, t_1, g_1, hf⟩ := fb_bs hf
  refine fw_V1 (As := []) (rest := []) (n := 0) (q0 := 1) C (c_X_X5_here__1 (l := l) (D := D) (ca := ca) (a := a) g_1) kw_701 kw_703 kw_93 kw_704 kw_23 hP hS hl (heX_1 ca a t) rfl rfl rfl (by decide) (by decide +kernel) ⟨Nat.le_of_ble_eq_true rfl, Nat.le_of_ble_eq_true rfl⟩ rfl rfl (Nat.le_of_ble_eq_true rfl) dX5_factor_1 (fun H locs hP hS => ?_)
  refine W.eq (g2 := F0 m 4 ls [.int v_2]) rfl ?_
  refine lv_istore_n (lv' := [(2, .int v_2), (0, .ref (a 1)), (1, .int x1)]) hx hb dX5_factor_4 rfl hl (by decide) rfl (fun ls hl => ?_)
  refine lv_iload_n hx hb dX5_factor_5 rfl (lv_at hl 0 rfl) ?_
  obtain ⟨v_4, t_3, g_6, hf⟩ := fb_bs hf
  refine fw_S1 (As := [.int v_2]) (rest := []) (n := 1) C (c_X_X5_isFigure (l := l) (D := D) (ca := ca) (a := a) g_6) kw_705 kw_706 kw_93 kw_707 hP hS hl rfl rfl (by decide) (by decide +kernel) ⟨Nat.le_of_ble_eq_true rfl, Nat.le_of_ble_eq_true rfl⟩ rfl rfl (Nat.le_of_ble_eq_true rfl) dX5_factor_6 (fun H locs hP hS => ?_)
  refine W.eq (g2 := F0 m 9 ls [.int v_4]) rfl ?_
  refine lv_if_eq (tgt := 26) hx hb dX5_factor_9 (by decide) (fun h_9 => ?_) (fun h_9 => ?_)
  · have hf := fb_t h_9 hf
    exact w_X_X5_factor__1_26 C hr hf hP hS (lv_sub hl [1, 2, 0] rfl)
  · have hf := fb_f h_9 hf
    exact w_X_X5_factor__1_12 C hr hf hP hS (lv_sub hl [1] rfl)
set_option maxRecDepth 20000 in
theorem c_X_X5_factor__1 {l : Launch} {D : va_G} {ca : Nat → ClassId} {a : Nat → Nat} {t : fw_S} {x1 : Int32} {u : fw_S} {r : Int32} (hf : f_X_X5_factor__1 t x1 = some (r, u)) : MC (WX ca a) D (tyv ca) l yX5_factor (.code yX5_factor prog_7_method_18_code 4 (some .int) :: lw_gd) rm_X_X5_factor__1 [.ref (a 1), .int x1] (some (.int r)) t u := by
  refine fw_met (okX ca a) (by decide +kernel) rfl rfl (Nat.le_of_ble_eq_true rfl) ?_
  intro p e s m args below meth c A Q ls C hr hk hP hS hl hQ
  exact w_X_X5_factor__1_0 C (fun _ => fw_ri C hr hk hQ) hf hP hS (lv_sub hl [0, 1] rfl)
/-! ReactiveSheet.Parser.product(I)I ['x.parser'] -/
abbrev rm_X_X5_product__1 : Room := { frames := 5, cells := 0, slots := 0, locals := 109 }
def b_X_X5_product__1_80  (t : fw_S) (x2 : Int32) : Option (Int32 × fw_S) := some (x2, t)
def b_X_X5_product__1_48 (k8 : fw_S → Int32 → Int32 → Int32 → Option (Int32 × fw_S)) (t : fw_S) (x1 : Int32) (x2 : Int32) (x3 : Int32) (z0 : Int32) : Option (Int32 × fw_S) := fb_l (up_I t 3 ((st_I t 3) + ((1 : Int32)))) fun t_1 => (fb_b (f_X_X5_factor__1 t_1 x1) fun v_3 t_2 => (fb_b (f_X_X5_node__1 t_2 z0 x2 v_3 ((0 : Int32))) fun v_5 t_4 => (k8 t_4 x1 v_5 (x3 + 1))))
def b_X_X5_product__1_46 (k8 : fw_S → Int32 → Int32 → Int32 → Option (Int32 × fw_S)) (t : fw_S) (x1 : Int32) (x2 : Int32) (x3 : Int32) : Option (Int32 × fw_S) := b_X_X5_product__1_48 k8 t x1 x2 x3 ((9 : Int32))
def b_X_X5_product__1_41 (k8 : fw_S → Int32 → Int32 → Int32 → Option (Int32 × fw_S)) (t : fw_S) (x1 : Int32) (x2 : Int32) (x3 : Int32) : Option (Int32 × fw_S) := b_X_X5_product__1_48 k8 t x1 x2 x3 ((8 : Int32))
def b_X_X5_product__1_32 (k8 : fw_S → Int32 → Int32 → Int32 → Option (Int32 × fw_S)) (t : fw_S) (x1 : Int32) (x2 : Int32) (x3 : Int32) : Option (Int32 × fw_S) := fb_b (f_X_X5_here__1 t) fun v_2 t_1 => (if v_2 = ((42 : Int32)) then b_X_X5_product__1_41 k8 t_1 x1 x2 x3 else b_X_X5_product__1_46 k8 t_1 x1 x2 x3)
def b_X_X5_product__1_23 (k8 : fw_S → Int32 → Int32 → Int32 → Option (Int32 × fw_S)) (t : fw_S) (x1 : Int32) (x2 : Int32) (x3 : Int32) : Option (Int32 × fw_S) := fb_b (f_X_X5_here__1 t) fun v_2 t_1 => (if v_2 = ((47 : Int32)) then b_X_X5_product__1_32 k8 t_1 x1 x2 x3 else b_X_X5_product__1_80 t_1 x2)
def b_X_X5_product__1_14 (k8 : fw_S → Int32 → Int32 → Int32 → Option (Int32 × fw_S)) (t : fw_S) (x1 : Int32) (x2 : Int32) (x3 : Int32) : Option (Int32 × fw_S) := fb_b (f_X_X5_here__1 t) fun v_2 t_1 => (if v_2 = ((42 : Int32)) then b_X_X5_product__1_32 k8 t_1 x1 x2 x3 else b_X_X5_product__1_23 k8 t_1 x1 x2 x3)
def b_X_X5_product__1_8  : Nat → (fw_S → Int32 → Int32 → Int32 → Option (Int32 × fw_S))
  | 0 => fun _ _ _ _ => none
  | n + 1 => fun t x1 x2 x3 => if ((120 : Int32)) ≤ x3 then b_X_X5_product__1_80 t x2 else b_X_X5_product__1_14 (b_X_X5_product__1_8 n) t x1 x2 x3
def b_X_X5_product__1_0  (t : fw_S) (x1 : Int32) : Option (Int32 × fw_S) := fb_b (f_X_X5_factor__1 t x1) fun v_2 t_1 => (b_X_X5_product__1_8 3000 t_1 x1 v_2 ((0 : Int32)))
def f_X_X5_product__1 (t : fw_S) (x1 : Int32) : Option (Int32 × fw_S) := b_X_X5_product__1_0 t x1
set_option maxRecDepth 20000 in
theorem w_X_X5_product__1_80 {p : Program} {l : Launch} {e : Env} {s : State} {m : MethodId} {args : Array Value} {below : List Frame} {meth : Method} {c : Code} {A : Nat → Prop} {Q : State → Prop} {D : va_G} {ca : Nat → ClassId} {a : Nat → Nat} {u : fw_S} {r : Int32}  (C : CX (WX ca a) D (tyv ca) p s m args c A prog_7_method_17_code 5 RX5) (hr : True → RX (WX ca a) D p l e rm_X_X5_product__1 s m args below meth c A prog_7_method_17_code Q .ireturn [.int r] u) {t : fw_S} {x2 : Int32} {H : Heap} {locs : List Loc} {ls : Array Slot} (hf : b_X_X5_product__1_80  t x2 = some (r, u)) (hP : va_P D classes (WX ca a t) H) (hS : va_S A s.heap H locs) (hl : lv_has ls 5 [(2, .int x2)]) : W p l e rm_X_X5_product__1 s m args below meth c H locs 0 0 Q (F0 m 80 ls []) := by
  obtain ⟨hx, hb, hml, hown, hts, hN, hK, hD, hA⟩ := id C
  have hf : (some (x2, t)) = some (r, u) := hf
  refine lv_iload_n hx hb dX5_product_80 rfl (lv_at hl 0 rfl) ?_
  obtain ⟨e_81, e2_81⟩ := fb_e hf
  subst e_81; subst e2_81
  exact hr trivial _ _ _ _ hP hS dX5_product_81
set_option maxRecDepth 20000 in
theorem w_X_X5_product__1_48 {p : Program} {l : Launch} {e : Env} {s : State} {m : MethodId} {args : Array Value} {below : List Frame} {meth : Method} {c : Code} {A : Nat → Prop} {Q : State → Prop} {D : va_G} {ca : Nat → ClassId} {a : Nat → Nat} {u : fw_S} {r : Int32} {k8 : fw_S → Int32 → Int32 → Int32 → Option (Int32 × fw_S)} (C : CX (WX ca a) D (tyv ca) p s m args c A prog_7_method_17_code 5 RX5) (hr : True → RX (WX ca a) D p l e rm_X_X5_product__1 s m args below meth c A prog_7_method_17_code Q .ireturn [.int r] u) (hk8 : ∀ (t : fw_S) (x1 : Int32) (x2 : Int32) (x3 : Int32) (H : Heap) (locs : List Loc) (ls : Array Slot), k8 t x1 x2 x3 = some (r, u) → va_P D classes (WX ca a t) H → va_S A s.heap H locs → lv_has ls 5 [(0, .ref (a 1)), (1, .int x1), (2, .int x2), (3, .int x3)] → W p l e rm_X_X5_product__1 s m args below meth c H locs 0 0 Q (F0 m 8 ls [])) {t : fw_S} {x1 : Int32} {x2 : Int32} {x3 : Int32} {z0 : Int32} {H : Heap} {locs : List Loc} {ls : Array Slot} (hf : b_X_X5_product__1_48 k8 t x1 x2 x3 z0 = some (r, u)) (hP : va_P D classes (WX ca a t) H) (hS : va_S A s.heap H locs) (hl : lv_has ls 5 [(0, .ref (a 1)), (1, .int x1), (2, .int x2), (3, .int x3)]) : W p l e rm_X_X5_product__1 s m args below meth c H locs 0 0 Q (F0 m 48 ls [.int z0]) := by
  obtain ⟨hx, hb, hml, hown, hts, hN, hK, hD, hA⟩ := id C
  have hf : (fb_l (up_I t 3 ((st_I t 3) + ((1 : Int32)))) fun t_1 => (fb_b (f_X_X5_factor__1 t_1 x1) fun v_3 t_2 => (fb_b (f_X_X5_node__1 t_2 z0 x2 v_3 ((0 : Int32))) fun v_5 t_4 => (k8 t_4 x1 v_5 (x3 + 1))))) = some (r, u) := hf
  refine lv_istore (lv' := [(4, .int z0), (0, .ref (a 1)), (1, .int x1), (2, .int x2), (3, .int x3)]) hx hb dX5_product_48 hl (by decide) rfl (fun ls hl => ?_)
  refine lv_aload_n hx hb dX5_product_50 rfl (lv_at hl 1 rfl) ?_
  refine lv_dup hx hb dX5_product_51 rfl ?_
  refine va_get (D := D) (ci := 5) (v := .int (st_I t 3)) (C := RX5) (T := TX5) (N := 10) hx hb hts inX5 hown hK hP 1 (heX_1 ca a t) rfl 7 (by decide) (hts _ kw_129) (fun _ h9 => h9) rfl dX5_product_52 ?_
  refine lv_iconst (v := 1) hx hb dX5_product_55 (by decide) ?_
  refine lv_iadd hx hb dX5_product_56 ?_
  refine va_put (D := D) (ci := 5) (v := .int ((st_I t 3) + ((1 : Int32)))) (ty := .int) (C := RX5) (T := TX5) (N := 10) hx hb hts inX5 tyX5 tyX5_ok nmX5 hown hK hP (hD t) hS 1 (heX_1 ca a t) rfl 7 (by decide) (hts _ kw_129) (fun _ h9 => h9) rfl (by decide +kernel) rfl rfl (Nat.le_of_ble_eq_true rfl) dX5_product_57 (fun H locs hP _ hS => ?_)
  rw [suX_1_7] at hP
  obtain ⟨t_1, e_57, hf⟩ := fb_ls hf
  rw [← e_57] at hP
  refine lv_aload_n hx hb dX5_product_60 rfl (lv_at hl 1 rfl) ?_
  refine lv_iload hx hb dX5_product_61 (lv_at hl 0 rfl) ?_
  refine lv_iload_n hx hb dX5_product_63 rfl (lv_at hl 3 rfl) ?_
  refine lv_aload_n hx hb dX5_product_64 rfl (lv_at hl 1 rfl) ?_
  refine lv_iload_n hx hb dX5_product_65 rfl (lv_at hl 2 rfl) ?_
  obtain ⟨v_3, t_2, g_66, hf⟩ := fb_bs hf
  refine fw_V1 (As := [.int x1]) (rest := [.int x2, .int z0, .ref (a 1)]) (n := 1) (q0 := 1) C (c_X_X5_factor__1 (l := l) (D := D) (ca := ca) (a := a) g_66) kw_697 kw_699 kw_93 kw_700 kw_22 hP hS hl (heX_1 ca a t_1) rfl rfl rfl (by decide) (by decide +kernel) ⟨Nat.le_of_ble_eq_true rfl, Nat.le_of_ble_eq_true rfl⟩ rfl rfl (Nat.le_of_ble_eq_true rfl) dX5_product_66 (fun H locs hP hS => ?_)
  refine W.eq (g2 := F0 m 69 ls [.int v_3, .int x2, .int z0, .ref (a 1)]) rfl ?_
  refine lv_iconst (v := 0) hx hb dX5_product_69 (by decide) ?_
  obtain ⟨v_5, t_4, g_70, hf⟩ := fb_bs hf
  refine fw_V1 (As := [.int z0, .int x2, .int v_3, .int ((0 : Int32))]) (rest := []) (n := 4) (q0 := 1) C (c_X_X5_node__1 (l := l) (D := D) (ca := ca) (a := a) g_70) kw_716 kw_718 kw_93 kw_719 kw_26 hP hS hl (heX_1 ca a t_2) rfl rfl rfl (by decide) (by decide +kernel) ⟨Nat.le_of_ble_eq_true rfl, Nat.le_of_ble_eq_true rfl⟩ rfl rfl (Nat.le_of_ble_eq_true rfl) dX5_product_70 (fun H locs hP hS => ?_)
  refine W.eq (g2 := F0 m 73 ls [.int v_5]) rfl ?_
  refine lv_istore_n (lv' := [(2, .int v_5), (4, .int z0), (0, .ref (a 1)), (1, .int x1), (3, .int x3)]) hx hb dX5_product_73 rfl hl (by decide) rfl (fun ls hl => ?_)
  refine lv_iinc (v := x3 + 1) (lv' := [(3, .int (x3 + 1)), (2, .int v_5), (4, .int z0), (0, .ref (a 1)), (1, .int x1)]) hx hb dX5_product_74 hl (k := 4) rfl rfl (by decide) rfl (fun ls hl => ?_)
  refine lv_goto (tgt := 8) hx hb dX5_product_77 (by decide) ?_
  exact hk8 t_4 x1 v_5 (x3 + 1) _ _ _ hf hP hS (lv_sub hl [3, 4, 1, 0] rfl)
set_option maxRecDepth 20000 in
theorem w_X_X5_product__1_46 {p : Program} {l : Launch} {e : Env} {s : State} {m : MethodId} {args : Array Value} {below : List Frame} {meth : Method} {c : Code} {A : Nat → Prop} {Q : State → Prop} {D : va_G} {ca : Nat → ClassId} {a : Nat → Nat} {u : fw_S} {r : Int32} {k8 : fw_S → Int32 → Int32 → Int32 → Option (Int32 × fw_S)} (C : CX (WX ca a) D (tyv ca) p s m args c A prog_7_method_17_code 5 RX5) (hr : True → RX (WX ca a) D p l e rm_X_X5_product__1 s m args below meth c A prog_7_method_17_code Q .ireturn [.int r] u) (hk8 : ∀ (t : fw_S) (x1 : Int32) (x2 : Int32) (x3 : Int32) (H : Heap) (locs : List Loc) (ls : Array Slot), k8 t x1 x2 x3 = some (r, u) → va_P D classes (WX ca a t) H → va_S A s.heap H locs → lv_has ls 5 [(0, .ref (a 1)), (1, .int x1), (2, .int x2), (3, .int x3)] → W p l e rm_X_X5_product__1 s m args below meth c H locs 0 0 Q (F0 m 8 ls [])) {t : fw_S} {x1 : Int32} {x2 : Int32} {x3 : Int32} {H : Heap} {locs : List Loc} {ls : Array Slot} (hf : b_X_X5_product__1_46 k8 t x1 x2 x3 = some (r, u)) (hP : va_P D classes (WX ca a t) H) (hS : va_S A s.heap H locs) (hl : lv_has ls 5 [(0, .ref (a 1)), (1, .int x1), (2, .int x2), (3, .int x3)]) : W p l e rm_X_X5_product__1 s m args below meth c H locs 0 0 Q (F0 m 46 ls []) := by
  obtain ⟨hx, hb, hml, hown, hts, hN, hK, hD, hA⟩ := id C
  have hf : (b_X_X5_product__1_48 k8 t x1 x2 x3 ((9 : Int32))) = some (r, u) := hf
  refine lv_bipush (v := 9) hx hb dX5_product_46 (by decide) ?_
  exact w_X_X5_product__1_48 C hr hk8 hf hP hS (lv_sub hl [0, 1, 2, 3] rfl)
set_option maxRecDepth 20000 in
theorem w_X_X5_product__1_41 {p : Program} {l : Launch} {e : Env} {s : State} {m : MethodId} {args : Array Value} {below : List Frame} {meth : Method} {c : Code} {A : Nat → Prop} {Q : State → Prop} {D : va_G} {ca : Nat → ClassId} {a : Nat → Nat} {u : fw_S} {r : Int32} {k8 : fw_S → Int32 → Int32 → Int32 → Option (Int32 × fw_S)} (C : CX (WX ca a) D (tyv ca) p s m args c A prog_7_method_17_code 5 RX5) (hr : True → RX (WX ca a) D p l e rm_X_X5_product__1 s m args below meth c A prog_7_method_17_code Q .ireturn [.int r] u) (hk8 : ∀ (t : fw_S) (x1 : Int32) (x2 : Int32) (x3 : Int32) (H : Heap) (locs : List Loc) (ls : Array Slot), k8 t x1 x2 x3 = some (r, u) → va_P D classes (WX ca a t) H → va_S A s.heap H locs → lv_has ls 5 [(0, .ref (a 1)), (1, .int x1), (2, .int x2), (3, .int x3)] → W p l e rm_X_X5_product__1 s m args below meth c H locs 0 0 Q (F0 m 8 ls [])) {t : fw_S} {x1 : Int32} {x2 : Int32} {x3 : Int32} {H : Heap} {locs : List Loc} {ls : Array Slot} (hf : b_X_X5_product__1_41 k8 t x1 x2 x3 = some (r, u)) (hP : va_P D classes (WX ca a t) H) (hS : va_S A s.heap H locs) (hl : lv_has ls 5 [(0, .ref (a 1)), (1, .int x1), (2, .int x2), (3, .int x3)]) : W p l e rm_X_X5_product__1 s m args below meth c H locs 0 0 Q (F0 m 41 ls []) := by
  obtain ⟨hx, hb, hml, hown, hts, hN, hK, hD, hA⟩ := id C
  have hf : (b_X_X5_product__1_48 k8 t x1 x2 x3 ((8 : Int32))) = some (r, u) := hf
  refine lv_bipush (v := 8) hx hb dX5_product_41 (by decide) ?_
  refine lv_goto (tgt := 48) hx hb dX5_product_43 (by decide) ?_
  exact w_X_X5_product__1_48 C hr hk8 hf hP hS (lv_sub hl [0, 1, 2, 3] rfl)
set_option maxRecDepth 20000 in
theorem w_X_X5_product__1_32 {p : Program} {l : Launch} {e : Env} {s : State} {m : MethodId} {args : Array Value} {below : List Frame} {meth : Method} {c : Code} {A : Nat → Prop} {Q : State → Prop} {D : va_G} {ca : Nat → ClassId} {a : Nat → Nat} {u : fw_S} {r : Int32} {k8 : fw_S → Int32 → Int32 → Int32 → Option (Int32 × fw_S)} (C : CX (WX ca a) D (tyv ca) p s m args c A prog_7_method_17_code 5 RX5) (hr : True → RX (WX ca a) D p l e rm_X_X5_product__1 s m args below meth c A prog_7_method_17_code Q .ireturn [.int r] u) (hk8 : ∀ (t : fw_S) (x1 : Int32) (x2 : Int32) (x3 : Int32) (H : Heap) (locs : List Loc) (ls : Array Slot), k8 t x1 x2 x3 = some (r, u) → va_P D classes (WX ca a t) H → va_S A s.heap H locs → lv_has ls 5 [(0, .ref (a 1)), (1, .int x1), (2, .int x2), (3, .int x3)] → W p l e rm_X_X5_product__1 s m args below meth c H locs 0 0 Q (F0 m 8 ls [])) {t : fw_S} {x1 : Int32} {x2 : Int32} {x3 : Int32} {H : Heap} {locs : List Loc} {ls : Array Slot} (hf : b_X_X5_product__1_32 k8 t x1 x2 x3 = some (r, u)) (hP : va_P D classes (WX ca a t) H) (hS : va_S A s.heap H locs) (hl : lv_has ls 5 [(0, .ref (a 1)), (1, .int x1), (2, .int x2), (3, .int x3)]) : W p l e rm_X_X5_product__1 s m args below meth c H locs 0 0 Q (F0 m 32 ls []) := by
  obtain ⟨hx, hb, hml, hown, hts, hN, hK, hD, hA⟩ := id C
  have hf : (fb_b (f_X_X5_here__1 t) fun v_2 t_1 => (if v_2 = ((42 : Int32)) then b_X_X5_product__1_41 k8 t_1 x1 x2 x3 else b_X_X5_product__1_46 k8 t_1 x1 x2 x3)) = some (r, u) := hf
  refine lv_aload_n hx hb dX5_product_32 rfl (lv_at hl 0 rfl) ?_
  obtain ⟨v_2, t_1, g_33, hf⟩ := fb_bs hf
  refine fw_V1 (As := []) (rest := []) (n := 0) (q0 := 1) C (c_X_X5_here__1 (l := l) (D := D) (ca := ca) (a := a) g_33) kw_701 kw_703 kw_93 kw_704 kw_23 hP hS hl (heX_1 ca a t) rfl rfl rfl (by decide) (by decide +kernel) ⟨Nat.le_of_ble_eq_true rfl, Nat.le_of_ble_eq_true rfl⟩ rfl rfl (Nat.le_of_ble_eq_true rfl) dX5_product_33 (fun H locs hP hS => ?_)
  refine W.eq (g2 := F0 m 36 ls [.int v_2]) rfl ?_
  refine lv_bipush (v := 42) hx hb dX5_product_36 (by decide) ?_
  refine lv_icmp_ne (tgt := 46) hx hb dX5_product_38 (by decide) (fun h_38 => ?_) (fun h_38 => ?_)
  · have hf := fb_f h_38 hf
    exact w_X_X5_product__1_46 C hr hk8 hf hP hS (lv_sub hl [0, 1, 2, 3] rfl)
  · have hf := fb_t h_38 hf
    exact w_X_X5_product__1_41 C hr hk8 hf hP hS (lv_sub hl [0, 1, 2, 3] rfl)
set_option maxRecDepth 20000 in
theorem w_X_X5_product__1_23 {p : Program} {l : Launch} {e : Env} {s : State} {m : MethodId} {args : Array Value} {below : List Frame} {meth : Method} {c : Code} {A : Nat → Prop} {Q : State → Prop} {D : va_G} {ca : Nat → ClassId} {a : Nat → Nat} {u : fw_S} {r : Int32} {k8 : fw_S → Int32 → Int32 → Int32 → Option (Int32 × fw_S)} (C : CX (WX ca a) D (tyv ca) p s m args c A prog_7_method_17_code 5 RX5) (hr : True → RX (WX ca a) D p l e rm_X_X5_product__1 s m args below meth c A prog_7_method_17_code Q .ireturn [.int r] u) (hk8 : ∀ (t : fw_S) (x1 : Int32) (x2 : Int32) (x3 : Int32) (H : Heap) (locs : List Loc) (ls : Array Slot), k8 t x1 x2 x3 = some (r, u) → va_P D classes (WX ca a t) H → va_S A s.heap H locs → lv_has ls 5 [(0, .ref (a 1)), (1, .int x1), (2, .int x2), (3, .int x3)] → W p l e rm_X_X5_product__1 s m args below meth c H locs 0 0 Q (F0 m 8 ls [])) {t : fw_S} {x1 : Int32} {x2 : Int32} {x3 : Int32} {H : Heap} {locs : List Loc} {ls : Array Slot} (hf : b_X_X5_product__1_23 k8 t x1 x2 x3 = some (r, u)) (hP : va_P D classes (WX ca a t) H) (hS : va_S A s.heap H locs) (hl : lv_has ls 5 [(0, .ref (a 1)), (1, .int x1), (2, .int x2), (3, .int x3)]) : W p l e rm_X_X5_product__1 s m args below meth c H locs 0 0 Q (F0 m 23 ls []) := by
  obtain ⟨hx, hb, hml, hown, hts, hN, hK, hD, hA⟩ := id C
  have hf : (fb_b (f_X_X5_here__1 t) fun v_2 t_1 => (if v_2 = ((47 : Int32)) then b_X_X5_product__1_32 k8 t_1 x1 x2 x3 else b_X_X5_product__1_80 t_1 x2)) = some (r, u) := hf
  refine lv_aload_n hx hb dX5_product_23 rfl (lv_at hl 0 rfl) ?_
  obtain ⟨v_2, t_1, g_24, hf⟩ := fb_bs hf
  refine fw_V1 (As := []) (rest := []) (n := 0) (q0 := 1) C (c_X_X5_here__1 (l := l) (D := D) (ca := ca) (a := a) g_24) kw_701 kw_703 kw_93 kw_704 kw_23 hP hS hl (heX_1 ca a t) rfl rfl rfl (by decide) (by decide +kernel) ⟨Nat.le_of_ble_eq_true rfl, Nat.le_of_ble_eq_true rfl⟩ rfl rfl (Nat.le_of_ble_eq_true rfl) dX5_product_24 (fun H locs hP hS => ?_)
  refine W.eq (g2 := F0 m 27 ls [.int v_2]) rfl ?_
  refine lv_bipush (v := 47) hx hb dX5_product_27 (by decide) ?_
  refine lv_icmp_ne (tgt := 80) hx hb dX5_product_29 (by decide) (fun h_29 => ?_) (fun h_29 => ?_)
  · have hf := fb_f h_29 hf
    exact w_X_X5_product__1_80 C hr hf hP hS (lv_sub hl [2] rfl)
  · have hf := fb_t h_29 hf
    exact w_X_X5_product__1_32 C hr hk8 hf hP hS (lv_sub hl [0, 1, 2, 3] rfl)
set_option maxRecDepth 20000 in
theorem w_X_X5_product__1_14 {p : Program} {l : Launch} {e : Env} {s : State} {m : MethodId} {args : Array Value} {below : List Frame} {meth : Method} {c : Code} {A : Nat → Prop} {Q : State → Prop} {D : va_G} {ca : Nat → ClassId} {a : Nat → Nat} {u : fw_S} {r : Int32} {k8 : fw_S → Int32 → Int32 → Int32 → Option (Int32 × fw_S)} (C : CX (WX ca a) D (tyv ca) p s m args c A prog_7_method_17_code 5 RX5) (hr : True → RX (WX ca a) D p l e rm_X_X5_product__1 s m args below meth c A prog_7_method_17_code Q .ireturn [.int r] u) (hk8 : ∀ (t : fw_S) (x1 : Int32) (x2 : Int32) (x3 : Int32) (H : Heap) (locs : List Loc) (ls : Array Slot), k8 t x1 x2 x3 = some (r, u) → va_P D classes (WX ca a t) H → va_S A s.heap H locs → lv_has ls 5 [(0, .ref (a 1)), (1, .int x1), (2, .int x2), (3, .int x3)] → W p l e rm_X_X5_product__1 s m args below meth c H locs 0 0 Q (F0 m 8 ls [])) {t : fw_S} {x1 : Int32} {x2 : Int32} {x3 : Int32} {H : Heap} {locs : List Loc} {ls : Array Slot} (hf : b_X_X5_product__1_14 k8 t x1 x2 x3 = some (r, u)) (hP : va_P D classes (WX ca a t) H) (hS : va_S A s.heap H locs) (hl : lv_has ls 5 [(0, .ref (a 1)), (1, .int x1), (2, .int x2), (3, .int x3)]) : W p l e rm_X_X5_product__1 s m args below meth c H locs 0 0 Q (F0 m 14 ls []) := by
  obtain ⟨hx, hb, hml, hown, hts, hN, hK, hD, hA⟩ := id C
  have hf : (fb_b (f_X_X5_here__1 t) fun v_2 t_1 => (if v_2 = ((42 : Int32)) then b_X_X5_product__1_32 k8 t_1 x1 x2 x3 else b_X_X5_product__1_23 k8 t_1 x1 x2 x3)) = some (r, u) := hf
  refine lv_aload_n hx hb dX5_product_14 rfl (lv_at hl 0 rfl) ?_
  obtain ⟨v_2, t_1, g_15, hf⟩ := fb_bs hf
  refine fw_V1 (As := []) (rest := []) (n := 0) (q0 := 1) C (c_X_X5_here__1 (l := l) (D := D) (ca := ca) (a := a) g_15) kw_701 kw_703 kw_93 kw_704 kw_23 hP hS hl (heX_1 ca a t) rfl rfl rfl (by decide) (by decide +kernel) ⟨Nat.le_of_ble_eq_true rfl, Nat.le_of_ble_eq_true rfl⟩ rfl rfl (Nat.le_of_ble_eq_true rfl) dX5_product_15 (fun H locs hP hS => ?_)
  refine W.eq (g2 := F0 m 18 ls [.int v_2]) rfl ?_
  refine lv_bipush (v := 42) hx hb dX5_product_18 (by decide) ?_
  refine lv_icmp_eq (tgt := 32) hx hb dX5_product_20 (by decide) (fun h_20 => ?_) (fun h_20 => ?_)
  · have hf := fb_t h_20 hf
    exact w_X_X5_product__1_32 C hr hk8 hf hP hS (lv_sub hl [0, 1, 2, 3] rfl)
  · have hf := fb_f h_20 hf
    exact w_X_X5_product__1_23 C hr hk8 hf hP hS (lv_sub hl [0, 1, 2, 3] rfl)
set_option maxRecDepth 20000 in
theorem w_X_X5_product__1_8 {p : Program} {l : Launch} {e : Env} {s : State} {m : MethodId} {args : Array Value} {below : List Frame} {meth : Method} {c : Code} {A : Nat → Prop} {Q : State → Prop} {D : va_G} {ca : Nat → ClassId} {a : Nat → Nat} {u : fw_S} {r : Int32}  (C : CX (WX ca a) D (tyv ca) p s m args c A prog_7_method_17_code 5 RX5) (hr : True → RX (WX ca a) D p l e rm_X_X5_product__1 s m args below meth c A prog_7_method_17_code Q .ireturn [.int r] u) : ∀ (n : Nat) (t : fw_S) (x1 : Int32) (x2 : Int32) (x3 : Int32) (H : Heap) (locs : List Loc) (ls : Array Slot), b_X_X5_product__1_8  n t x1 x2 x3 = some (r, u) → va_P D classes (WX ca a t) H → va_S A s.heap H locs → lv_has ls 5 [(0, .ref (a 1)), (1, .int x1), (2, .int x2), (3, .int x3)] → W p l e rm_X_X5_product__1 s m args below meth c H locs 0 0 Q (F0 m 8 ls []) := by
  obtain ⟨hx, hb, hml, hown, hts, hN, hK, hD, hA⟩ := id C
  intro n
  induction n with
  | zero => intro t x1 x2 x3 H locs ls hf; cases hf
  | succ n hk8 =>
    intro t x1 x2 x3 H locs ls hf hP hS hl
    have hf : (if ((120 : Int32)) ≤ x3 then b_X_X5_product__1_80 t x2 else b_X_X5_product__1_14 (b_X_X5_product__1_8 n) t x1 x2 x3) = some (r, u) := hf
    refine lv_iload_n hx hb dX5_product_8 rfl (lv_at hl 3 rfl) ?_
    refine lv_bipush (v := 120) hx hb dX5_product_9 (by decide) ?_
    refine lv_icmp_ge (tgt := 80) hx hb dX5_product_11 (by decide) (fun h_11 => ?_) (fun h_11 => ?_)
    · have hf := fb_t h_11 hf
      exact w_X_X5_product__1_80 C hr hf hP hS (lv_sub hl [2] rfl)
    · have hf := fb_f h_11 hf
      exact w_X_X5_product__1_14 C hr hk8 hf hP hS (lv_sub hl [0, 1, 2, 3] rfl)
set_option maxRecDepth 20000 in
theorem w_X_X5_product__1_0 {p : Program} {l : Launch} {e : Env} {s : State} {m : MethodId} {args : Array Value} {below : List Frame} {meth : Method} {c : Code} {A : Nat → Prop} {Q : State → Prop} {D : va_G} {ca : Nat → ClassId} {a : Nat → Nat} {u : fw_S} {r : Int32}  (C : CX (WX ca a) D (tyv ca) p s m args c A prog_7_method_17_code 5 RX5) (hr : True → RX (WX ca a) D p l e rm_X_X5_product__1 s m args below meth c A prog_7_method_17_code Q .ireturn [.int r] u) {t : fw_S} {x1 : Int32} {H : Heap} {locs : List Loc} {ls : Array Slot} (hf : b_X_X5_product__1_0  t x1 = some (r, u)) (hP : va_P D classes (WX ca a t) H) (hS : va_S A s.heap H locs) (hl : lv_has ls 5 [(0, .ref (a 1)), (1, .int x1)]) : W p l e rm_X_X5_product__1 s m args below meth c H locs 0 0 Q (F0 m 0 ls []) := by
  obtain ⟨hx, hb, hml, hown, hts, hN, hK, hD, hA⟩ := id C
  have hf : (fb_b (f_X_X5_factor__1 t x1) fun v_2 t_1 => (b_X_X5_product__1_8 3000 t_1 x1 v_2 ((0 : Int32)))) = some (r, u) := hf
  refine lv_aload_n hx hb dX5_product_0 rfl (lv_at hl 0 rfl) ?_
  refine lv_iload_n hx hb dX5_product_1 rfl (lv_at hl 1 rfl) ?_
  obtain ⟨v_2, t_1, g_2, hf⟩ := fb_bs hf
  refine fw_V1 (As := [.int x1]) (rest := []) (n := 1) (q0 := 1) C (c_X_X5_factor__1 (l := l) (D := D) (ca := ca) (a := a) g_2) kw_697 kw_699 kw_93 kw_700 kw_22 hP hS hl (heX_1 ca a t) rfl rfl rfl (by decide) (by decide +kernel) ⟨Nat.le_of_ble_eq_true rfl, Nat.le_of_ble_eq_true rfl⟩ rfl rfl (Nat.le_of_ble_eq_true rfl) dX5_product_2 (fun H locs hP hS => ?_)
  refine W.eq (g2 := F0 m 5 ls [.int v_2]) rfl ?_
  refine lv_istore_n (lv' := [(2, .int v_2), (0, .ref (a 1)), (1, .int x1)]) hx hb dX5_product_5 rfl hl (by decide) rfl (fun ls hl => ?_)
  refine lv_iconst (v := 0) hx hb dX5_product_6 (by decide) ?_
  refine lv_istore_n (lv' := [(3, .int ((0 : Int32))), (2, .int v_2), (0, .ref (a 1)), (1, .int x1)]) hx hb dX5_product_7 rfl hl (by decide) rfl (fun ls hl => ?_)
  exact w_X_X5_product__1_8 C hr 3000 t_1 x1 v_2 ((0 : Int32)) _ _ _ hf hP hS (lv_sub hl [2, 3, 1, 0] rfl)
set_option maxRecDepth 20000 in
theorem c_X_X5_product__1 {l : Launch} {D : va_G} {ca : Nat → ClassId} {a : Nat → Nat} {t : fw_S} {x1 : Int32} {u : fw_S} {r : Int32} (hf : f_X_X5_product__1 t x1 = some (r, u)) : MC (WX ca a) D (tyv ca) l yX5_product (.code yX5_product prog_7_method_17_code 5 (some .int) :: lw_gd) rm_X_X5_product__1 [.ref (a 1), .int x1] (some (.int r)) t u := by
  refine fw_met (okX ca a) (by decide +kernel) rfl rfl (Nat.le_of_ble_eq_true rfl) ?_
  intro p e s m args below meth c A Q ls C hr hk hP hS hl hQ
  exact w_X_X5_product__1_0 C (fun _ => fw_ri C hr hk hQ) hf hP hS (lv_sub hl [0, 1] rfl)
/-! ReactiveSheet.Parser.sum(I)I ['x.parser'] -/
abbrev rm_X_X5_sum__1 : Room := { frames := 6, cells := 0, slots := 0, locals := 133 }
def b_X_X5_sum__1_80  (t : fw_S) (x2 : Int32) : Option (Int32 × fw_S) := some (x2, t)
def b_X_X5_sum__1_48 (k8 : fw_S → Int32 → Int32 → Int32 → Option (Int32 × fw_S)) (t : fw_S) (x1 : Int32) (x2 : Int32) (x3 : Int32) (z0 : Int32) : Option (Int32 × fw_S) := fb_l (up_I t 3 ((st_I t 3) + ((1 : Int32)))) fun t_1 => (fb_b (f_X_X5_product__1 t_1 x1) fun v_3 t_2 => (fb_b (f_X_X5_node__1 t_2 z0 x2 v_3 ((0 : Int32))) fun v_5 t_4 => (k8 t_4 x1 v_5 (x3 + 1))))
def b_X_X5_sum__1_46 (k8 : fw_S → Int32 → Int32 → Int32 → Option (Int32 × fw_S)) (t : fw_S) (x1 : Int32) (x2 : Int32) (x3 : Int32) : Option (Int32 × fw_S) := b_X_X5_sum__1_48 k8 t x1 x2 x3 ((11 : Int32))
def b_X_X5_sum__1_41 (k8 : fw_S → Int32 → Int32 → Int32 → Option (Int32 × fw_S)) (t : fw_S) (x1 : Int32) (x2 : Int32) (x3 : Int32) : Option (Int32 × fw_S) := b_X_X5_sum__1_48 k8 t x1 x2 x3 ((10 : Int32))
def b_X_X5_sum__1_32 (k8 : fw_S → Int32 → Int32 → Int32 → Option (Int32 × fw_S)) (t : fw_S) (x1 : Int32) (x2 : Int32) (x3 : Int32) : Option (Int32 × fw_S) := fb_b (f_X_X5_here__1 t) fun v_2 t_1 => (if v_2 = ((43 : Int32)) then b_X_X5_sum__1_41 k8 t_1 x1 x2 x3 else b_X_X5_sum__1_46 k8 t_1 x1 x2 x3)
def b_X_X5_sum__1_23 (k8 : fw_S → Int32 → Int32 → Int32 → Option (Int32 × fw_S)) (t : fw_S) (x1 : Int32) (x2 : Int32) (x3 : Int32) : Option (Int32 × fw_S) := fb_b (f_X_X5_here__1 t) fun v_2 t_1 => (if v_2 = ((45 : Int32)) then b_X_X5_sum__1_32 k8 t_1 x1 x2 x3 else b_X_X5_sum__1_80 t_1 x2)
def b_X_X5_sum__1_14 (k8 : fw_S → Int32 → Int32 → Int32 → Option (Int32 × fw_S)) (t : fw_S) (x1 : Int32) (x2 : Int32) (x3 : Int32) : Option (Int32 × fw_S) := fb_b (f_X_X5_here__1 t) fun v_2 t_1 => (if v_2 = ((43 : Int32)) then b_X_X5_sum__1_32 k8 t_1 x1 x2 x3 else b_X_X5_sum__1_23 k8 t_1 x1 x2 x3)
def b_X_X5_sum__1_8  : Nat → (fw_S → Int32 → Int32 → Int32 → Option (Int32 × fw_S))
  | 0 => fun _ _ _ _ => none
  | n + 1 => fun t x1 x2 x3 => if ((120 : Int32)) ≤ x3 then b_X_X5_sum__1_80 t x2 else b_X_X5_sum__1_14 (b_X_X5_sum__1_8 n) t x1 x2 x3
def b_X_X5_sum__1_0  (t : fw_S) (x1 : Int32) : Option (Int32 × fw_S) := fb_b (f_X_X5_product__1 t x1) fun v_2 t_1 => (b_X_X5_sum__1_8 3000 t_1 x1 v_2 ((0 : Int32)))
def f_X_X5_sum__1 (t : fw_S) (x1 : Int32) : Option (Int32 × fw_S) := b_X_X5_sum__1_0 t x1
set_option maxRecDepth 20000 in
theorem w_X_X5_sum__1_80 {p : Program} {l : Launch} {e : Env} {s : State} {m : MethodId} {args : Array Value} {below : List Frame} {meth : Method} {c : Code} {A : Nat → Prop} {Q : State → Prop} {D : va_G} {ca : Nat → ClassId} {a : Nat → Nat} {u : fw_S} {r : Int32}  (C : CX (WX ca a) D (tyv ca) p s m args c A prog_7_method_16_code 5 RX5) (hr : True → RX (WX ca a) D p l e rm_X_X5_sum__1 s m args below meth c A prog_7_method_16_code Q .ireturn [.int r] u) {t : fw_S} {x2 : Int32} {H : Heap} {locs : List Loc} {ls : Array Slot} (hf : b_X_X5_sum__1_80  t x2 = some (r, u)) (hP : va_P D classes (WX ca a t) H) (hS : va_S A s.heap H locs) (hl : lv_has ls 5 [(2, .int x2)]) : W p l e rm_X_X5_sum__1 s m args below meth c H locs 0 0 Q (F0 m 80 ls []) := by
  obtain ⟨hx, hb, hml, hown, hts, hN, hK, hD, hA⟩ := id C
  have hf : (some (x2, t)) = some (r, u) := hf
  refine lv_iload_n hx hb dX5_sum_80 rfl (lv_at hl 0 rfl) ?_
  obtain ⟨e_81, e2_81⟩ := fb_e hf
  subst e_81; subst e2_81
  exact hr trivial _ _ _ _ hP hS dX5_sum_81
set_option maxRecDepth 20000 in
theorem w_X_X5_sum__1_48 {p : Program} {l : Launch} {e : Env} {s : State} {m : MethodId} {args : Array Value} {below : List Frame} {meth : Method} {c : Code} {A : Nat → Prop} {Q : State → Prop} {D : va_G} {ca : Nat → ClassId} {a : Nat → Nat} {u : fw_S} {r : Int32} {k8 : fw_S → Int32 → Int32 → Int32 → Option (Int32 × fw_S)} (C : CX (WX ca a) D (tyv ca) p s m args c A prog_7_method_16_code 5 RX5) (hr : True → RX (WX ca a) D p l e rm_X_X5_sum__1 s m args below meth c A prog_7_method_16_code Q .ireturn [.int r] u) (hk8 : ∀ (t : fw_S) (x1 : Int32) (x2 : Int32) (x3 : Int32) (H : Heap) (locs : List Loc) (ls : Array Slot), k8 t x1 x2 x3 = some (r, u) → va_P D classes (WX ca a t) H → va_S A s.heap H locs → lv_has ls 5 [(0, .ref (a 1)), (1, .int x1), (2, .int x2), (3, .int x3)] → W p l e rm_X_X5_sum__1 s m args below meth c H locs 0 0 Q (F0 m 8 ls [])) {t : fw_S} {x1 : Int32} {x2 : Int32} {x3 : Int32} {z0 : Int32} {H : Heap} {locs : List Loc} {ls : Array Slot} (hf : b_X_X5_sum__1_48 k8 t x1 x2 x3 z0 = some (r, u)) (hP : va_P D classes (WX ca a t) H) (hS : va_S A s.heap H locs) (hl : lv_has ls 5 [(0, .ref (a 1)), (1, .int x1), (2, .int x2), (3, .int x3)]) : W p l e rm_X_X5_sum__1 s m args below meth c H locs 0 0 Q (F0 m 48 ls [.int z0]) := by
  obtain ⟨hx, hb, hml, hown, hts, hN, hK, hD, hA⟩ := id C
  have hf : (fb_l (up_I t 3 ((st_I t 3) + ((1 : Int32)))) fun t_1 => (fb_b (f_X_X5_product__1 t_1 x1) fun v_3 t_2 => (fb_b (f_X_X5_node__1 t_2 z0 x2 v_3 ((0 : Int32))) fun v_5 t_4 => (k8 t_4 x1 v_5 (x3 + 1))))) = some (r, u) := hf
  refine lv_istore (lv' := [(4, .int z0), (0, .ref (a 1)), (1, .int x1), (2, .int x2), (3, .int x3)]) hx hb dX5_sum_48 hl (by decide) rfl (fun ls hl => ?_)
  refine lv_aload_n hx hb dX5_sum_50 rfl (lv_at hl 1 rfl) ?_
  refine lv_dup hx hb dX5_sum_51 rfl ?_
  refine va_get (D := D) (ci := 5) (v := .int (st_I t 3)) (C := RX5) (T := TX5) (N := 10) hx hb hts inX5 hown hK hP 1 (heX_1 ca a t) rfl 7 (by decide) (hts _ kw_129) (fun _ h9 => h9) rfl dX5_sum_52 ?_
  refine lv_iconst (v := 1) hx hb dX5_sum_55 (by decide) ?_
  refine lv_iadd hx hb dX5_sum_56 ?_
  refine va_put (D := D) (ci := 5) (v := .int ((st_I t 3) + ((1 : Int32)))) (ty := .int) (C := RX5) (T := TX5) (N := 10) hx hb hts inX5 tyX5 tyX5_ok nmX5 hown hK hP (hD t) hS 1 (heX_1 ca a t) rfl 7 (by decide) (hts _ kw_129) (fun _ h9 => h9) rfl (by decide +kernel) rfl rfl (Nat.le_of_ble_eq_true rfl) dX5_sum_57 (fun H locs hP _ hS => ?_)
  rw [suX_1_7] at hP
  obtain ⟨t_1, e_57, hf⟩ := fb_ls hf
  rw [← e_57] at hP
  refine lv_aload_n hx hb dX5_sum_60 rfl (lv_at hl 1 rfl) ?_
  refine lv_iload hx hb dX5_sum_61 (lv_at hl 0 rfl) ?_
  refine lv_iload_n hx hb dX5_sum_63 rfl (lv_at hl 3 rfl) ?_
  refine lv_aload_n hx hb dX5_sum_64 rfl (lv_at hl 1 rfl) ?_
  refine lv_iload_n hx hb dX5_sum_65 rfl (lv_at hl 2 rfl) ?_
  obtain ⟨v_3, t_2, g_66, hf⟩ := fb_bs hf
  refine fw_V1 (As := [.int x1]) (rest := [.int x2, .int z0, .ref (a 1)]) (n := 1) (q0 := 1) C (c_X_X5_product__1 (l := l) (D := D) (ca := ca) (a := a) g_66) kw_693 kw_695 kw_93 kw_696 kw_21 hP hS hl (heX_1 ca a t_1) rfl rfl rfl (by decide) (by decide +kernel) ⟨Nat.le_of_ble_eq_true rfl, Nat.le_of_ble_eq_true rfl⟩ rfl rfl (Nat.le_of_ble_eq_true rfl) dX5_sum_66 (fun H locs hP hS => ?_)
  refine W.eq (g2 := F0 m 69 ls [.int v_3, .int x2, .int z0, .ref (a 1)]) rfl ?_
  refine lv_iconst (v := 0) hx hb dX5_sum_69 (by decide) ?_
  obtain ⟨v_5, t_4, g_70, hf⟩ := fb_bs hf
  refine fw_V1 (As := [.int z0, .int x2, .int v_3, .int ((0 : Int32))]) (rest := []) (n := 4) (q0 := 1) C (c_X_X5_node__1 (l := l) (D := D) (ca := ca) (a := a) g_70) kw_716 kw_718 kw_93 kw_719 kw_26 hP hS hl (heX_1 ca a t_2) rfl rfl rfl (by decide) (by decide +kernel) ⟨Nat.le_of_ble_eq_true rfl, Nat.le_of_ble_eq_true rfl⟩ rfl rfl (Nat.le_of_ble_eq_true rfl) dX5_sum_70 (fun H locs hP hS => ?_)
  refine W.eq (g2 := F0 m 73 ls [.int v_5]) rfl ?_
  refine lv_istore_n (lv' := [(2, .int v_5), (4, .int z0), (0, .ref (a 1)), (1, .int x1), (3, .int x3)]) hx hb dX5_sum_73 rfl hl (by decide) rfl (fun ls hl => ?_)
  refine lv_iinc (v := x3 + 1) (lv' := [(3, .int (x3 + 1)), (2, .int v_5), (4, .int z0), (0, .ref (a 1)), (1, .int x1)]) hx hb dX5_sum_74 hl (k := 4) rfl rfl (by decide) rfl (fun ls hl => ?_)
  refine lv_goto (tgt := 8) hx hb dX5_sum_77 (by decide) ?_
  exact hk8 t_4 x1 v_5 (x3 + 1) _ _ _ hf hP hS (lv_sub hl [3, 4, 1, 0] rfl)
set_option maxRecDepth 20000 in
theorem w_X_X5_sum__1_46 {p : Program} {l : Launch} {e : Env} {s : State} {m : MethodId} {args : Array Value} {below : List Frame} {meth : Method} {c : Code} {A : Nat → Prop} {Q : State → Prop} {D : va_G} {ca : Nat → ClassId} {a : Nat → Nat} {u : fw_S} {r : Int32} {k8 : fw_S → Int32 → Int32 → Int32 → Option (Int32 × fw_S)} (C : CX (WX ca a) D (tyv ca) p s m args c A prog_7_method_16_code 5 RX5) (hr : True → RX (WX ca a) D p l e rm_X_X5_sum__1 s m args below meth c A prog_7_method_16_code Q .ireturn [.int r] u) (hk8 : ∀ (t : fw_S) (x1 : Int32) (x2 : Int32) (x3 : Int32) (H : Heap) (locs : List Loc) (ls : Array Slot), k8 t x1 x2 x3 = some (r, u) → va_P D classes (WX ca a t) H → va_S A s.heap H locs → lv_has ls 5 [(0, .ref (a 1)), (1, .int x1), (2, .int x2), (3, .int x3)] → W p l e rm_X_X5_sum__1 s m args below meth c H locs 0 0 Q (F0 m 8 ls [])) {t : fw_S} {x1 : Int32} {x2 : Int32} {x3 : Int32} {H : Heap} {locs : List Loc} {ls : Array Slot} (hf : b_X_X5_sum__1_46 k8 t x1 x2 x3 = some (r, u)) (hP : va_P D classes (WX ca a t) H) (hS : va_S A s.heap H locs) (hl : lv_has ls 5 [(0, .ref (a 1)), (1, .int x1), (2, .int x2), (3, .int x3)]) : W p l e rm_X_X5_sum__1 s m args below meth c H locs 0 0 Q (F0 m 46 ls []) := by
  obtain ⟨hx, hb, hml, hown, hts, hN, hK, hD, hA⟩ := id C
  have hf : (b_X_X5_sum__1_48 k8 t x1 x2 x3 ((11 : Int32))) = some (r, u) := hf
  refine lv_bipush (v := 11) hx hb dX5_sum_46 (by decide) ?_
  exact w_X_X5_sum__1_48 C hr hk8 hf hP hS (lv_sub hl [0, 1, 2, 3] rfl)
set_option maxRecDepth 20000 in
theorem w_X_X5_sum__1_41 {p : Program} {l : Launch} {e : Env} {s : State} {m : MethodId} {args : Array Value} {below : List Frame} {meth : Method} {c : Code} {A : Nat → Prop} {Q : State → Prop} {D : va_G} {ca : Nat → ClassId} {a : Nat → Nat} {u : fw_S} {r : Int32} {k8 : fw_S → Int32 → Int32 → Int32 → Option (Int32 × fw_S)} (C : CX (WX ca a) D (tyv ca) p s m args c A prog_7_method_16_code 5 RX5) (hr : True → RX (WX ca a) D p l e rm_X_X5_sum__1 s m args below meth c A prog_7_method_16_code Q .ireturn [.int r] u) (hk8 : ∀ (t : fw_S) (x1 : Int32) (x2 : Int32) (x3 : Int32) (H : Heap) (locs : List Loc) (ls : Array Slot), k8 t x1 x2 x3 = some (r, u) → va_P D classes (WX ca a t) H → va_S A s.heap H locs → lv_has ls 5 [(0, .ref (a 1)), (1, .int x1), (2, .int x2), (3, .int x3)] → W p l e rm_X_X5_sum__1 s m args below meth c H locs 0 0 Q (F0 m 8 ls [])) {t : fw_S} {x1 : Int32} {x2 : Int32} {x3 : Int32} {H : Heap} {locs : List Loc} {ls : Array Slot} (hf : b_X_X5_sum__1_41 k8 t x1 x2 x3 = some (r, u)) (hP : va_P D classes (WX ca a t) H) (hS : va_S A s.heap H locs) (hl : lv_has ls 5 [(0, .ref (a 1)), (1, .int x1), (2, .int x2), (3, .int x3)]) : W p l e rm_X_X5_sum__1 s m args below meth c H locs 0 0 Q (F0 m 41 ls []) := by
  obtain ⟨hx, hb, hml, hown, hts, hN, hK, hD, hA⟩ := id C
  have hf : (b_X_X5_sum__1_48 k8 t x1 x2 x3 ((10 : Int32))) = some (r, u) := hf
  refine lv_bipush (v := 10) hx hb dX5_sum_41 (by decide) ?_
  refine lv_goto (tgt := 48) hx hb dX5_sum_43 (by decide) ?_
  exact w_X_X5_sum__1_48 C hr hk8 hf hP hS (lv_sub hl [0, 1, 2, 3] rfl)
set_option maxRecDepth 20000 in
theorem w_X_X5_sum__1_32 {p : Program} {l : Launch} {e : Env} {s : State} {m : MethodId} {args : Array Value} {below : List Frame} {meth : Method} {c : Code} {A : Nat → Prop} {Q : State → Prop} {D : va_G} {ca : Nat → ClassId} {a : Nat → Nat} {u : fw_S} {r : Int32} {k8 : fw_S → Int32 → Int32 → Int32 → Option (Int32 × fw_S)} (C : CX (WX ca a) D (tyv ca) p s m args c A prog_7_method_16_code 5 RX5) (hr : True → RX (WX ca a) D p l e rm_X_X5_sum__1 s m args below meth c A prog_7_method_16_code Q .ireturn [.int r] u) (hk8 : ∀ (t : fw_S) (x1 : Int32) (x2 : Int32) (x3 : Int32) (H : Heap) (locs : List Loc) (ls : Array Slot), k8 t x1 x2 x3 = some (r, u) → va_P D classes (WX ca a t) H → va_S A s.heap H locs → lv_has ls 5 [(0, .ref (a 1)), (1, .int x1), (2, .int x2), (3, .int x3)] → W p l e rm_X_X5_sum__1 s m args below meth c H locs 0 0 Q (F0 m 8 ls [])) {t : fw_S} {x1 : Int32} {x2 : Int32} {x3 : Int32} {H : Heap} {locs : List Loc} {ls : Array Slot} (hf : b_X_X5_sum__1_32 k8 t x1 x2 x3 = some (r, u)) (hP : va_P D classes (WX ca a t) H) (hS : va_S A s.heap H locs) (hl : lv_has ls 5 [(0, .ref (a 1)), (1, .int x1), (2, .int x2), (3, .int x3)]) : W p l e rm_X_X5_sum__1 s m args below meth c H locs 0 0 Q (F0 m 32 ls []) := by
  obtain ⟨hx, hb, hml, hown, hts, hN, hK, hD, hA⟩ := id C
  have hf : (fb_b (f_X_X5_here__1 t) fun v_2 t_1 => (if v_2 = ((43 : Int32)) then b_X_X5_sum__1_41 k8 t_1 x1 x2 x3 else b_X_X5_sum__1_46 k8 t_1 x1 x2 x3)) = some (r, u) := hf
  refine lv_aload_n hx hb dX5_sum_32 rfl (lv_at hl 0 rfl) ?_
  obtain ⟨v_2, t_1, g_33, hf⟩ := fb_bs hf
  refine fw_V1 (As := []) (rest := []) (n := 0) (q0 := 1) C (c_X_X5_here__1 (l := l) (D := D) (ca := ca) (a := a) g_33) kw_701 kw_703 kw_93 kw_704 kw_23 hP hS hl (heX_1 ca a t) rfl rfl rfl (by decide) (by decide +kernel) ⟨Nat.le_of_ble_eq_true rfl, Nat.le_of_ble_eq_true rfl⟩ rfl rfl (Nat.le_of_ble_eq_true rfl) dX5_sum_33 (fun H locs hP hS => ?_)
  refine W.eq (g2 := F0 m 36 ls [.int v_2]) rfl ?_
  refine lv_bipush (v := 43) hx hb dX5_sum_36 (by decide) ?_
  refine lv_icmp_ne (tgt := 46) hx hb dX5_sum_38 (by decide) (fun h_38 => ?_) (fun h_38 => ?_)
  · have hf := fb_f h_38 hf
    exact w_X_X5_sum__1_46 C hr hk8 hf hP hS (lv_sub hl [0, 1, 2, 3] rfl)
  · have hf := fb_t h_38 hf
    exact w_X_X5_sum__1_41 C hr hk8 hf hP hS (lv_sub hl [0, 1, 2, 3] rfl)
set_option maxRecDepth 20000 in
theorem w_X_X5_sum__1_23 {p : Program} {l : Launch} {e : Env} {s : State} {m : MethodId} {args : Array Value} {below : List Frame} {meth : Method} {c : Code} {A : Nat → Prop} {Q : State → Prop} {D : va_G} {ca : Nat → ClassId} {a : Nat → Nat} {u : fw_S} {r : Int32} {k8 : fw_S → Int32 → Int32 → Int32 → Option (Int32 × fw_S)} (C : CX (WX ca a) D (tyv ca) p s m args c A prog_7_method_16_code 5 RX5) (hr : True → RX (WX ca a) D p l e rm_X_X5_sum__1 s m args below meth c A prog_7_method_16_code Q .ireturn [.int r] u) (hk8 : ∀ (t : fw_S) (x1 : Int32) (x2 : Int32) (x3 : Int32) (H : Heap) (locs : List Loc) (ls : Array Slot), k8 t x1 x2 x3 = some (r, u) → va_P D classes (WX ca a t) H → va_S A s.heap H locs → lv_has ls 5 [(0, .ref (a 1)), (1, .int x1), (2, .int x2), (3, .int x3)] → W p l e rm_X_X5_sum__1 s m args below meth c H locs 0 0 Q (F0 m 8 ls [])) {t : fw_S} {x1 : Int32} {x2 : Int32} {x3 : Int32} {H : Heap} {locs : List Loc} {ls : Array Slot} (hf : b_X_X5_sum__1_23 k8 t x1 x2 x3 = some (r, u)) (hP : va_P D classes (WX ca a t) H) (hS : va_S A s.heap H locs) (hl : lv_has ls 5 [(0, .ref (a 1)), (1, .int x1), (2, .int x2), (3, .int x3)]) : W p l e rm_X_X5_sum__1 s m args below meth c H locs 0 0 Q (F0 m 23 ls []) := by
  obtain ⟨hx, hb, hml, hown, hts, hN, hK, hD, hA⟩ := id C
  have hf : (fb_b (f_X_X5_here__1 t) fun v_2 t_1 => (if v_2 = ((45 : Int32)) then b_X_X5_sum__1_32 k8 t_1 x1 x2 x3 else b_X_X5_sum__1_80 t_1 x2)) = some (r, u) := hf
  refine lv_aload_n hx hb dX5_sum_23 rfl (lv_at hl 0 rfl) ?_
  obtain ⟨v_2, t_1, g_24, hf⟩ := fb_bs hf
  refine fw_V1 (As := []) (rest := []) (n := 0) (q0 := 1) C (c_X_X5_here__1 (l := l) (D := D) (ca := ca) (a := a) g_24) kw_701 kw_703 kw_93 kw_704 kw_23 hP hS hl (heX_1 ca a t) rfl rfl rfl (by decide) (by decide +kernel) ⟨Nat.le_of_ble_eq_true rfl, Nat.le_of_ble_eq_true rfl⟩ rfl rfl (Nat.le_of_ble_eq_true rfl) dX5_sum_24 (fun H locs hP hS => ?_)
  refine W.eq (g2 := F0 m 27 ls [.int v_2]) rfl ?_
  refine lv_bipush (v := 45) hx hb dX5_sum_27 (by decide) ?_
  refine lv_icmp_ne (tgt := 80) hx hb dX5_sum_29 (by decide) (fun h_29 => ?_) (fun h_29 => ?_)
  · have hf := fb_f h_29 hf
    exact w_X_X5_sum__1_80 C hr hf hP hS (lv_sub hl [2] rfl)
  · have hf := fb_t h_29 hf
    exact w_X_X5_sum__1_32 C hr hk8 hf hP hS (lv_sub hl [0, 1, 2, 3] rfl)
set_option maxRecDepth 20000 in
theorem w_X_X5_sum__1_14 {p : Program} {l : Launch} {e : Env} {s : State} {m : MethodId} {args : Array Value} {below : List Frame} {meth : Method} {c : Code} {A : Nat → Prop} {Q : State → Prop} {D : va_G} {ca : Nat → ClassId} {a : Nat → Nat} {u : fw_S} {r : Int32} {k8 : fw_S → Int32 → Int32 → Int32 → Option (Int32 × fw_S)} (C : CX (WX ca a) D (tyv ca) p s m args c A prog_7_method_16_code 5 RX5) (hr : True → RX (WX ca a) D p l e rm_X_X5_sum__1 s m args below meth c A prog_7_method_16_code Q .ireturn [.int r] u) (hk8 : ∀ (t : fw_S) (x1 : Int32) (x2 : Int32) (x3 : Int32) (H : Heap) (locs : List Loc) (ls : Array Slot), k8 t x1 x2 x3 = some (r, u) → va_P D classes (WX ca a t) H → va_S A s.heap H locs → lv_has ls 5 [(0, .ref (a 1)), (1, .int x1), (2, .int x2), (3, .int x3)] → W p l e rm_X_X5_sum__1 s m args below meth c H locs 0 0 Q (F0 m 8 ls [])) {t : fw_S} {x1 : Int32} {x2 : Int32} {x3 : Int32} {H : Heap} {locs : List Loc} {ls : Array Slot} (hf : b_X_X5_sum__1_14 k8 t x1 x2 x3 = some (r, u)) (hP : va_P D classes (WX ca a t) H) (hS : va_S A s.heap H locs) (hl : lv_has ls 5 [(0, .ref (a 1)), (1, .int x1), (2, .int x2), (3, .int x3)]) : W p l e rm_X_X5_sum__1 s m args below meth c H locs 0 0 Q (F0 m 14 ls []) := by
  obtain ⟨hx, hb, hml, hown, hts, hN, hK, hD, hA⟩ := id C
  have hf : (fb_b (f_X_X5_here__1 t) fun v_2 t_1 => (if v_2 = ((43 : Int32)) then b_X_X5_sum__1_32 k8 t_1 x1 x2 x3 else b_X_X5_sum__1_23 k8 t_1 x1 x2 x3)) = some (r, u) := hf
  refine lv_aload_n hx hb dX5_sum_14 rfl (lv_at hl 0 rfl) ?_
  obtain ⟨v_2, t_1, g_15, hf⟩ := fb_bs hf
  refine fw_V1 (As := []) (rest := []) (n := 0) (q0 := 1) C (c_X_X5_here__1 (l := l) (D := D) (ca := ca) (a := a) g_15) kw_701 kw_703 kw_93 kw_704 kw_23 hP hS hl (heX_1 ca a t) rfl rfl rfl (by decide) (by decide +kernel) ⟨Nat.le_of_ble_eq_true rfl, Nat.le_of_ble_eq_true rfl⟩ rfl rfl (Nat.le_of_ble_eq_true rfl) dX5_sum_15 (fun H locs hP hS => ?_)
  refine W.eq (g2 := F0 m 18 ls [.int v_2]) rfl ?_
  refine lv_bipush (v := 43) hx hb dX5_sum_18 (by decide) ?_
  refine lv_icmp_eq (tgt := 32) hx hb dX5_sum_20 (by decide) (fun h_20 => ?_) (fun h_20 => ?_)
  · have hf := fb_t h_20 hf
    exact w_X_X5_sum__1_32 C hr hk8 hf hP hS (lv_sub hl [0, 1, 2, 3] rfl)
  · have hf := fb_f h_20 hf
    exact w_X_X5_sum__1_23 C hr hk8 hf hP hS (lv_sub hl [0, 1, 2, 3] rfl)
set_option maxRecDepth 20000 in
theorem w_X_X5_sum__1_8 {p : Program} {l : Launch} {e : Env} {s : State} {m : MethodId} {args : Array Value} {below : List Frame} {meth : Method} {c : Code} {A : Nat → Prop} {Q : State → Prop} {D : va_G} {ca : Nat → ClassId} {a : Nat → Nat} {u : fw_S} {r : Int32}  (C : CX (WX ca a) D (tyv ca) p s m args c A prog_7_method_16_code 5 RX5) (hr : True → RX (WX ca a) D p l e rm_X_X5_sum__1 s m args below meth c A prog_7_method_16_code Q .ireturn [.int r] u) : ∀ (n : Nat) (t : fw_S) (x1 : Int32) (x2 : Int32) (x3 : Int32) (H : Heap) (locs : List Loc) (ls : Array Slot), b_X_X5_sum__1_8  n t x1 x2 x3 = some (r, u) → va_P D classes (WX ca a t) H → va_S A s.heap H locs → lv_has ls 5 [(0, .ref (a 1)), (1, .int x1), (2, .int x2), (3, .int x3)] → W p l e rm_X_X5_sum__1 s m args below meth c H locs 0 0 Q (F0 m 8 ls []) := by
  obtain ⟨hx, hb, hml, hown, hts, hN, hK, hD, hA⟩ := id C
  intro n
  induction n with
  | zero => intro t x1 x2 x3 H locs ls hf; cases hf
  | succ n hk8 =>
    intro t x1 x2 x3 H locs ls hf hP hS hl
    have hf : (if ((120 : Int32)) ≤ x3 then b_X_X5_sum__1_80 t x2 else b_X_X5_sum__1_14 (b_X_X5_sum__1_8 n) t x1 x2 x3) = some (r, u) := hf
    refine lv_iload_n hx hb dX5_sum_8 rfl (lv_at hl 3 rfl) ?_
    refine lv_bipush (v := 120) hx hb dX5_sum_9 (by decide) ?_
    refine lv_icmp_ge (tgt := 80) hx hb dX5_sum_11 (by decide) (fun h_11 => ?_) (fun h_11 => ?_)
    · have hf := fb_t h_11 hf
      exact w_X_X5_sum__1_80 C hr hf hP hS (lv_sub hl [2] rfl)
    · have hf := fb_f h_11 hf
      exact w_X_X5_sum__1_14 C hr hk8 hf hP hS (lv_sub hl [0, 1, 2, 3] rfl)
set_option maxRecDepth 20000 in
theorem w_X_X5_sum__1_0 {p : Program} {l : Launch} {e : Env} {s : State} {m : MethodId} {args : Array Value} {below : List Frame} {meth : Method} {c : Code} {A : Nat → Prop} {Q : State → Prop} {D : va_G} {ca : Nat → ClassId} {a : Nat → Nat} {u : fw_S} {r : Int32}  (C : CX (WX ca a) D (tyv ca) p s m args c A prog_7_method_16_code 5 RX5) (hr : True → RX (WX ca a) D p l e rm_X_X5_sum__1 s m args below meth c A prog_7_method_16_code Q .ireturn [.int r] u) {t : fw_S} {x1 : Int32} {H : Heap} {locs : List Loc} {ls : Array Slot} (hf : b_X_X5_sum__1_0  t x1 = some (r, u)) (hP : va_P D classes (WX ca a t) H) (hS : va_S A s.heap H locs) (hl : lv_has ls 5 [(0, .ref (a 1)), (1, .int x1)]) : W p l e rm_X_X5_sum__1 s m args below meth c H locs 0 0 Q (F0 m 0 ls []) := by
  obtain ⟨hx, hb, hml, hown, hts, hN, hK, hD, hA⟩ := id C
  have hf : (fb_b (f_X_X5_product__1 t x1) fun v_2 t_1 => (b_X_X5_sum__1_8 3000 t_1 x1 v_2 ((0 : Int32)))) = some (r, u) := hf
  refine lv_aload_n hx hb dX5_sum_0 rfl (lv_at hl 0 rfl) ?_
  refine lv_iload_n hx hb dX5_sum_1 rfl (lv_at hl 1 rfl) ?_
  obtain ⟨v_2, t_1, g_2, hf⟩ := fb_bs hf
  refine fw_V1 (As := [.int x1]) (rest := []) (n := 1) (q0 := 1) C (c_X_X5_product__1 (l := l) (D := D) (ca := ca) (a := a) g_2) kw_693 kw_695 kw_93 kw_696 kw_21 hP hS hl (heX_1 ca a t) rfl rfl rfl (by decide) (by decide +kernel) ⟨Nat.le_of_ble_eq_true rfl, Nat.le_of_ble_eq_true rfl⟩ rfl rfl (Nat.le_of_ble_eq_true rfl) dX5_sum_2 (fun H locs hP hS => ?_)
  refine W.eq (g2 := F0 m 5 ls [.int v_2]) rfl ?_
  refine lv_istore_n (lv' := [(2, .int v_2), (0, .ref (a 1)), (1, .int x1)]) hx hb dX5_sum_5 rfl hl (by decide) rfl (fun ls hl => ?_)
  refine lv_iconst (v := 0) hx hb dX5_sum_6 (by decide) ?_
  refine lv_istore_n (lv' := [(3, .int ((0 : Int32))), (2, .int v_2), (0, .ref (a 1)), (1, .int x1)]) hx hb dX5_sum_7 rfl hl (by decide) rfl (fun ls hl => ?_)
  exact w_X_X5_sum__1_8 C hr 3000 t_1 x1 v_2 ((0 : Int32)) _ _ _ hf hP hS (lv_sub hl [2, 3, 1, 0] rfl)
set_option maxRecDepth 20000 in
theorem c_X_X5_sum__1 {l : Launch} {D : va_G} {ca : Nat → ClassId} {a : Nat → Nat} {t : fw_S} {x1 : Int32} {u : fw_S} {r : Int32} (hf : f_X_X5_sum__1 t x1 = some (r, u)) : MC (WX ca a) D (tyv ca) l yX5_sum (.code yX5_sum prog_7_method_16_code 5 (some .int) :: lw_gd) rm_X_X5_sum__1 [.ref (a 1), .int x1] (some (.int r)) t u := by
  refine fw_met (okX ca a) (by decide +kernel) rfl rfl (Nat.le_of_ble_eq_true rfl) ?_
  intro p e s m args below meth c A Q ls C hr hk hP hS hl hQ
  exact w_X_X5_sum__1_0 C (fun _ => fw_ri C hr hk hQ) hf hP hS (lv_sub hl [0, 1] rfl)
