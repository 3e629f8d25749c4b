theorem dX0_listed_0 : decode prog_2_method_23_code 0 = .ok (.aload_n 0, 1) := by decide +kernel
theorem dX0_listed_1 : decode prog_2_method_23_code 1 = .ok (.iload_n 1, 1) := by decide +kernel
theorem dX0_listed_2 : decode prog_2_method_23_code 2 = .ok (.invokevirtual 90, 3) := by decide +kernel
theorem dX0_listed_5 : decode prog_2_method_23_code 5 = .ok (.ifCond .ne 11, 3) := by decide +kernel
theorem dX0_listed_8 : decode prog_2_method_23_code 8 = .ok (.aload_n 0, 1) := by decide +kernel
theorem dX0_listed_9 : decode prog_2_method_23_code 9 = .ok (.iload_n 1, 1) := by decide +kernel
theorem dX0_listed_10 : decode prog_2_method_23_code 10 = .ok (.invokevirtual 93, 3) := by decide +kernel
theorem dX0_listed_13 : decode prog_2_method_23_code 13 = .ok (.goto 13, 3) := by decide +kernel
theorem dX0_listed_16 : decode prog_2_method_23_code 16 = .ok (.ldc2_w 96, 3) := by decide +kernel
theorem dX0_listed_19 : decode prog_2_method_23_code 19 = .ok (.aload_n 0, 1) := by decide +kernel
theorem dX0_listed_20 : decode prog_2_method_23_code 20 = .ok (.iload_n 1, 1) := by decide +kernel
theorem dX0_listed_21 : decode prog_2_method_23_code 21 = .ok (.invokevirtual 90, 3) := by decide +kernel
theorem dX0_listed_24 : decode prog_2_method_23_code 24 = .ok (.i2l, 1) := by decide +kernel
theorem dX0_listed_25 : decode prog_2_method_23_code 25 = .ok (.ladd, 1) := by decide +kernel
theorem dX0_listed_26 : decode prog_2_method_23_code 26 = .ok (.lreturn, 1) := by decide +kernel
theorem dX10_fill_0 : decode prog_1_method_34_code 0 = .ok (.aload_n 0, 1) := by decide +kernel
theorem dX10_fill_1 : decode prog_1_method_34_code 1 = .ok (.getfield 59, 3) := by decide +kernel
theorem dX10_fill_4 : decode prog_1_method_34_code 4 = .ok (.iload_n 1, 1) := by decide +kernel
theorem dX10_fill_5 : decode prog_1_method_34_code 5 = .ok (.invokevirtual 256, 3) := by decide +kernel
theorem dX10_fill_8 : decode prog_1_method_34_code 8 = .ok (.ifCond .eq 11, 3) := by decide +kernel
theorem dX10_fill_11 : decode prog_1_method_34_code 11 = .ok (.iload_n 3, 1) := by decide +kernel
theorem dX10_fill_12 : decode prog_1_method_34_code 12 = .ok (.i2l, 1) := by decide +kernel
theorem dX10_fill_13 : decode prog_1_method_34_code 13 = .ok (.invokestatic 87, 3) := by decide +kernel
theorem dX10_fill_16 : decode prog_1_method_34_code 16 = .ok (.ifCond .ne 5, 3) := by decide +kernel
theorem dX10_fill_19 : decode prog_1_method_34_code 19 = .ok (.iconst (-1), 1) := by decide +kernel
theorem dX10_fill_20 : decode prog_1_method_34_code 20 = .ok (.ireturn, 1) := by decide +kernel
theorem dX10_fill_21 : decode prog_1_method_34_code 21 = .ok (.iload 4, 2) := by decide +kernel
theorem dX10_fill_23 : decode prog_1_method_34_code 23 = .ok (.ifCond .lt 12, 3) := by decide +kernel
theorem dX10_fill_26 : decode prog_1_method_34_code 26 = .ok (.iload 4, 2) := by decide +kernel
theorem dX10_fill_28 : decode prog_1_method_34_code 28 = .ok (.bipush 32, 2) := by decide +kernel
theorem dX10_fill_30 : decode prog_1_method_34_code 30 = .ok (.iload_n 3, 1) := by decide +kernel
theorem dX10_fill_31 : decode prog_1_method_34_code 31 = .ok (.isub, 1) := by decide +kernel
theorem dX10_fill_32 : decode prog_1_method_34_code 32 = .ok (.if_icmp .le 6, 3) := by decide +kernel
theorem dX10_fill_35 : decode prog_1_method_34_code 35 = .ok (.bipush (-2), 2) := by decide +kernel
theorem dX10_fill_37 : decode prog_1_method_34_code 37 = .ok (.ireturn, 1) := by decide +kernel
theorem dX10_fill_38 : decode prog_1_method_34_code 38 = .ok (.aload_n 0, 1) := by decide +kernel
theorem dX10_fill_39 : decode prog_1_method_34_code 39 = .ok (.getfield 59, 3) := by decide +kernel
theorem dX10_fill_42 : decode prog_1_method_34_code 42 = .ok (.iload_n 1, 1) := by decide +kernel
theorem dX10_fill_43 : decode prog_1_method_34_code 43 = .ok (.invokevirtual 263, 3) := by decide +kernel
theorem dX10_fill_46 : decode prog_1_method_34_code 46 = .ok (.ifCond .ne 6, 3) := by decide +kernel
theorem dX10_fill_49 : decode prog_1_method_34_code 49 = .ok (.bipush (-11), 2) := by decide +kernel
theorem dX10_fill_51 : decode prog_1_method_34_code 51 = .ok (.ireturn, 1) := by decide +kernel
theorem dX10_fill_52 : decode prog_1_method_34_code 52 = .ok (.iconst 0, 1) := by decide +kernel
theorem dX10_fill_53 : decode prog_1_method_34_code 53 = .ok (.istore 5, 2) := by decide +kernel
theorem dX10_fill_55 : decode prog_1_method_34_code 55 = .ok (.iload 5, 2) := by decide +kernel
theorem dX10_fill_57 : decode prog_1_method_34_code 57 = .ok (.iload 4, 2) := by decide +kernel
theorem dX10_fill_59 : decode prog_1_method_34_code 59 = .ok (.if_icmp .ge 55, 3) := by decide +kernel
theorem dX10_fill_62 : decode prog_1_method_34_code 62 = .ok (.aload_n 0, 1) := by decide +kernel
theorem dX10_fill_63 : decode prog_1_method_34_code 63 = .ok (.getfield 59, 3) := by decide +kernel
theorem dX10_fill_66 : decode prog_1_method_34_code 66 = .ok (.iload_n 1, 1) := by decide +kernel
theorem dX10_fill_67 : decode prog_1_method_34_code 67 = .ok (.iload_n 2, 1) := by decide +kernel
theorem dX10_fill_68 : decode prog_1_method_34_code 68 = .ok (.i2l, 1) := by decide +kernel
theorem dX10_fill_69 : decode prog_1_method_34_code 69 = .ok (.iload 5, 2) := by decide +kernel
theorem dX10_fill_71 : decode prog_1_method_34_code 71 = .ok (.i2l, 1) := by decide +kernel
theorem dX10_fill_72 : decode prog_1_method_34_code 72 = .ok (.ladd, 1) := by decide +kernel
theorem dX10_fill_73 : decode prog_1_method_34_code 73 = .ok (.invokevirtual 266, 3) := by decide +kernel
theorem dX10_fill_76 : decode prog_1_method_34_code 76 = .ok (.ifCond .ne 6, 3) := by decide +kernel
theorem dX10_fill_79 : decode prog_1_method_34_code 79 = .ok (.bipush (-13), 2) := by decide +kernel
theorem dX10_fill_81 : decode prog_1_method_34_code 81 = .ok (.ireturn, 1) := by decide +kernel
theorem dX10_fill_82 : decode prog_1_method_34_code 82 = .ok (.aload_n 0, 1) := by decide +kernel
theorem dX10_fill_83 : decode prog_1_method_34_code 83 = .ok (.getfield 59, 3) := by decide +kernel
theorem dX10_fill_86 : decode prog_1_method_34_code 86 = .ok (.iload_n 1, 1) := by decide +kernel
theorem dX10_fill_87 : decode prog_1_method_34_code 87 = .ok (.iload_n 2, 1) := by decide +kernel
theorem dX10_fill_88 : decode prog_1_method_34_code 88 = .ok (.iload 5, 2) := by decide +kernel
theorem dX10_fill_90 : decode prog_1_method_34_code 90 = .ok (.iadd, 1) := by decide +kernel
theorem dX10_fill_91 : decode prog_1_method_34_code 91 = .ok (.aload_n 0, 1) := by decide +kernel
theorem dX10_fill_92 : decode prog_1_method_34_code 92 = .ok (.getfield 28, 3) := by decide +kernel
theorem dX10_fill_95 : decode prog_1_method_34_code 95 = .ok (.invokevirtual 106, 3) := by decide +kernel
theorem dX10_fill_98 : decode prog_1_method_34_code 98 = .ok (.iload_n 3, 1) := by decide +kernel
theorem dX10_fill_99 : decode prog_1_method_34_code 99 = .ok (.iload 5, 2) := by decide +kernel
theorem dX10_fill_101 : decode prog_1_method_34_code 101 = .ok (.iadd, 1) := by decide +kernel
theorem dX10_fill_102 : decode prog_1_method_34_code 102 = .ok (.invokevirtual 283, 3) := by decide +kernel
theorem dX10_fill_105 : decode prog_1_method_34_code 105 = .ok (.invokevirtual 269, 3) := by decide +kernel
theorem dX10_fill_108 : decode prog_1_method_34_code 108 = .ok (.iinc 5 1, 3) := by decide +kernel
theorem dX10_fill_111 : decode prog_1_method_34_code 111 = .ok (.goto (-56), 3) := by decide +kernel
theorem dX10_fill_114 : decode prog_1_method_34_code 114 = .ok (.iload 4, 2) := by decide +kernel
theorem dX10_fill_116 : decode prog_1_method_34_code 116 = .ok (.ireturn, 1) := by decide +kernel
theorem dX10_get_0 : decode prog_1_method_32_code 0 = .ok (.aload_n 0, 1) := by decide +kernel
theorem dX10_get_1 : decode prog_1_method_32_code 1 = .ok (.getfield 59, 3) := by decide +kernel
theorem dX10_get_4 : decode prog_1_method_32_code 4 = .ok (.iload_n 1, 1) := by decide +kernel
theorem dX10_get_5 : decode prog_1_method_32_code 5 = .ok (.iload_n 2, 1) := by decide +kernel
theorem dX10_get_6 : decode prog_1_method_32_code 6 = .ok (.invokevirtual 272, 3) := by decide +kernel
theorem dX10_get_9 : decode prog_1_method_32_code 9 = .ok (.lreturn, 1) := by decide +kernel
theorem dX10_image_0 : decode prog_1_method_36_code 0 = .ok (.aload_n 0, 1) := by decide +kernel
theorem dX10_image_1 : decode prog_1_method_36_code 1 = .ok (.getfield 80, 3) := by decide +kernel
theorem dX10_image_4 : decode prog_1_method_36_code 4 = .ok (.ifCond .eq 6, 3) := by decide +kernel
theorem dX10_image_7 : decode prog_1_method_36_code 7 = .ok (.bipush (-3), 2) := by decide +kernel
theorem dX10_image_9 : decode prog_1_method_36_code 9 = .ok (.ireturn, 1) := by decide +kernel
theorem dX10_image_10 : decode prog_1_method_36_code 10 = .ok (.aload_n 0, 1) := by decide +kernel
theorem dX10_image_11 : decode prog_1_method_36_code 11 = .ok (.getfield 73, 3) := by decide +kernel
theorem dX10_image_14 : decode prog_1_method_36_code 14 = .ok (.aload_n 0, 1) := by decide +kernel
theorem dX10_image_15 : decode prog_1_method_36_code 15 = .ok (.getfield 28, 3) := by decide +kernel
theorem dX10_image_18 : decode prog_1_method_36_code 18 = .ok (.invokevirtual 106, 3) := by decide +kernel
theorem dX10_image_21 : decode prog_1_method_36_code 21 = .ok (.invokevirtual 286, 3) := by decide +kernel
theorem dX10_image_24 : decode prog_1_method_36_code 24 = .ok (.aload_n 0, 1) := by decide +kernel
theorem dX10_image_25 : decode prog_1_method_36_code 25 = .ok (.getfield 77, 3) := by decide +kernel
theorem dX10_image_28 : decode prog_1_method_36_code 28 = .ok (.aload_n 0, 1) := by decide +kernel
theorem dX10_image_29 : decode prog_1_method_36_code 29 = .ok (.getfield 45, 3) := by decide +kernel
theorem dX10_image_32 : decode prog_1_method_36_code 32 = .ok (.invokevirtual 290, 3) := by decide +kernel
theorem dX10_image_35 : decode prog_1_method_36_code 35 = .ok (.aload_n 0, 1) := by decide +kernel
theorem dX10_image_36 : decode prog_1_method_36_code 36 = .ok (.iconst 1, 1) := by decide +kernel
theorem dX10_image_37 : decode prog_1_method_36_code 37 = .ok (.putfield 84, 3) := by decide +kernel
theorem dX10_image_40 : decode prog_1_method_36_code 40 = .ok (.aload_n 0, 1) := by decide +kernel
theorem dX10_image_41 : decode prog_1_method_36_code 41 = .ok (.getfield 73, 3) := by decide +kernel
theorem dX10_image_44 : decode prog_1_method_36_code 44 = .ok (.invokevirtual 293, 3) := by decide +kernel
theorem dX10_image_47 : decode prog_1_method_36_code 47 = .ok (.ireturn, 1) := by decide +kernel
theorem dX10_move_0 : decode prog_1_method_33_code 0 = .ok (.aload_n 0, 1) := by decide +kernel
theorem dX10_move_1 : decode prog_1_method_33_code 1 = .ok (.getfield 59, 3) := by decide +kernel
theorem dX10_move_4 : decode prog_1_method_33_code 4 = .ok (.iload_n 1, 1) := by decide +kernel
theorem dX10_move_5 : decode prog_1_method_33_code 5 = .ok (.invokevirtual 256, 3) := by decide +kernel
theorem dX10_move_8 : decode prog_1_method_33_code 8 = .ok (.ifCond .eq 14, 3) := by decide +kernel
theorem dX10_move_11 : decode prog_1_method_33_code 11 = .ok (.aload_n 0, 1) := by decide +kernel
theorem dX10_move_12 : decode prog_1_method_33_code 12 = .ok (.getfield 59, 3) := by decide +kernel
theorem dX10_move_15 : decode prog_1_method_33_code 15 = .ok (.iload_n 3, 1) := by decide +kernel
theorem dX10_move_16 : decode prog_1_method_33_code 16 = .ok (.invokevirtual 256, 3) := by decide +kernel
theorem dX10_move_19 : decode prog_1_method_33_code 19 = .ok (.ifCond .ne 5, 3) := by decide +kernel
theorem dX10_move_22 : decode prog_1_method_33_code 22 = .ok (.iconst (-1), 1) := by decide +kernel
theorem dX10_move_23 : decode prog_1_method_33_code 23 = .ok (.ireturn, 1) := by decide +kernel
theorem dX10_move_24 : decode prog_1_method_33_code 24 = .ok (.aload_n 0, 1) := by decide +kernel
theorem dX10_move_25 : decode prog_1_method_33_code 25 = .ok (.getfield 59, 3) := by decide +kernel
theorem dX10_move_28 : decode prog_1_method_33_code 28 = .ok (.iload_n 1, 1) := by decide +kernel
theorem dX10_move_29 : decode prog_1_method_33_code 29 = .ok (.invokevirtual 263, 3) := by decide +kernel
theorem dX10_move_32 : decode prog_1_method_33_code 32 = .ok (.ifCond .eq 14, 3) := by decide +kernel
theorem dX10_move_35 : decode prog_1_method_33_code 35 = .ok (.aload_n 0, 1) := by decide +kernel
theorem dX10_move_36 : decode prog_1_method_33_code 36 = .ok (.getfield 59, 3) := by decide +kernel
theorem dX10_move_39 : decode prog_1_method_33_code 39 = .ok (.iload_n 3, 1) := by decide +kernel
theorem dX10_move_40 : decode prog_1_method_33_code 40 = .ok (.invokevirtual 263, 3) := by decide +kernel
theorem dX10_move_43 : decode prog_1_method_33_code 43 = .ok (.ifCond .ne 6, 3) := by decide +kernel
theorem dX10_move_46 : decode prog_1_method_33_code 46 = .ok (.bipush (-11), 2) := by decide +kernel
theorem dX10_move_48 : decode prog_1_method_33_code 48 = .ok (.ireturn, 1) := by decide +kernel
theorem dX10_move_49 : decode prog_1_method_33_code 49 = .ok (.aload_n 0, 1) := by decide +kernel
theorem dX10_move_50 : decode prog_1_method_33_code 50 = .ok (.getfield 59, 3) := by decide +kernel
theorem dX10_move_53 : decode prog_1_method_33_code 53 = .ok (.iload_n 1, 1) := by decide +kernel
theorem dX10_move_54 : decode prog_1_method_33_code 54 = .ok (.iload_n 2, 1) := by decide +kernel
theorem dX10_move_55 : decode prog_1_method_33_code 55 = .ok (.iload 5, 2) := by decide +kernel
theorem dX10_move_57 : decode prog_1_method_33_code 57 = .ok (.invokevirtual 275, 3) := by decide +kernel
theorem dX10_move_60 : decode prog_1_method_33_code 60 = .ok (.ifCond .eq 18, 3) := by decide +kernel
theorem dX10_move_63 : decode prog_1_method_33_code 63 = .ok (.aload_n 0, 1) := by decide +kernel
theorem dX10_move_64 : decode prog_1_method_33_code 64 = .ok (.getfield 59, 3) := by decide +kernel
theorem dX10_move_67 : decode prog_1_method_33_code 67 = .ok (.iload_n 3, 1) := by decide +kernel
theorem dX10_move_68 : decode prog_1_method_33_code 68 = .ok (.iload 4, 2) := by decide +kernel
theorem dX10_move_70 : decode prog_1_method_33_code 70 = .ok (.iload 5, 2) := by decide +kernel
theorem dX10_move_72 : decode prog_1_method_33_code 72 = .ok (.invokevirtual 275, 3) := by decide +kernel
theorem dX10_move_75 : decode prog_1_method_33_code 75 = .ok (.ifCond .ne 6, 3) := by decide +kernel
theorem dX10_move_78 : decode prog_1_method_33_code 78 = .ok (.bipush (-13), 2) := by decide +kernel
theorem dX10_move_80 : decode prog_1_method_33_code 80 = .ok (.ireturn, 1) := by decide +kernel
theorem dX10_move_81 : decode prog_1_method_33_code 81 = .ok (.aload_n 0, 1) := by decide +kernel
theorem dX10_move_82 : decode prog_1_method_33_code 82 = .ok (.getfield 59, 3) := by decide +kernel
theorem dX10_move_85 : decode prog_1_method_33_code 85 = .ok (.iload_n 1, 1) := by decide +kernel
theorem dX10_move_86 : decode prog_1_method_33_code 86 = .ok (.iload_n 2, 1) := by decide +kernel
theorem dX10_move_87 : decode prog_1_method_33_code 87 = .ok (.iload_n 3, 1) := by decide +kernel
theorem dX10_move_88 : decode prog_1_method_33_code 88 = .ok (.iload 4, 2) := by decide +kernel
theorem dX10_move_90 : decode prog_1_method_33_code 90 = .ok (.iload 5, 2) := by decide +kernel
theorem dX10_move_92 : decode prog_1_method_33_code 92 = .ok (.invokevirtual 279, 3) := by decide +kernel
theorem dX10_move_95 : decode prog_1_method_33_code 95 = .ok (.iload 5, 2) := by decide +kernel
theorem dX10_move_97 : decode prog_1_method_33_code 97 = .ok (.ireturn, 1) := by decide +kernel
theorem dX10_pour_0 : decode prog_1_method_35_code 0 = .ok (.aload_n 0, 1) := by decide +kernel
theorem dX10_pour_1 : decode prog_1_method_35_code 1 = .ok (.getfield 59, 3) := by decide +kernel
theorem dX10_pour_4 : decode prog_1_method_35_code 4 = .ok (.iload_n 1, 1) := by decide +kernel
theorem dX10_pour_5 : decode prog_1_method_35_code 5 = .ok (.invokevirtual 256, 3) := by decide +kernel
theorem dX10_pour_8 : decode prog_1_method_35_code 8 = .ok (.ifCond .eq 11, 3) := by decide +kernel
theorem dX10_pour_11 : decode prog_1_method_35_code 11 = .ok (.iload_n 3, 1) := by decide +kernel
theorem dX10_pour_12 : decode prog_1_method_35_code 12 = .ok (.i2l, 1) := by decide +kernel
theorem dX10_pour_13 : decode prog_1_method_35_code 13 = .ok (.invokestatic 87, 3) := by decide +kernel
theorem dX10_pour_16 : decode prog_1_method_35_code 16 = .ok (.ifCond .ne 5, 3) := by decide +kernel
theorem dX10_pour_19 : decode prog_1_method_35_code 19 = .ok (.iconst (-1), 1) := by decide +kernel
theorem dX10_pour_20 : decode prog_1_method_35_code 20 = .ok (.ireturn, 1) := by decide +kernel
theorem dX10_pour_21 : decode prog_1_method_35_code 21 = .ok (.iload 4, 2) := by decide +kernel
theorem dX10_pour_23 : decode prog_1_method_35_code 23 = .ok (.ifCond .lt 12, 3) := by decide +kernel
theorem dX10_pour_26 : decode prog_1_method_35_code 26 = .ok (.iload 4, 2) := by decide +kernel
theorem dX10_pour_28 : decode prog_1_method_35_code 28 = .ok (.bipush 32, 2) := by decide +kernel
theorem dX10_pour_30 : decode prog_1_method_35_code 30 = .ok (.iload_n 3, 1) := by decide +kernel
theorem dX10_pour_31 : decode prog_1_method_35_code 31 = .ok (.isub, 1) := by decide +kernel
theorem dX10_pour_32 : decode prog_1_method_35_code 32 = .ok (.if_icmp .le 6, 3) := by decide +kernel
theorem dX10_pour_35 : decode prog_1_method_35_code 35 = .ok (.bipush (-2), 2) := by decide +kernel
theorem dX10_pour_37 : decode prog_1_method_35_code 37 = .ok (.ireturn, 1) := by decide +kernel
theorem dX10_pour_38 : decode prog_1_method_35_code 38 = .ok (.aload_n 0, 1) := by decide +kernel
theorem dX10_pour_39 : decode prog_1_method_35_code 39 = .ok (.getfield 59, 3) := by decide +kernel
theorem dX10_pour_42 : decode prog_1_method_35_code 42 = .ok (.iload_n 1, 1) := by decide +kernel
theorem dX10_pour_43 : decode prog_1_method_35_code 43 = .ok (.invokevirtual 263, 3) := by decide +kernel
theorem dX10_pour_46 : decode prog_1_method_35_code 46 = .ok (.ifCond .ne 6, 3) := by decide +kernel
theorem dX10_pour_49 : decode prog_1_method_35_code 49 = .ok (.bipush (-11), 2) := by decide +kernel
theorem dX10_pour_51 : decode prog_1_method_35_code 51 = .ok (.ireturn, 1) := by decide +kernel
theorem dX10_pour_52 : decode prog_1_method_35_code 52 = .ok (.iload 4, 2) := by decide +kernel
theorem dX10_pour_54 : decode prog_1_method_35_code 54 = .ok (.ifCond .le 20, 3) := by decide +kernel
theorem dX10_pour_57 : decode prog_1_method_35_code 57 = .ok (.aload_n 0, 1) := by decide +kernel
theorem dX10_pour_58 : decode prog_1_method_35_code 58 = .ok (.getfield 59, 3) := by decide +kernel
theorem dX10_pour_61 : decode prog_1_method_35_code 61 = .ok (.iload_n 1, 1) := by decide +kernel
theorem dX10_pour_62 : decode prog_1_method_35_code 62 = .ok (.iload_n 2, 1) := by decide +kernel
theorem dX10_pour_63 : decode prog_1_method_35_code 63 = .ok (.iload 4, 2) := by decide +kernel
theorem dX10_pour_65 : decode prog_1_method_35_code 65 = .ok (.invokevirtual 275, 3) := by decide +kernel
theorem dX10_pour_68 : decode prog_1_method_35_code 68 = .ok (.ifCond .ne 6, 3) := by decide +kernel
theorem dX10_pour_71 : decode prog_1_method_35_code 71 = .ok (.bipush (-13), 2) := by decide +kernel
theorem dX10_pour_73 : decode prog_1_method_35_code 73 = .ok (.ireturn, 1) := by decide +kernel
theorem dX10_pour_74 : decode prog_1_method_35_code 74 = .ok (.aload_n 0, 1) := by decide +kernel
theorem dX10_pour_75 : decode prog_1_method_35_code 75 = .ok (.getfield 80, 3) := by decide +kernel
theorem dX10_pour_78 : decode prog_1_method_35_code 78 = .ok (.ifCond .eq 6, 3) := by decide +kernel
theorem dX10_pour_81 : decode prog_1_method_35_code 81 = .ok (.bipush (-3), 2) := by decide +kernel
theorem dX10_pour_83 : decode prog_1_method_35_code 83 = .ok (.ireturn, 1) := by decide +kernel
theorem dX10_pour_84 : decode prog_1_method_35_code 84 = .ok (.iconst 0, 1) := by decide +kernel
theorem dX10_pour_85 : decode prog_1_method_35_code 85 = .ok (.istore 5, 2) := by decide +kernel
theorem dX10_pour_87 : decode prog_1_method_35_code 87 = .ok (.iload 5, 2) := by decide +kernel
theorem dX10_pour_89 : decode prog_1_method_35_code 89 = .ok (.iload 4, 2) := by decide +kernel
theorem dX10_pour_91 : decode prog_1_method_35_code 91 = .ok (.if_icmp .ge 34, 3) := by decide +kernel
theorem dX10_pour_94 : decode prog_1_method_35_code 94 = .ok (.aload_n 0, 1) := by decide +kernel
theorem dX10_pour_95 : decode prog_1_method_35_code 95 = .ok (.getfield 35, 3) := by decide +kernel
theorem dX10_pour_98 : decode prog_1_method_35_code 98 = .ok (.iload_n 3, 1) := by decide +kernel
theorem dX10_pour_99 : decode prog_1_method_35_code 99 = .ok (.iload 5, 2) := by decide +kernel
theorem dX10_pour_101 : decode prog_1_method_35_code 101 = .ok (.iadd, 1) := by decide +kernel
theorem dX10_pour_102 : decode prog_1_method_35_code 102 = .ok (.iconst 1, 1) := by decide +kernel
theorem dX10_pour_103 : decode prog_1_method_35_code 103 = .ok (.aload_n 0, 1) := by decide +kernel
theorem dX10_pour_104 : decode prog_1_method_35_code 104 = .ok (.getfield 59, 3) := by decide +kernel
theorem dX10_pour_107 : decode prog_1_method_35_code 107 = .ok (.iload_n 1, 1) := by decide +kernel
theorem dX10_pour_108 : decode prog_1_method_35_code 108 = .ok (.iload_n 2, 1) := by decide +kernel
theorem dX10_pour_109 : decode prog_1_method_35_code 109 = .ok (.iload 5, 2) := by decide +kernel
theorem dX10_pour_111 : decode prog_1_method_35_code 111 = .ok (.iadd, 1) := by decide +kernel
theorem dX10_pour_112 : decode prog_1_method_35_code 112 = .ok (.invokevirtual 272, 3) := by decide +kernel
theorem dX10_pour_115 : decode prog_1_method_35_code 115 = .ok (.aconst_null, 1) := by decide +kernel
theorem dX10_pour_116 : decode prog_1_method_35_code 116 = .ok (.invokevirtual 91, 3) := by decide +kernel
theorem dX10_pour_119 : decode prog_1_method_35_code 119 = .ok (.iinc 5 1, 3) := by decide +kernel
theorem dX10_pour_122 : decode prog_1_method_35_code 122 = .ok (.goto (-35), 3) := by decide +kernel
theorem dX10_pour_125 : decode prog_1_method_35_code 125 = .ok (.aload_n 0, 1) := by decide +kernel
theorem dX10_pour_126 : decode prog_1_method_35_code 126 = .ok (.invokevirtual 95, 3) := by decide +kernel
theorem dX10_pour_129 : decode prog_1_method_35_code 129 = .ok (.ireturn, 1) := by decide +kernel
theorem dX10_set_0 : decode prog_1_method_31_code 0 = .ok (.aload_n 0, 1) := by decide +kernel
theorem dX10_set_1 : decode prog_1_method_31_code 1 = .ok (.getfield 59, 3) := by decide +kernel
theorem dX10_set_4 : decode prog_1_method_31_code 4 = .ok (.iload_n 1, 1) := by decide +kernel
theorem dX10_set_5 : decode prog_1_method_31_code 5 = .ok (.invokevirtual 256, 3) := by decide +kernel
theorem dX10_set_8 : decode prog_1_method_31_code 8 = .ok (.ifCond .ne 5, 3) := by decide +kernel
theorem dX10_set_11 : decode prog_1_method_31_code 11 = .ok (.iconst (-1), 1) := by decide +kernel
theorem dX10_set_12 : decode prog_1_method_31_code 12 = .ok (.ireturn, 1) := by decide +kernel
theorem dX10_set_13 : decode prog_1_method_31_code 13 = .ok (.aload_n 0, 1) := by decide +kernel
theorem dX10_set_14 : decode prog_1_method_31_code 14 = .ok (.getfield 59, 3) := by decide +kernel
theorem dX10_set_17 : decode prog_1_method_31_code 17 = .ok (.iload_n 1, 1) := by decide +kernel
theorem dX10_set_18 : decode prog_1_method_31_code 18 = .ok (.invokevirtual 263, 3) := by decide +kernel
theorem dX10_set_21 : decode prog_1_method_31_code 21 = .ok (.ifCond .ne 6, 3) := by decide +kernel
theorem dX10_set_24 : decode prog_1_method_31_code 24 = .ok (.bipush (-11), 2) := by decide +kernel
theorem dX10_set_26 : decode prog_1_method_31_code 26 = .ok (.ireturn, 1) := by decide +kernel
theorem dX10_set_27 : decode prog_1_method_31_code 27 = .ok (.aload_n 0, 1) := by decide +kernel
theorem dX10_set_28 : decode prog_1_method_31_code 28 = .ok (.getfield 59, 3) := by decide +kernel
theorem dX10_set_31 : decode prog_1_method_31_code 31 = .ok (.iload_n 1, 1) := by decide +kernel
theorem dX10_set_32 : decode prog_1_method_31_code 32 = .ok (.iload_n 2, 1) := by decide +kernel
theorem dX10_set_33 : decode prog_1_method_31_code 33 = .ok (.i2l, 1) := by decide +kernel
theorem dX10_set_34 : decode prog_1_method_31_code 34 = .ok (.invokevirtual 266, 3) := by decide +kernel
theorem dX10_set_37 : decode prog_1_method_31_code 37 = .ok (.ifCond .ne 6, 3) := by decide +kernel
theorem dX10_set_40 : decode prog_1_method_31_code 40 = .ok (.bipush (-13), 2) := by decide +kernel
theorem dX10_set_42 : decode prog_1_method_31_code 42 = .ok (.ireturn, 1) := by decide +kernel
theorem dX10_set_43 : decode prog_1_method_31_code 43 = .ok (.aload_n 0, 1) := by decide +kernel
theorem dX10_set_44 : decode prog_1_method_31_code 44 = .ok (.getfield 59, 3) := by decide +kernel
theorem dX10_set_47 : decode prog_1_method_31_code 47 = .ok (.iload_n 1, 1) := by decide +kernel
theorem dX10_set_48 : decode prog_1_method_31_code 48 = .ok (.iload_n 2, 1) := by decide +kernel
theorem dX10_set_49 : decode prog_1_method_31_code 49 = .ok (.lload_n 3, 1) := by decide +kernel
theorem dX10_set_50 : decode prog_1_method_31_code 50 = .ok (.invokevirtual 269, 3) := by decide +kernel
theorem dX10_set_53 : decode prog_1_method_31_code 53 = .ok (.iconst 1, 1) := by decide +kernel
theorem dX10_set_54 : decode prog_1_method_31_code 54 = .ok (.ireturn, 1) := by decide +kernel
theorem dX4_at_0 : decode prog_6_method_8_code 0 = .ok (.aload_n 0, 1) := by decide +kernel
theorem dX4_at_1 : decode prog_6_method_8_code 1 = .ok (.iload_n 1, 1) := by decide +kernel
theorem dX4_at_2 : decode prog_6_method_8_code 2 = .ok (.iload_n 2, 1) := by decide +kernel
theorem dX4_at_3 : decode prog_6_method_8_code 3 = .ok (.i2l, 1) := by decide +kernel
theorem dX4_at_4 : decode prog_6_method_8_code 4 = .ok (.invokevirtual 31, 3) := by decide +kernel
theorem dX4_at_7 : decode prog_6_method_8_code 7 = .ok (.ifCond .eq 17, 3) := by decide +kernel
theorem dX4_at_10 : decode prog_6_method_8_code 10 = .ok (.aload_n 0, 1) := by decide +kernel
theorem dX4_at_11 : decode prog_6_method_8_code 11 = .ok (.getfield 11, 3) := by decide +kernel
theorem dX4_at_14 : decode prog_6_method_8_code 14 = .ok (.iload_n 1, 1) := by decide +kernel
theorem dX4_at_15 : decode prog_6_method_8_code 15 = .ok (.bipush 40, 2) := by decide +kernel
theorem dX4_at_17 : decode prog_6_method_8_code 17 = .ok (.imul, 1) := by decide +kernel
theorem dX4_at_18 : decode prog_6_method_8_code 18 = .ok (.iload_n 2, 1) := by decide +kernel
theorem dX4_at_19 : decode prog_6_method_8_code 19 = .ok (.iadd, 1) := by decide +kernel
theorem dX4_at_20 : decode prog_6_method_8_code 20 = .ok (.laload, 1) := by decide +kernel
theorem dX4_at_21 : decode prog_6_method_8_code 21 = .ok (.goto 6, 3) := by decide +kernel
theorem dX4_at_24 : decode prog_6_method_8_code 24 = .ok (.ldc2_w 35, 3) := by decide +kernel
theorem dX4_at_27 : decode prog_6_method_8_code 27 = .ok (.lreturn, 1) := by decide +kernel
theorem dX4_carry_0 : decode prog_6_method_9_code 0 = .ok (.aload_n 0, 1) := by decide +kernel
theorem dX4_carry_1 : decode prog_6_method_9_code 1 = .ok (.iload_n 1, 1) := by decide +kernel
theorem dX4_carry_2 : decode prog_6_method_9_code 2 = .ok (.iload_n 2, 1) := by decide +kernel
theorem dX4_carry_3 : decode prog_6_method_9_code 3 = .ok (.iload 5, 2) := by decide +kernel
theorem dX4_carry_5 : decode prog_6_method_9_code 5 = .ok (.invokevirtual 37, 3) := by decide +kernel
theorem dX4_carry_8 : decode prog_6_method_9_code 8 = .ok (.ifCond .eq 41, 3) := by decide +kernel
theorem dX4_carry_11 : decode prog_6_method_9_code 11 = .ok (.aload_n 0, 1) := by decide +kernel
theorem dX4_carry_12 : decode prog_6_method_9_code 12 = .ok (.iload_n 3, 1) := by decide +kernel
theorem dX4_carry_13 : decode prog_6_method_9_code 13 = .ok (.iload 4, 2) := by decide +kernel
theorem dX4_carry_15 : decode prog_6_method_9_code 15 = .ok (.iload 5, 2) := by decide +kernel
theorem dX4_carry_17 : decode prog_6_method_9_code 17 = .ok (.invokevirtual 37, 3) := by decide +kernel
theorem dX4_carry_20 : decode prog_6_method_9_code 20 = .ok (.ifCond .eq 29, 3) := by decide +kernel
theorem dX4_carry_23 : decode prog_6_method_9_code 23 = .ok (.aload_n 0, 1) := by decide +kernel
theorem dX4_carry_24 : decode prog_6_method_9_code 24 = .ok (.getfield 11, 3) := by decide +kernel
theorem dX4_carry_27 : decode prog_6_method_9_code 27 = .ok (.iload_n 1, 1) := by decide +kernel
theorem dX4_carry_28 : decode prog_6_method_9_code 28 = .ok (.bipush 40, 2) := by decide +kernel
theorem dX4_carry_30 : decode prog_6_method_9_code 30 = .ok (.imul, 1) := by decide +kernel
theorem dX4_carry_31 : decode prog_6_method_9_code 31 = .ok (.iload_n 2, 1) := by decide +kernel
theorem dX4_carry_32 : decode prog_6_method_9_code 32 = .ok (.iadd, 1) := by decide +kernel
theorem dX4_carry_33 : decode prog_6_method_9_code 33 = .ok (.aload_n 0, 1) := by decide +kernel
theorem dX4_carry_34 : decode prog_6_method_9_code 34 = .ok (.getfield 11, 3) := by decide +kernel
theorem dX4_carry_37 : decode prog_6_method_9_code 37 = .ok (.iload_n 3, 1) := by decide +kernel
theorem dX4_carry_38 : decode prog_6_method_9_code 38 = .ok (.bipush 40, 2) := by decide +kernel
theorem dX4_carry_40 : decode prog_6_method_9_code 40 = .ok (.imul, 1) := by decide +kernel
theorem dX4_carry_41 : decode prog_6_method_9_code 41 = .ok (.iload 4, 2) := by decide +kernel
theorem dX4_carry_43 : decode prog_6_method_9_code 43 = .ok (.iadd, 1) := by decide +kernel
theorem dX4_carry_44 : decode prog_6_method_9_code 44 = .ok (.iload 5, 2) := by decide +kernel
theorem dX4_carry_46 : decode prog_6_method_9_code 46 = .ok (.invokestatic 41, 3) := by decide +kernel
theorem dX4_carry_49 : decode prog_6_method_9_code 49 = .ok (.return_, 1) := by decide +kernel
theorem dX4_hasRow_0 : decode prog_6_method_5_code 0 = .ok (.aload_n 0, 1) := by decide +kernel
theorem dX4_hasRow_1 : decode prog_6_method_5_code 1 = .ok (.iload_n 1, 1) := by decide +kernel
theorem dX4_hasRow_2 : decode prog_6_method_5_code 2 = .ok (.invokevirtual 19, 3) := by decide +kernel
theorem dX4_hasRow_5 : decode prog_6_method_5_code 5 = .ok (.ifCond .eq 31, 3) := by decide +kernel
theorem dX4_hasRow_8 : decode prog_6_method_5_code 8 = .ok (.iload_n 2, 1) := by decide +kernel
theorem dX4_hasRow_9 : decode prog_6_method_5_code 9 = .ok (.ifCond .lt 27, 3) := by decide +kernel
theorem dX4_hasRow_12 : decode prog_6_method_5_code 12 = .ok (.iload_n 3, 1) := by decide +kernel
theorem dX4_hasRow_13 : decode prog_6_method_5_code 13 = .ok (.ifCond .lt 23, 3) := by decide +kernel
theorem dX4_hasRow_16 : decode prog_6_method_5_code 16 = .ok (.iload_n 2, 1) := by decide +kernel
theorem dX4_hasRow_17 : decode prog_6_method_5_code 17 = .ok (.i2l, 1) := by decide +kernel
theorem dX4_hasRow_18 : decode prog_6_method_5_code 18 = .ok (.iload_n 3, 1) := by decide +kernel
theorem dX4_hasRow_19 : decode prog_6_method_5_code 19 = .ok (.i2l, 1) := by decide +kernel
theorem dX4_hasRow_20 : decode prog_6_method_5_code 20 = .ok (.ladd, 1) := by decide +kernel
theorem dX4_hasRow_21 : decode prog_6_method_5_code 21 = .ok (.aload_n 0, 1) := by decide +kernel
theorem dX4_hasRow_22 : decode prog_6_method_5_code 22 = .ok (.getfield 15, 3) := by decide +kernel
theorem dX4_hasRow_25 : decode prog_6_method_5_code 25 = .ok (.iload_n 1, 1) := by decide +kernel
theorem dX4_hasRow_26 : decode prog_6_method_5_code 26 = .ok (.iaload, 1) := by decide +kernel
theorem dX4_hasRow_27 : decode prog_6_method_5_code 27 = .ok (.i2l, 1) := by decide +kernel
theorem dX4_hasRow_28 : decode prog_6_method_5_code 28 = .ok (.lcmp, 1) := by decide +kernel
theorem dX4_hasRow_29 : decode prog_6_method_5_code 29 = .ok (.ifCond .gt 7, 3) := by decide +kernel
theorem dX4_hasRow_32 : decode prog_6_method_5_code 32 = .ok (.iconst 1, 1) := by decide +kernel
theorem dX4_hasRow_33 : decode prog_6_method_5_code 33 = .ok (.goto 4, 3) := by decide +kernel
theorem dX4_hasRow_36 : decode prog_6_method_5_code 36 = .ok (.iconst 0, 1) := by decide +kernel
theorem dX4_hasRow_37 : decode prog_6_method_5_code 37 = .ok (.ireturn, 1) := by decide +kernel
theorem dX4_put_0 : decode prog_6_method_7_code 0 = .ok (.aload_n 0, 1) := by decide +kernel
theorem dX4_put_1 : decode prog_6_method_7_code 1 = .ok (.iload_n 1, 1) := by decide +kernel
theorem dX4_put_2 : decode prog_6_method_7_code 2 = .ok (.iload_n 2, 1) := by decide +kernel
theorem dX4_put_3 : decode prog_6_method_7_code 3 = .ok (.i2l, 1) := by decide +kernel
theorem dX4_put_4 : decode prog_6_method_7_code 4 = .ok (.invokevirtual 31, 3) := by decide +kernel
theorem dX4_put_7 : decode prog_6_method_7_code 7 = .ok (.ifCond .eq 15, 3) := by decide +kernel
theorem dX4_put_10 : decode prog_6_method_7_code 10 = .ok (.aload_n 0, 1) := by decide +kernel
theorem dX4_put_11 : decode prog_6_method_7_code 11 = .ok (.getfield 11, 3) := by decide +kernel
theorem dX4_put_14 : decode prog_6_method_7_code 14 = .ok (.iload_n 1, 1) := by decide +kernel
theorem dX4_put_15 : decode prog_6_method_7_code 15 = .ok (.bipush 40, 2) := by decide +kernel
theorem dX4_put_17 : decode prog_6_method_7_code 17 = .ok (.imul, 1) := by decide +kernel
theorem dX4_put_18 : decode prog_6_method_7_code 18 = .ok (.iload_n 2, 1) := by decide +kernel
theorem dX4_put_19 : decode prog_6_method_7_code 19 = .ok (.iadd, 1) := by decide +kernel
theorem dX4_put_20 : decode prog_6_method_7_code 20 = .ok (.lload_n 3, 1) := by decide +kernel
theorem dX4_put_21 : decode prog_6_method_7_code 21 = .ok (.lastore, 1) := by decide +kernel
theorem dX4_put_22 : decode prog_6_method_7_code 22 = .ok (.return_, 1) := by decide +kernel
theorem dX9_takeFrom_0 : decode prog_11_method_2_code 0 = .ok (.aload_n 1, 1) := by decide +kernel
theorem dX9_takeFrom_1 : decode prog_11_method_2_code 1 = .ok (.getfield 11, 3) := by decide +kernel
theorem dX9_takeFrom_4 : decode prog_11_method_2_code 4 = .ok (.iconst 0, 1) := by decide +kernel
theorem dX9_takeFrom_5 : decode prog_11_method_2_code 5 = .ok (.aload_n 0, 1) := by decide +kernel
theorem dX9_takeFrom_6 : decode prog_11_method_2_code 6 = .ok (.getfield 11, 3) := by decide +kernel
theorem dX9_takeFrom_9 : decode prog_11_method_2_code 9 = .ok (.iconst 0, 1) := by decide +kernel
theorem dX9_takeFrom_10 : decode prog_11_method_2_code 10 = .ok (.bipush 8, 2) := by decide +kernel
theorem dX9_takeFrom_12 : decode prog_11_method_2_code 12 = .ok (.invokestatic 51, 3) := by decide +kernel
theorem dX9_takeFrom_15 : decode prog_11_method_2_code 15 = .ok (.aload_n 1, 1) := by decide +kernel
theorem dX9_takeFrom_16 : decode prog_11_method_2_code 16 = .ok (.getfield 15, 3) := by decide +kernel
theorem dX9_takeFrom_19 : decode prog_11_method_2_code 19 = .ok (.iconst 0, 1) := by decide +kernel
theorem dX9_takeFrom_20 : decode prog_11_method_2_code 20 = .ok (.aload_n 0, 1) := by decide +kernel
theorem dX9_takeFrom_21 : decode prog_11_method_2_code 21 = .ok (.getfield 15, 3) := by decide +kernel
theorem dX9_takeFrom_24 : decode prog_11_method_2_code 24 = .ok (.iconst 0, 1) := by decide +kernel
theorem dX9_takeFrom_25 : decode prog_11_method_2_code 25 = .ok (.bipush 8, 2) := by decide +kernel
theorem dX9_takeFrom_27 : decode prog_11_method_2_code 27 = .ok (.invokestatic 51, 3) := by decide +kernel
theorem dX9_takeFrom_30 : decode prog_11_method_2_code 30 = .ok (.aload_n 1, 1) := by decide +kernel
theorem dX9_takeFrom_31 : decode prog_11_method_2_code 31 = .ok (.getfield 18, 3) := by decide +kernel
theorem dX9_takeFrom_34 : decode prog_11_method_2_code 34 = .ok (.iconst 0, 1) := by decide +kernel
theorem dX9_takeFrom_35 : decode prog_11_method_2_code 35 = .ok (.aload_n 0, 1) := by decide +kernel
theorem dX9_takeFrom_36 : decode prog_11_method_2_code 36 = .ok (.getfield 18, 3) := by decide +kernel
theorem dX9_takeFrom_39 : decode prog_11_method_2_code 39 = .ok (.iconst 0, 1) := by decide +kernel
theorem dX9_takeFrom_40 : decode prog_11_method_2_code 40 = .ok (.bipush 8, 2) := by decide +kernel
theorem dX9_takeFrom_42 : decode prog_11_method_2_code 42 = .ok (.invokestatic 51, 3) := by decide +kernel
theorem dX9_takeFrom_45 : decode prog_11_method_2_code 45 = .ok (.aload_n 0, 1) := by decide +kernel
theorem dX9_takeFrom_46 : decode prog_11_method_2_code 46 = .ok (.aload_n 1, 1) := by decide +kernel
theorem dX9_takeFrom_47 : decode prog_11_method_2_code 47 = .ok (.getfield 22, 3) := by decide +kernel
theorem dX9_takeFrom_50 : decode prog_11_method_2_code 50 = .ok (.putfield 22, 3) := by decide +kernel
theorem dX9_takeFrom_53 : decode prog_11_method_2_code 53 = .ok (.aload_n 0, 1) := by decide +kernel
theorem dX9_takeFrom_54 : decode prog_11_method_2_code 54 = .ok (.aload_n 1, 1) := by decide +kernel
theorem dX9_takeFrom_55 : decode prog_11_method_2_code 55 = .ok (.getfield 26, 3) := by decide +kernel
theorem dX9_takeFrom_58 : decode prog_11_method_2_code 58 = .ok (.putfield 26, 3) := by decide +kernel
theorem dX9_takeFrom_61 : decode prog_11_method_2_code 61 = .ok (.aload_n 1, 1) := by decide +kernel
theorem dX9_takeFrom_62 : decode prog_11_method_2_code 62 = .ok (.getfield 30, 3) := by decide +kernel
theorem dX9_takeFrom_65 : decode prog_11_method_2_code 65 = .ok (.iconst 0, 1) := by decide +kernel
theorem dX9_takeFrom_66 : decode prog_11_method_2_code 66 = .ok (.aload_n 0, 1) := by decide +kernel
theorem dX9_takeFrom_67 : decode prog_11_method_2_code 67 = .ok (.getfield 30, 3) := by decide +kernel
theorem dX9_takeFrom_70 : decode prog_11_method_2_code 70 = .ok (.iconst 0, 1) := by decide +kernel
theorem dX9_takeFrom_71 : decode prog_11_method_2_code 71 = .ok (.bipush 60, 2) := by decide +kernel
theorem dX9_takeFrom_73 : decode prog_11_method_2_code 73 = .ok (.invokestatic 51, 3) := by decide +kernel
theorem dX9_takeFrom_76 : decode prog_11_method_2_code 76 = .ok (.aload_n 1, 1) := by decide +kernel
theorem dX9_takeFrom_77 : decode prog_11_method_2_code 77 = .ok (.getfield 33, 3) := by decide +kernel
theorem dX9_takeFrom_80 : decode prog_11_method_2_code 80 = .ok (.iconst 0, 1) := by decide +kernel
theorem dX9_takeFrom_81 : decode prog_11_method_2_code 81 = .ok (.aload_n 0, 1) := by decide +kernel
theorem dX9_takeFrom_82 : decode prog_11_method_2_code 82 = .ok (.getfield 33, 3) := by decide +kernel
theorem dX9_takeFrom_85 : decode prog_11_method_2_code 85 = .ok (.iconst 0, 1) := by decide +kernel
theorem dX9_takeFrom_86 : decode prog_11_method_2_code 86 = .ok (.bipush 60, 2) := by decide +kernel
theorem dX9_takeFrom_88 : decode prog_11_method_2_code 88 = .ok (.invokestatic 51, 3) := by decide +kernel
theorem dX9_takeFrom_91 : decode prog_11_method_2_code 91 = .ok (.aload_n 1, 1) := by decide +kernel
theorem dX9_takeFrom_92 : decode prog_11_method_2_code 92 = .ok (.getfield 36, 3) := by decide +kernel
theorem dX9_takeFrom_95 : decode prog_11_method_2_code 95 = .ok (.iconst 0, 1) := by decide +kernel
theorem dX9_takeFrom_96 : decode prog_11_method_2_code 96 = .ok (.aload_n 0, 1) := by decide +kernel
theorem dX9_takeFrom_97 : decode prog_11_method_2_code 97 = .ok (.getfield 36, 3) := by decide +kernel
theorem dX9_takeFrom_100 : decode prog_11_method_2_code 100 = .ok (.iconst 0, 1) := by decide +kernel
theorem dX9_takeFrom_101 : decode prog_11_method_2_code 101 = .ok (.bipush 60, 2) := by decide +kernel
theorem dX9_takeFrom_103 : decode prog_11_method_2_code 103 = .ok (.invokestatic 51, 3) := by decide +kernel
theorem dX9_takeFrom_106 : decode prog_11_method_2_code 106 = .ok (.aload_n 1, 1) := by decide +kernel
theorem dX9_takeFrom_107 : decode prog_11_method_2_code 107 = .ok (.getfield 39, 3) := by decide +kernel
theorem dX9_takeFrom_110 : decode prog_11_method_2_code 110 = .ok (.iconst 0, 1) := by decide +kernel
theorem dX9_takeFrom_111 : decode prog_11_method_2_code 111 = .ok (.aload_n 0, 1) := by decide +kernel
theorem dX9_takeFrom_112 : decode prog_11_method_2_code 112 = .ok (.getfield 39, 3) := by decide +kernel
theorem dX9_takeFrom_115 : decode prog_11_method_2_code 115 = .ok (.iconst 0, 1) := by decide +kernel
theorem dX9_takeFrom_116 : decode prog_11_method_2_code 116 = .ok (.bipush 60, 2) := by decide +kernel
theorem dX9_takeFrom_118 : decode prog_11_method_2_code 118 = .ok (.invokestatic 51, 3) := by decide +kernel
theorem dX9_takeFrom_121 : decode prog_11_method_2_code 121 = .ok (.aload_n 1, 1) := by decide +kernel
theorem dX9_takeFrom_122 : decode prog_11_method_2_code 122 = .ok (.getfield 42, 3) := by decide +kernel
theorem dX9_takeFrom_125 : decode prog_11_method_2_code 125 = .ok (.iconst 0, 1) := by decide +kernel
theorem dX9_takeFrom_126 : decode prog_11_method_2_code 126 = .ok (.aload_n 0, 1) := by decide +kernel
theorem dX9_takeFrom_127 : decode prog_11_method_2_code 127 = .ok (.getfield 42, 3) := by decide +kernel
theorem dX9_takeFrom_130 : decode prog_11_method_2_code 130 = .ok (.iconst 0, 1) := by decide +kernel
theorem dX9_takeFrom_131 : decode prog_11_method_2_code 131 = .ok (.bipush 60, 2) := by decide +kernel
theorem dX9_takeFrom_133 : decode prog_11_method_2_code 133 = .ok (.invokestatic 51, 3) := by decide +kernel
theorem dX9_takeFrom_136 : decode prog_11_method_2_code 136 = .ok (.aload_n 0, 1) := by decide +kernel
theorem dX9_takeFrom_137 : decode prog_11_method_2_code 137 = .ok (.aload_n 1, 1) := by decide +kernel
theorem dX9_takeFrom_138 : decode prog_11_method_2_code 138 = .ok (.getfield 45, 3) := by decide +kernel
theorem dX9_takeFrom_141 : decode prog_11_method_2_code 141 = .ok (.putfield 45, 3) := by decide +kernel
theorem dX9_takeFrom_144 : decode prog_11_method_2_code 144 = .ok (.aload_n 0, 1) := by decide +kernel
theorem dX9_takeFrom_145 : decode prog_11_method_2_code 145 = .ok (.aload_n 1, 1) := by decide +kernel
theorem dX9_takeFrom_146 : decode prog_11_method_2_code 146 = .ok (.getfield 48, 3) := by decide +kernel
theorem dX9_takeFrom_149 : decode prog_11_method_2_code 149 = .ok (.putfield 48, 3) := by decide +kernel
theorem dX9_takeFrom_152 : decode prog_11_method_2_code 152 = .ok (.return_, 1) := by decide +kernel
/-! ReactiveSheet.Lists.put(IIJ)V ['x.lists'] -/
abbrev rm_X_X4_put__10 : Room := { frames := 2, cells := 0, slots := 0, locals := 44 }
def b_X_X4_put__10_22  (t : fw_S)  : Option fw_S := some t
def b_X_X4_put__10_10  (t : fw_S) (x1 : Int32) (x2 : Int32) (y3 : Int64) : Option fw_S := fb_g (¬ (((x1 * ((40 : Int32))) + x2) < 0 ∨ 160 ≤ ((x1 * ((40 : Int32))) + x2).toNatClampNeg)) (fb_l (up_G t 10 (vp_updL (st_G t 10) ((x1 * ((40 : Int32))) + x2).toNatClampNeg y3)) fun t_1 => (b_X_X4_put__10_22 t_1))
def b_X_X4_put__10_0  (t : fw_S) (x1 : Int32) (x2 : Int32) (y3 : Int64) : Option fw_S := fb_b (f_X_X4_hasPlace__10 t x1 x2.toInt64) fun v_2 t_1 => (if v_2 = 0 then b_X_X4_put__10_22 t_1 else b_X_X4_put__10_10 t_1 x1 x2 y3)
def f_X_X4_put__10 (t : fw_S) (x1 : Int32) (x2 : Int32) (y3 : Int64) : Option fw_S := b_X_X4_put__10_0 t x1 x2 y3
set_option maxRecDepth 20000 in
theorem w_X_X4_put__10_22 {p : Program} {l : Launch} {e : Env} {s : State} {m : MethodId} {args : Array Value} {below : List Frame} {meth : Method} {c : Code} {A : Nat → Prop} {Q : State → Prop} {D : va_G} {ca : Nat → ClassId} {a : Nat → Nat} {u : fw_S}  (C : CX (WX ca a) D (tyv ca) p s m args c A prog_6_method_7_code 5 RX4) (hr : True → RX (WX ca a) D p l e rm_X_X4_put__10 s m args below meth c A prog_6_method_7_code Q .return_ [] u) {t : fw_S}  {H : Heap} {locs : List Loc} {ls : Array Slot} (hf : b_X_X4_put__10_22  t  = some u) (hP : va_P D classes (WX ca a t) H) (hS : va_S A s.heap H locs) (hl : lv_has ls 5 []) : W p l e rm_X_X4_put__10 s m args below meth c H locs 0 0 Q (F0 m 22 ls []) := by
  obtain ⟨hx, hb, hml, hown, hts, hN, hK, hD, hA⟩ := id C
  have hf : (some t) = some u := hf
  have e_22 := fb_ev hf
  subst e_22
  exact hr trivial _ _ _ _ hP hS dX4_put_22
set_option maxRecDepth 20000 in
theorem w_X_X4_put__10_10 {p : Program} {l : Launch} {e : Env} {s : State} {m : MethodId} {args : Array Value} {below : List Frame} {meth : Method} {c : Code} {A : Nat → Prop} {Q : State → Prop} {D : va_G} {ca : Nat → ClassId} {a : Nat → Nat} {u : fw_S}  (C : CX (WX ca a) D (tyv ca) p s m args c A prog_6_method_7_code 5 RX4) (hr : True → RX (WX ca a) D p l e rm_X_X4_put__10 s m args below meth c A prog_6_method_7_code Q .return_ [] u) {t : fw_S} {x1 : Int32} {x2 : Int32} {y3 : Int64} {H : Heap} {locs : List Loc} {ls : Array Slot} (hf : b_X_X4_put__10_10  t x1 x2 y3 = some u) (hP : va_P D classes (WX ca a t) H) (hS : va_S A s.heap H locs) (hl : lv_has ls 5 [(0, .ref (a 10)), (1, .int x1), (2, .int x2), (3, .long y3)]) : W p l e rm_X_X4_put__10 s m args below meth c H locs 0 0 Q (F0 m 10 ls []) := by
  obtain ⟨hx, hb, hml, hown, hts, hN, hK, hD, hA⟩ := id C
  have hf : (fb_g (¬ (((x1 * ((40 : Int32))) + x2) < 0 ∨ 160 ≤ ((x1 * ((40 : Int32))) + x2).toNatClampNeg)) (fb_l (up_G t 10 (vp_updL (st_G t 10) ((x1 * ((40 : Int32))) + x2).toNatClampNeg y3)) fun t_1 => (b_X_X4_put__10_22 t_1))) = some u := hf
  refine lv_aload_n hx hb dX4_put_10 rfl (lv_at hl 0 rfl) ?_
  refine va_get (D := D) (ci := 4) (v := .ref (a 58)) (C := RX4) (T := TX4) (N := 2) hx hb hts inX4 hown hK hP 10 (heX_10 ca a t) rfl 0 (by decide) (hts _ kw_332) (fun _ h9 => h9) rfl dX4_put_11 ?_
  refine lv_iload_n hx hb dX4_put_14 rfl (lv_at hl 1 rfl) ?_
  refine lv_bipush (v := 40) hx hb dX4_put_15 (by decide) ?_
  refine lv_imul hx hb dX4_put_17 ?_
  refine lv_iload_n hx hb dX4_put_18 rfl (lv_at hl 2 rfl) ?_
  refine lv_iadd hx hb dX4_put_19 ?_
  refine lv_lload_n hx hb dX4_put_20 rfl (lv_at hl 3 rfl) ?_
  obtain ⟨h_21, hf⟩ := fb_if hf
  refine va_last hx hb hK hP (hD t) hS 58 1 (haX_58 ca a t) rfl h_21 dX4_put_21 (fun H locs hP _ hS => ?_)
  rw [saX_58] at hP
  obtain ⟨t_1, e_21, hf⟩ := fb_ls hf
  rw [← e_21] at hP
  exact w_X_X4_put__10_22 C hr hf hP hS (lv_sub hl [] rfl)
set_option maxRecDepth 20000 in
theorem w_X_X4_put__10_0 {p : Program} {l : Launch} {e : Env} {s : State} {m : MethodId} {args : Array Value} {below : List Frame} {meth : Method} {c : Code} {A : Nat → Prop} {Q : State → Prop} {D : va_G} {ca : Nat → ClassId} {a : Nat → Nat} {u : fw_S}  (C : CX (WX ca a) D (tyv ca) p s m args c A prog_6_method_7_code 5 RX4) (hr : True → RX (WX ca a) D p l e rm_X_X4_put__10 s m args below meth c A prog_6_method_7_code Q .return_ [] u) {t : fw_S} {x1 : Int32} {x2 : Int32} {y3 : Int64} {H : Heap} {locs : List Loc} {ls : Array Slot} (hf : b_X_X4_put__10_0  t x1 x2 y3 = some u) (hP : va_P D classes (WX ca a t) H) (hS : va_S A s.heap H locs) (hl : lv_has ls 5 [(0, .ref (a 10)), (1, .int x1), (2, .int x2), (3, .long y3)]) : W p l e rm_X_X4_put__10 s m args below meth c H locs 0 0 Q (F0 m 0 ls []) := by
  obtain ⟨hx, hb, hml, hown, hts, hN, hK, hD, hA⟩ := id C
  have hf : (fb_b (f_X_X4_hasPlace__10 t x1 x2.toInt64) fun v_2 t_1 => (if v_2 = 0 then b_X_X4_put__10_22 t_1 else b_X_X4_put__10_10 t_1 x1 x2 y3)) = some u := hf
  refine lv_aload_n hx hb dX4_put_0 rfl (lv_at hl 0 rfl) ?_
  refine lv_iload_n hx hb dX4_put_1 rfl (lv_at hl 1 rfl) ?_
  refine lv_iload_n hx hb dX4_put_2 rfl (lv_at hl 2 rfl) ?_
  refine lv_i2l hx hb dX4_put_3 rfl ?_
  obtain ⟨v_2, t_1, g_4, hf⟩ := fb_bs hf
  refine fw_V1 (As := [.int x1, .long x2.toInt64]) (rest := []) (n := 2) (q0 := 10) C (c_X_X4_hasPlace__10 (l := l) (D := D) (ca := ca) (a := a) g_4) kw_1135 kw_1127 kw_100 kw_1129 kw_1128 hP hS hl (heX_10 ca a t) rfl rfl rfl (by decide) (by decide +kernel) ⟨Nat.le_of_ble_eq_true rfl, Nat.le_of_ble_eq_true rfl⟩ rfl rfl (Nat.le_of_ble_eq_true rfl) dX4_put_4 (fun H locs hP hS => ?_)
  refine W.eq (g2 := F0 m 7 ls [.int v_2]) rfl ?_
  refine lv_if_eq (tgt := 22) hx hb dX4_put_7 (by decide) (fun h_7 => ?_) (fun h_7 => ?_)
  · have hf := fb_t h_7 hf
    exact w_X_X4_put__10_22 C hr hf hP hS (lv_sub hl [] rfl)
  · have hf := fb_f h_7 hf
    exact w_X_X4_put__10_10 C hr hf hP hS (lv_sub hl [0, 1, 2, 3] rfl)
set_option maxRecDepth 20000 in
theorem c_X_X4_put__10 {l : Launch} {D : va_G} {ca : Nat → ClassId} {a : Nat → Nat} {t : fw_S} {x1 : Int32} {x2 : Int32} {y3 : Int64} {u : fw_S} (hf : f_X_X4_put__10 t x1 x2 y3 = some u) : MC (WX ca a) D (tyv ca) l yX4_put (.code yX4_put prog_6_method_7_code 5 none :: lw_gd) rm_X_X4_put__10 [.ref (a 10), .int x1, .int x2, .long y3] none t u := by
  refine fw_met (okX ca a) (by decide +kernel) rfl rfl (Nat.le_of_ble_eq_true rfl) ?_
  intro p e s m args below meth c A Q ls C hr hk hP hS hl hQ
  exact w_X_X4_put__10_0 C (fun _ => fw_rv C hr hk hQ) hf hP hS (lv_sub hl [0, 1, 2, 3] rfl)
/-! ReactiveSheet.set(IIJ)I ['x'] -/
abbrev rm_X_X10_set__0 : Room := { frames := 3, cells := 0, slots := 0, locals := 68 }
def b_X_X10_set__0_43  (t : fw_S) (x1 : Int32) (x2 : Int32) (y3 : Int64) : Option (Int32 × fw_S) := fb_v (f_X_X4_put__10 t x1 x2 y3) fun t_1 => (some ((1 : Int32), t_1))
def b_X_X10_set__0_40  (t : fw_S)  : Option (Int32 × fw_S) := some ((-13 : Int32), t)
def b_X_X10_set__0_27  (t : fw_S) (x1 : Int32) (x2 : Int32) (y3 : Int64) : Option (Int32 × fw_S) := fb_b (f_X_X4_hasPlace__10 t x1 x2.toInt64) fun v_2 t_1 => (if v_2 = 0 then b_X_X10_set__0_40 t_1 else b_X_X10_set__0_43 t_1 x1 x2 y3)
def b_X_X10_set__0_24  (t : fw_S)  : Option (Int32 × fw_S) := some ((-11 : Int32), t)
def b_X_X10_set__0_13  (t : fw_S) (x1 : Int32) (x2 : Int32) (y3 : Int64) : Option (Int32 × fw_S) := fb_b (f_X_X4_isMade__10 t x1) fun v_2 t_1 => (if v_2 = 0 then b_X_X10_set__0_24 t_1 else b_X_X10_set__0_27 t_1 x1 x2 y3)
def b_X_X10_set__0_11  (t : fw_S)  : Option (Int32 × fw_S) := some ((-1 : Int32), t)
def b_X_X10_set__0_0  (t : fw_S) (x1 : Int32) (x2 : Int32) (y3 : Int64) : Option (Int32 × fw_S) := fb_b (f_X_X4_isList__10 t x1) fun v_2 t_1 => (if v_2 = 0 then b_X_X10_set__0_11 t_1 else b_X_X10_set__0_13 t_1 x1 x2 y3)
def f_X_X10_set__0 (t : fw_S) (x1 : Int32) (x2 : Int32) (y3 : Int64) : Option (Int32 × fw_S) := b_X_X10_set__0_0 t x1 x2 y3
set_option maxRecDepth 20000 in
theorem w_X_X10_set__0_43 {p : Program} {l : Launch} {e : Env} {s : State} {m : MethodId} {args : Array Value} {below : List Frame} {meth : Method} {c : Code} {A : Nat → Prop} {Q : State → Prop} {D : va_G} {ca : Nat → ClassId} {a : Nat → Nat} {u : fw_S} {r : Int32}  (C : CX (WX ca a) D (tyv ca) p s m args c A prog_1_method_31_code 5 RX10) (hr : True → RX (WX ca a) D p l e rm_X_X10_set__0 s m args below meth c A prog_1_method_31_code Q .ireturn [.int r] u) {t : fw_S} {x1 : Int32} {x2 : Int32} {y3 : Int64} {H : Heap} {locs : List Loc} {ls : Array Slot} (hf : b_X_X10_set__0_43  t x1 x2 y3 = some (r, u)) (hP : va_P D classes (WX ca a t) H) (hS : va_S A s.heap H locs) (hl : lv_has ls 5 [(0, .ref (a 0)), (1, .int x1), (2, .int x2), (3, .long y3)]) : W p l e rm_X_X10_set__0 s m args below meth c H locs 0 0 Q (F0 m 43 ls []) := by
  obtain ⟨hx, hb, hml, hown, hts, hN, hK, hD, hA⟩ := id C
  have hf : (fb_v (f_X_X4_put__10 t x1 x2 y3) fun t_1 => (some ((1 : Int32), t_1))) = some (r, u) := hf
  refine lv_aload_n hx hb dX10_set_43 rfl (lv_at hl 0 rfl) ?_
  refine va_get (D := D) (ci := 10) (v := .ref (a 10)) (C := RX10) (T := TX10) (N := 13) hx hb hts inX10 hown hK hP 0 (heX_0 ca a t) rfl 7 (by decide) (hts _ kw_361) (fun _ h9 => h9) rfl dX10_set_44 ?_
  refine lv_iload_n hx hb dX10_set_47 rfl (lv_at hl 1 rfl) ?_
  refine lv_iload_n hx hb dX10_set_48 rfl (lv_at hl 2 rfl) ?_
  refine lv_lload_n hx hb dX10_set_49 rfl (lv_at hl 3 rfl) ?_
  obtain ⟨t_1, g_50, hf⟩ := fb_vs hf
  refine fw_V1 (As := [.int x1, .int x2, .long y3]) (rest := []) (n := 3) (q0 := 10) C (c_X_X4_put__10 (l := l) (D := D) (ca := ca) (a := a) g_50) kw_1131 kw_1132 kw_100 kw_1134 kw_1133 hP hS hl (heX_10 ca a t) rfl rfl rfl (by decide) (by decide +kernel) ⟨Nat.le_of_ble_eq_true rfl, Nat.le_of_ble_eq_true rfl⟩ rfl rfl (Nat.le_of_ble_eq_true rfl) dX10_set_50 (fun H locs hP hS => ?_)
  refine W.eq (g2 := F0 m 53 ls []) rfl ?_
  refine lv_iconst (v := 1) hx hb dX10_set_53 (by decide) ?_
  obtain ⟨e_54, e2_54⟩ := fb_e hf
  subst e_54; subst e2_54
  exact hr trivial _ _ _ _ hP hS dX10_set_54
set_option maxRecDepth 20000 in
theorem w_X_X10_set__0_40 {p : Program} {l : Launch} {e : Env} {s : State} {m : MethodId} {args : Array Value} {below : List Frame} {meth : Method} {c : Code} {A : Nat → Prop} {Q : State → Prop} {D : va_G} {ca : Nat → ClassId} {a : Nat → Nat} {u : fw_S} {r : Int32}  (C : CX (WX ca a) D (tyv ca) p s m args c A prog_1_method_31_code 5 RX10) (hr : True → RX (WX ca a) D p l e rm_X_X10_set__0 s m args below meth c A prog_1_method_31_code Q .ireturn [.int r] u) {t : fw_S}  {H : Heap} {locs : List Loc} {ls : Array Slot} (hf : b_X_X10_set__0_40  t  = some (r, u)) (hP : va_P D classes (WX ca a t) H) (hS : va_S A s.heap H locs) (hl : lv_has ls 5 []) : W p l e rm_X_X10_set__0 s m args below meth c H locs 0 0 Q (F0 m 40 ls []) := by
  obtain ⟨hx, hb, hml, hown, hts, hN, hK, hD, hA⟩ := id C
  have hf : (some ((-13 : Int32), t)) = some (r, u) := hf
  refine lv_bipush (v := (-13)) hx hb dX10_set_40 (by decide) ?_
  obtain ⟨e_42, e2_42⟩ := fb_e hf
  subst e_42; subst e2_42
  exact hr trivial _ _ _ _ hP hS dX10_set_42
set_option maxRecDepth 20000 in
theorem w_X_X10_set__0_27 {p : Program} {l : Launch} {e : Env} {s : State} {m : MethodId} {args : Array Value} {below : List Frame} {meth : Method} {c : Code} {A : Nat → Prop} {Q : State → Prop} {D : va_G} {ca : Nat → ClassId} {a : Nat → Nat} {u : fw_S} {r : Int32}  (C : CX (WX ca a) D (tyv ca) p s m args c A prog_1_method_31_code 5 RX10) (hr : True → RX (WX ca a) D p l e rm_X_X10_set__0 s m args below meth c A prog_1_method_31_code Q .ireturn [.int r] u) {t : fw_S} {x1 : Int32} {x2 : Int32} {y3 : Int64} {H : Heap} {locs : List Loc} {ls : Array Slot} (hf : b_X_X10_set__0_27  t x1 x2 y3 = some (r, u)) (hP : va_P D classes (WX ca a t) H) (hS : va_S A s.heap H locs) (hl : lv_has ls 5 [(0, .ref (a 0)), (1, .int x1), (2, .int x2), (3, .long y3)]) : W p l e rm_X_X10_set__0 s m args below meth c H locs 0 0 Q (F0 m 27 ls []) := by
  obtain ⟨hx, hb, hml, hown, hts, hN, hK, hD, hA⟩ := id C
  have hf : (fb_b (f_X_X4_hasPlace__10 t x1 x2.toInt64) fun v_2 t_1 => (if v_2 = 0 then b_X_X10_set__0_40 t_1 else b_X_X10_set__0_43 t_1 x1 x2 y3)) = some (r, u) := hf
  refine lv_aload_n hx hb dX10_set_27 rfl (lv_at hl 0 rfl) ?_
  refine va_get (D := D) (ci := 10) (v := .ref (a 10)) (C := RX10) (T := TX10) (N := 13) hx hb hts inX10 hown hK hP 0 (heX_0 ca a t) rfl 7 (by decide) (hts _ kw_361) (fun _ h9 => h9) rfl dX10_set_28 ?_
  refine lv_iload_n hx hb dX10_set_31 rfl (lv_at hl 1 rfl) ?_
  refine lv_iload_n hx hb dX10_set_32 rfl (lv_at hl 2 rfl) ?_
  refine lv_i2l hx hb dX10_set_33 rfl ?_
  obtain ⟨v_2, t_1, g_34, hf⟩ := fb_bs hf
  refine fw_V1 (As := [.int x1, .long x2.toInt64]) (rest := []) (n := 2) (q0 := 10) C (c_X_X4_hasPlace__10 (l := l) (D := D) (ca := ca) (a := a) g_34) kw_1126 kw_1127 kw_100 kw_1129 kw_1128 hP hS hl (heX_10 ca a t) rfl rfl rfl (by decide) (by decide +kernel) ⟨Nat.le_of_ble_eq_true rfl, Nat.le_of_ble_eq_true rfl⟩ rfl rfl (Nat.le_of_ble_eq_true rfl) dX10_set_34 (fun H locs hP hS => ?_)
  refine W.eq (g2 := F0 m 37 ls [.int v_2]) rfl ?_
  refine lv_if_ne (tgt := 43) hx hb dX10_set_37 (by decide) (fun h_37 => ?_) (fun h_37 => ?_)
  · have hf := fb_f h_37 hf
    exact w_X_X10_set__0_43 C hr hf hP hS (lv_sub hl [0, 1, 2, 3] rfl)
  · have hf := fb_t h_37 hf
    exact w_X_X10_set__0_40 C hr hf hP hS (lv_sub hl [] rfl)
set_option maxRecDepth 20000 in
theorem w_X_X10_set__0_24 {p : Program} {l : Launch} {e : Env} {s : State} {m : MethodId} {args : Array Value} {below : List Frame} {meth : Method} {c : Code} {A : Nat → Prop} {Q : State → Prop} {D : va_G} {ca : Nat → ClassId} {a : Nat → Nat} {u : fw_S} {r : Int32}  (C : CX (WX ca a) D (tyv ca) p s m args c A prog_1_method_31_code 5 RX10) (hr : True → RX (WX ca a) D p l e rm_X_X10_set__0 s m args below meth c A prog_1_method_31_code Q .ireturn [.int r] u) {t : fw_S}  {H : Heap} {locs : List Loc} {ls : Array Slot} (hf : b_X_X10_set__0_24  t  = some (r, u)) (hP : va_P D classes (WX ca a t) H) (hS : va_S A s.heap H locs) (hl : lv_has ls 5 []) : W p l e rm_X_X10_set__0 s m args below meth c H locs 0 0 Q (F0 m 24 ls []) := by
  obtain ⟨hx, hb, hml, hown, hts, hN, hK, hD, hA⟩ := id C
  have hf : (some ((-11 : Int32), t)) = some (r, u) := hf
  refine lv_bipush (v := (-11)) hx hb dX10_set_24 (by decide) ?_
  obtain ⟨e_26, e2_26⟩ := fb_e hf
  subst e_26; subst e2_26
  exact hr trivial _ _ _ _ hP hS dX10_set_26
set_option maxRecDepth 20000 in
theorem w_X_X10_set__0_13 {p : Program} {l : Launch} {e : Env} {s : State} {m : MethodId} {args : Array Value} {below : List Frame} {meth : Method} {c : Code} {A : Nat → Prop} {Q : State → Prop} {D : va_G} {ca : Nat → ClassId} {a : Nat → Nat} {u : fw_S} {r : Int32}  (C : CX (WX ca a) D (tyv ca) p s m args c A prog_1_method_31_code 5 RX10) (hr : True → RX (WX ca a) D p l e rm_X_X10_set__0 s m args below meth c A prog_1_method_31_code Q .ireturn [.int r] u) {t : fw_S} {x1 : Int32} {x2 : Int32} {y3 : Int64} {H : Heap} {locs : List Loc} {ls : Array Slot} (hf : b_X_X10_set__0_13  t x1 x2 y3 = some (r, u)) (hP : va_P D classes (WX ca a t) H) (hS : va_S A s.heap H locs) (hl : lv_has ls 5 [(0, .ref (a 0)), (1, .int x1), (2, .int x2), (3, .long y3)]) : W p l e rm_X_X10_set__0 s m args below meth c H locs 0 0 Q (F0 m 13 ls []) := by
  obtain ⟨hx, hb, hml, hown, hts, hN, hK, hD, hA⟩ := id C
  have hf : (fb_b (f_X_X4_isMade__10 t x1) fun v_2 t_1 => (if v_2 = 0 then b_X_X10_set__0_24 t_1 else b_X_X10_set__0_27 t_1 x1 x2 y3)) = some (r, u) := hf
  refine lv_aload_n hx hb dX10_set_13 rfl (lv_at hl 0 rfl) ?_
  refine va_get (D := D) (ci := 10) (v := .ref (a 10)) (C := RX10) (T := TX10) (N := 13) hx hb hts inX10 hown hK hP 0 (heX_0 ca a t) rfl 7 (by decide) (hts _ kw_361) (fun _ h9 => h9) rfl dX10_set_14 ?_
  refine lv_iload_n hx hb dX10_set_17 rfl (lv_at hl 1 rfl) ?_
  obtain ⟨v_2, t_1, g_18, hf⟩ := fb_bs hf
  refine fw_V1 (As := [.int x1]) (rest := []) (n := 1) (q0 := 10) C (c_X_X4_isMade__10 (l := l) (D := D) (ca := ca) (a := a) g_18) kw_1122 kw_1123 kw_100 kw_1125 kw_1124 hP hS hl (heX_10 ca a t) rfl rfl rfl (by decide) (by decide +kernel) ⟨Nat.le_of_ble_eq_true rfl, Nat.le_of_ble_eq_true rfl⟩ rfl rfl (Nat.le_of_ble_eq_true rfl) dX10_set_18 (fun H locs hP hS => ?_)
  refine W.eq (g2 := F0 m 21 ls [.int v_2]) rfl ?_
  refine lv_if_ne (tgt := 27) hx hb dX10_set_21 (by decide) (fun h_21 => ?_) (fun h_21 => ?_)
  · have hf := fb_f h_21 hf
    exact w_X_X10_set__0_27 C hr hf hP hS (lv_sub hl [0, 1, 2, 3] rfl)
  · have hf := fb_t h_21 hf
    exact w_X_X10_set__0_24 C hr hf hP hS (lv_sub hl [] rfl)
set_option maxRecDepth 20000 in
theorem w_X_X10_set__0_11 {p : Program} {l : Launch} {e : Env} {s : State} {m : MethodId} {args : Array Value} {below : List Frame} {meth : Method} {c : Code} {A : Nat → Prop} {Q : State → Prop} {D : va_G} {ca : Nat → ClassId} {a : Nat → Nat} {u : fw_S} {r : Int32}  (C : CX (WX ca a) D (tyv ca) p s m args c A prog_1_method_31_code 5 RX10) (hr : True → RX (WX ca a) D p l e rm_X_X10_set__0 s m args below meth c A prog_1_method_31_code Q .ireturn [.int r] u) {t : fw_S}  {H : Heap} {locs : List Loc} {ls : Array Slot} (hf : b_X_X10_set__0_11  t  = some (r, u)) (hP : va_P D classes (WX ca a t) H) (hS : va_S A s.heap H locs) (hl : lv_has ls 5 []) : W p l e rm_X_X10_set__0 s m args below meth c H locs 0 0 Q (F0 m 11 ls []) := by
  obtain ⟨hx, hb, hml, hown, hts, hN, hK, hD, hA⟩ := id C
  have hf : (some ((-1 : Int32), t)) = some (r, u) := hf
  refine lv_iconst (v := (-1)) hx hb dX10_set_11 (by decide) ?_
  obtain ⟨e_12, e2_12⟩ := fb_e hf
  subst e_12; subst e2_12
  exact hr trivial _ _ _ _ hP hS dX10_set_12
set_option maxRecDepth 20000 in
theorem w_X_X10_set__0_0 {p : Program} {l : Launch} {e : Env} {s : State} {m : MethodId} {args : Array Value} {below : List Frame} {meth : Method} {c : Code} {A : Nat → Prop} {Q : State → Prop} {D : va_G} {ca : Nat → ClassId} {a : Nat → Nat} {u : fw_S} {r : Int32}  (C : CX (WX ca a) D (tyv ca) p s m args c A prog_1_method_31_code 5 RX10) (hr : True → RX (WX ca a) D p l e rm_X_X10_set__0 s m args below meth c A prog_1_method_31_code Q .ireturn [.int r] u) {t : fw_S} {x1 : Int32} {x2 : Int32} {y3 : Int64} {H : Heap} {locs : List Loc} {ls : Array Slot} (hf : b_X_X10_set__0_0  t x1 x2 y3 = some (r, u)) (hP : va_P D classes (WX ca a t) H) (hS : va_S A s.heap H locs) (hl : lv_has ls 5 [(0, .ref (a 0)), (1, .int x1), (2, .int x2), (3, .long y3)]) : W p l e rm_X_X10_set__0 s m args below meth c H locs 0 0 Q (F0 m 0 ls []) := by
  obtain ⟨hx, hb, hml, hown, hts, hN, hK, hD, hA⟩ := id C
  have hf : (fb_b (f_X_X4_isList__10 t x1) fun v_2 t_1 => (if v_2 = 0 then b_X_X10_set__0_11 t_1 else b_X_X10_set__0_13 t_1 x1 x2 y3)) = some (r, u) := hf
  refine lv_aload_n hx hb dX10_set_0 rfl (lv_at hl 0 rfl) ?_
  refine va_get (D := D) (ci := 10) (v := .ref (a 10)) (C := RX10) (T := TX10) (N := 13) hx hb hts inX10 hown hK hP 0 (heX_0 ca a t) rfl 7 (by decide) (hts _ kw_361) (fun _ h9 => h9) rfl dX10_set_1 ?_
  refine lv_iload_n hx hb dX10_set_4 rfl (lv_at hl 1 rfl) ?_
  obtain ⟨v_2, t_1, g_5, hf⟩ := fb_bs hf
  refine fw_V1 (As := [.int x1]) (rest := []) (n := 1) (q0 := 10) C (c_X_X4_isList__10 (l := l) (D := D) (ca := ca) (a := a) g_5) kw_1103 kw_1104 kw_100 kw_1106 kw_1105 hP hS hl (heX_10 ca a t) rfl rfl rfl (by decide) (by decide +kernel) ⟨Nat.le_of_ble_eq_true rfl, Nat.le_of_ble_eq_true rfl⟩ rfl rfl (Nat.le_of_ble_eq_true rfl) dX10_set_5 (fun H locs hP hS => ?_)
  refine W.eq (g2 := F0 m 8 ls [.int v_2]) rfl ?_
  refine lv_if_ne (tgt := 13) hx hb dX10_set_8 (by decide) (fun h_8 => ?_) (fun h_8 => ?_)
  · have hf := fb_f h_8 hf
    exact w_X_X10_set__0_13 C hr hf hP hS (lv_sub hl [0, 1, 2, 3] rfl)
  · have hf := fb_t h_8 hf
    exact w_X_X10_set__0_11 C hr hf hP hS (lv_sub hl [] rfl)
set_option maxRecDepth 20000 in
theorem c_X_X10_set__0 {l : Launch} {D : va_G} {ca : Nat → ClassId} {a : Nat → Nat} {t : fw_S} {x1 : Int32} {x2 : Int32} {y3 : Int64} {u : fw_S} {r : Int32} (hf : f_X_X10_set__0 t x1 x2 y3 = some (r, u)) : MC (WX ca a) D (tyv ca) l yX10_set (.code yX10_set prog_1_method_31_code 5 (some .int) :: lw_gd) rm_X_X10_set__0 [.ref (a 0), .int x1, .int x2, .long y3] (some (.int r)) t u := by
  refine fw_met (okX ca a) (by decide +kernel) rfl rfl (Nat.le_of_ble_eq_true rfl) ?_
  intro p e s m args below meth c A Q ls C hr hk hP hS hl hQ
  exact w_X_X10_set__0_0 C (fun _ => fw_ri C hr hk hQ) hf hP hS (lv_sub hl [0, 1, 2, 3] rfl)
/-! ReactiveSheet.Lists.at(II)J ['x.lists'] -/
abbrev rm_X_X4_at__10 : Room := { frames := 2, cells := 0, slots := 0, locals := 44 }
def b_X_X4_at__10_27  (t : fw_S) (w0 : Int64) : Option (Int64 × fw_S) := some (w0, t)
def b_X_X4_at__10_24  (t : fw_S)  : Option (Int64 × fw_S) := b_X_X4_at__10_27 t ((-9223372036854775808 : Int64))
def b_X_X4_at__10_10  (t : fw_S) (x1 : Int32) (x2 : Int32) : Option (Int64 × fw_S) := fb_g (¬ (((x1 * ((40 : Int32))) + x2) < 0 ∨ 160 ≤ ((x1 * ((40 : Int32))) + x2).toNatClampNeg)) (b_X_X4_at__10_27 t (st_G t 10 ((x1 * ((40 : Int32))) + x2).toNatClampNeg))
def b_X_X4_at__10_0  (t : fw_S) (x1 : Int32) (x2 : Int32) : Option (Int64 × fw_S) := fb_b (f_X_X4_hasPlace__10 t x1 x2.toInt64) fun v_2 t_1 => (if v_2 = 0 then b_X_X4_at__10_24 t_1 else b_X_X4_at__10_10 t_1 x1 x2)
def f_X_X4_at__10 (t : fw_S) (x1 : Int32) (x2 : Int32) : Option (Int64 × fw_S) := b_X_X4_at__10_0 t x1 x2
set_option maxRecDepth 20000 in
theorem w_X_X4_at__10_27 {p : Program} {l : Launch} {e : Env} {s : State} {m : MethodId} {args : Array Value} {below : List Frame} {meth : Method} {c : Code} {A : Nat → Prop} {Q : State → Prop} {D : va_G} {ca : Nat → ClassId} {a : Nat → Nat} {u : fw_S} {r : Int64}  (C : CX (WX ca a) D (tyv ca) p s m args c A prog_6_method_8_code 3 RX4) (hr : True → RX (WX ca a) D p l e rm_X_X4_at__10 s m args below meth c A prog_6_method_8_code Q .lreturn [.long r] u) {t : fw_S} {w0 : Int64} {H : Heap} {locs : List Loc} {ls : Array Slot} (hf : b_X_X4_at__10_27  t w0 = some (r, u)) (hP : va_P D classes (WX ca a t) H) (hS : va_S A s.heap H locs) (hl : lv_has ls 3 []) : W p l e rm_X_X4_at__10 s m args below meth c H locs 0 0 Q (F0 m 27 ls [.long w0]) := by
  obtain ⟨hx, hb, hml, hown, hts, hN, hK, hD, hA⟩ := id C
  have hf : (some (w0, t)) = some (r, u) := hf
  obtain ⟨e_27, e2_27⟩ := fb_e hf
  subst e_27; subst e2_27
  exact hr trivial _ _ _ _ hP hS dX4_at_27
set_option maxRecDepth 20000 in
theorem w_X_X4_at__10_24 {p : Program} {l : Launch} {e : Env} {s : State} {m : MethodId} {args : Array Value} {below : List Frame} {meth : Method} {c : Code} {A : Nat → Prop} {Q : State → Prop} {D : va_G} {ca : Nat → ClassId} {a : Nat → Nat} {u : fw_S} {r : Int64}  (C : CX (WX ca a) D (tyv ca) p s m args c A prog_6_method_8_code 3 RX4) (hr : True → RX (WX ca a) D p l e rm_X_X4_at__10 s m args below meth c A prog_6_method_8_code Q .lreturn [.long r] u) {t : fw_S}  {H : Heap} {locs : List Loc} {ls : Array Slot} (hf : b_X_X4_at__10_24  t  = some (r, u)) (hP : va_P D classes (WX ca a t) H) (hS : va_S A s.heap H locs) (hl : lv_has ls 3 []) : W p l e rm_X_X4_at__10 s m args below meth c H locs 0 0 Q (F0 m 24 ls []) := by
  obtain ⟨hx, hb, hml, hown, hts, hN, hK, hD, hA⟩ := id C
  have hf : (b_X_X4_at__10_27 t ((-9223372036854775808 : Int64))) = some (r, u) := hf
  refine lv_ldc2 (v := (-9223372036854775808)) hx hb hown (hts _ kw_1144) dX4_at_24 ?_
  exact w_X_X4_at__10_27 C hr hf hP hS (lv_sub hl [] rfl)
set_option maxRecDepth 20000 in
theorem w_X_X4_at__10_10 {p : Program} {l : Launch} {e : Env} {s : State} {m : MethodId} {args : Array Value} {below : List Frame} {meth : Method} {c : Code} {A : Nat → Prop} {Q : State → Prop} {D : va_G} {ca : Nat → ClassId} {a : Nat → Nat} {u : fw_S} {r : Int64}  (C : CX (WX ca a) D (tyv ca) p s m args c A prog_6_method_8_code 3 RX4) (hr : True → RX (WX ca a) D p l e rm_X_X4_at__10 s m args below meth c A prog_6_method_8_code Q .lreturn [.long r] u) {t : fw_S} {x1 : Int32} {x2 : Int32} {H : Heap} {locs : List Loc} {ls : Array Slot} (hf : b_X_X4_at__10_10  t x1 x2 = some (r, u)) (hP : va_P D classes (WX ca a t) H) (hS : va_S A s.heap H locs) (hl : lv_has ls 3 [(0, .ref (a 10)), (1, .int x1), (2, .int x2)]) : W p l e rm_X_X4_at__10 s m args below meth c H locs 0 0 Q (F0 m 10 ls []) := by
  obtain ⟨hx, hb, hml, hown, hts, hN, hK, hD, hA⟩ := id C
  have hf : (fb_g (¬ (((x1 * ((40 : Int32))) + x2) < 0 ∨ 160 ≤ ((x1 * ((40 : Int32))) + x2).toNatClampNeg)) (b_X_X4_at__10_27 t (st_G t 10 ((x1 * ((40 : Int32))) + x2).toNatClampNeg))) = some (r, u) := hf
  refine lv_aload_n hx hb dX4_at_10 rfl (lv_at hl 0 rfl) ?_
  refine va_get (D := D) (ci := 4) (v := .ref (a 58)) (C := RX4) (T := TX4) (N := 2) hx hb hts inX4 hown hK hP 10 (heX_10 ca a t) rfl 0 (by decide) (hts _ kw_332) (fun _ h9 => h9) rfl dX4_at_11 ?_
  refine lv_iload_n hx hb dX4_at_14 rfl (lv_at hl 1 rfl) ?_
  refine lv_bipush (v := 40) hx hb dX4_at_15 (by decide) ?_
  refine lv_imul hx hb dX4_at_17 ?_
  refine lv_iload_n hx hb dX4_at_18 rfl (lv_at hl 2 rfl) ?_
  refine lv_iadd hx hb dX4_at_19 ?_
  obtain ⟨h_20, hf⟩ := fb_if hf
  refine va_lald hx hb hK hP 58 1 (haX_58 ca a t) rfl h_20 dX4_at_20 ?_
  refine lv_goto (tgt := 27) hx hb dX4_at_21 (by decide) ?_
  exact w_X_X4_at__10_27 C hr hf hP hS (lv_sub hl [] rfl)
set_option maxRecDepth 20000 in
theorem w_X_X4_at__10_0 {p : Program} {l : Launch} {e : Env} {s : State} {m : MethodId} {args : Array Value} {below : List Frame} {meth : Method} {c : Code} {A : Nat → Prop} {Q : State → Prop} {D : va_G} {ca : Nat → ClassId} {a : Nat → Nat} {u : fw_S} {r : Int64}  (C : CX (WX ca a) D (tyv ca) p s m args c A prog_6_method_8_code 3 RX4) (hr : True → RX (WX ca a) D p l e rm_X_X4_at__10 s m args below meth c A prog_6_method_8_code Q .lreturn [.long r] u) {t : fw_S} {x1 : Int32} {x2 : Int32} {H : Heap} {locs : List Loc} {ls : Array Slot} (hf : b_X_X4_at__10_0  t x1 x2 = some (r, u)) (hP : va_P D classes (WX ca a t) H) (hS : va_S A s.heap H locs) (hl : lv_has ls 3 [(0, .ref (a 10)), (1, .int x1), (2, .int x2)]) : W p l e rm_X_X4_at__10 s m args below meth c H locs 0 0 Q (F0 m 0 ls []) := by
  obtain ⟨hx, hb, hml, hown, hts, hN, hK, hD, hA⟩ := id C
  have hf : (fb_b (f_X_X4_hasPlace__10 t x1 x2.toInt64) fun v_2 t_1 => (if v_2 = 0 then b_X_X4_at__10_24 t_1 else b_X_X4_at__10_10 t_1 x1 x2)) = some (r, u) := hf
  refine lv_aload_n hx hb dX4_at_0 rfl (lv_at hl 0 rfl) ?_
  refine lv_iload_n hx hb dX4_at_1 rfl (lv_at hl 1 rfl) ?_
  refine lv_iload_n hx hb dX4_at_2 rfl (lv_at hl 2 rfl) ?_
  refine lv_i2l hx hb dX4_at_3 rfl ?_
  obtain ⟨v_2, t_1, g_4, hf⟩ := fb_bs hf
  refine fw_V1 (As := [.int x1, .long x2.toInt64]) (rest := []) (n := 2) (q0 := 10) C (c_X_X4_hasPlace__10 (l := l) (D := D) (ca := ca) (a := a) g_4) kw_1135 kw_1127 kw_100 kw_1129 kw_1128 hP hS hl (heX_10 ca a t) rfl rfl rfl (by decide) (by decide +kernel) ⟨Nat.le_of_ble_eq_true rfl, Nat.le_of_ble_eq_true rfl⟩ rfl rfl (Nat.le_of_ble_eq_true rfl) dX4_at_4 (fun H locs hP hS => ?_)
  refine W.eq (g2 := F0 m 7 ls [.int v_2]) rfl ?_
  refine lv_if_eq (tgt := 24) hx hb dX4_at_7 (by decide) (fun h_7 => ?_) (fun h_7 => ?_)
  · have hf := fb_t h_7 hf
    exact w_X_X4_at__10_24 C hr hf hP hS (lv_sub hl [] rfl)
  · have hf := fb_f h_7 hf
    exact w_X_X4_at__10_10 C hr hf hP hS (lv_sub hl [0, 1, 2] rfl)
set_option maxRecDepth 20000 in
theorem c_X_X4_at__10 {l : Launch} {D : va_G} {ca : Nat → ClassId} {a : Nat → Nat} {t : fw_S} {x1 : Int32} {x2 : Int32} {u : fw_S} {r : Int64} (hf : f_X_X4_at__10 t x1 x2 = some (r, u)) : MC (WX ca a) D (tyv ca) l yX4_at (.code yX4_at prog_6_method_8_code 3 (some .long) :: lw_gd) rm_X_X4_at__10 [.ref (a 10), .int x1, .int x2] (some (.long r)) t u := by
  refine fw_met (okX ca a) (by decide +kernel) rfl rfl (Nat.le_of_ble_eq_true rfl) ?_
  intro p e s m args below meth c A Q ls C hr hk hP hS hl hQ
  exact w_X_X4_at__10_0 C (fun _ => fw_rl C hr hk hQ) hf hP hS (lv_sub hl [0, 1, 2] rfl)
/-! ReactiveSheet.get(II)J ['x'] -/
abbrev rm_X_X10_get__0 : Room := { frames := 3, cells := 0, slots := 0, locals := 66 }
def b_X_X10_get__0_0  (t : fw_S) (x1 : Int32) (x2 : Int32) : Option (Int64 × fw_S) := fb_b (f_X_X4_at__10 t x1 x2) fun v_2 t_1 => (some (v_2, t_1))
def f_X_X10_get__0 (t : fw_S) (x1 : Int32) (x2 : Int32) : Option (Int64 × fw_S) := b_X_X10_get__0_0 t x1 x2
set_option maxRecDepth 20000 in
theorem w_X_X10_get__0_0 {p : Program} {l : Launch} {e : Env} {s : State} {m : MethodId} {args : Array Value} {below : List Frame} {meth : Method} {c : Code} {A : Nat → Prop} {Q : State → Prop} {D : va_G} {ca : Nat → ClassId} {a : Nat → Nat} {u : fw_S} {r : Int64}  (C : CX (WX ca a) D (tyv ca) p s m args c A prog_1_method_32_code 3 RX10) (hr : True → RX (WX ca a) D p l e rm_X_X10_get__0 s m args below meth c A prog_1_method_32_code Q .lreturn [.long r] u) {t : fw_S} {x1 : Int32} {x2 : Int32} {H : Heap} {locs : List Loc} {ls : Array Slot} (hf : b_X_X10_get__0_0  t x1 x2 = some (r, u)) (hP : va_P D classes (WX ca a t) H) (hS : va_S A s.heap H locs) (hl : lv_has ls 3 [(0, .ref (a 0)), (1, .int x1), (2, .int x2)]) : W p l e rm_X_X10_get__0 s m args below meth c H locs 0 0 Q (F0 m 0 ls []) := by
  obtain ⟨hx, hb, hml, hown, hts, hN, hK, hD, hA⟩ := id C
  have hf : (fb_b (f_X_X4_at__10 t x1 x2) fun v_2 t_1 => (some (v_2, t_1))) = some (r, u) := hf
  refine lv_aload_n hx hb dX10_get_0 rfl (lv_at hl 0 rfl) ?_
  refine va_get (D := D) (ci := 10) (v := .ref (a 10)) (C := RX10) (T := TX10) (N := 13) hx hb hts inX10 hown hK hP 0 (heX_0 ca a t) rfl 7 (by decide) (hts _ kw_361) (fun _ h9 => h9) rfl dX10_get_1 ?_
  refine lv_iload_n hx hb dX10_get_4 rfl (lv_at hl 1 rfl) ?_
  refine lv_iload_n hx hb dX10_get_5 rfl (lv_at hl 2 rfl) ?_
  obtain ⟨v_2, t_1, g_6, hf⟩ := fb_bs hf
  refine fw_V1 (As := [.int x1, .int x2]) (rest := []) (n := 2) (q0 := 10) C (c_X_X4_at__10 (l := l) (D := D) (ca := ca) (a := a) g_6) kw_1140 kw_1141 kw_100 kw_1143 kw_1142 hP hS hl (heX_10 ca a t) rfl rfl rfl (by decide) (by decide +kernel) ⟨Nat.le_of_ble_eq_true rfl, Nat.le_of_ble_eq_true rfl⟩ rfl rfl (Nat.le_of_ble_eq_true rfl) dX10_get_6 (fun H locs hP hS => ?_)
  refine W.eq (g2 := F0 m 9 ls [.long v_2]) rfl ?_
  obtain ⟨e_9, e2_9⟩ := fb_e hf
  subst e_9; subst e2_9
  exact hr trivial _ _ _ _ hP hS dX10_get_9
set_option maxRecDepth 20000 in
theorem c_X_X10_get__0 {l : Launch} {D : va_G} {ca : Nat → ClassId} {a : Nat → Nat} {t : fw_S} {x1 : Int32} {x2 : Int32} {u : fw_S} {r : Int64} (hf : f_X_X10_get__0 t x1 x2 = some (r, u)) : MC (WX ca a) D (tyv ca) l yX10_get (.code yX10_get prog_1_method_32_code 3 (some .long) :: lw_gd) rm_X_X10_get__0 [.ref (a 0), .int x1, .int x2] (some (.long r)) t u := by
  refine fw_met (okX ca a) (by decide +kernel) rfl rfl (Nat.le_of_ble_eq_true rfl) ?_
  intro p e s m args below meth c A Q ls C hr hk hP hS hl hQ
  exact w_X_X10_get__0_0 C (fun _ => fw_rl C hr hk hQ) hf hP hS (lv_sub hl [0, 1, 2] rfl)
/-! ReactiveSheet.Lists.hasRow(III)Z ['x.lists'] -/
abbrev rm_X_X4_hasRow__10 : Room := { frames := 1, cells := 0, slots := 0, locals := 21 }
def b_X_X4_hasRow__10_37  (t : fw_S) (z0 : Int32) : Option (Int32 × fw_S) := fb_g (z0 = 0 ∨ z0 = 1) (some (z0, t))
def b_X_X4_hasRow__10_36  (t : fw_S)  : Option (Int32 × fw_S) := b_X_X4_hasRow__10_37 t ((0 : Int32))
def b_X_X4_hasRow__10_32  (t : fw_S)  : Option (Int32 × fw_S) := b_X_X4_hasRow__10_37 t ((1 : Int32))
def b_X_X4_hasRow__10_16  (t : fw_S) (x1 : Int32) (x2 : Int32) (x3 : Int32) : Option (Int32 × fw_S) := fb_g (¬ (x1 < 0 ∨ 4 ≤ x1.toNatClampNeg)) (if 0 < (lg_cmp (x2.toInt64 + x3.toInt64) ((st_F t 30 x1.toNatClampNeg).toInt64)) then b_X_X4_hasRow__10_36 t else b_X_X4_hasRow__10_32 t)
def b_X_X4_hasRow__10_12  (t : fw_S) (x1 : Int32) (x2 : Int32) (x3 : Int32) : Option (Int32 × fw_S) := if x3 < 0 then b_X_X4_hasRow__10_36 t else b_X_X4_hasRow__10_16 t x1 x2 x3
def b_X_X4_hasRow__10_8  (t : fw_S) (x1 : Int32) (x2 : Int32) (x3 : Int32) : Option (Int32 × fw_S) := if x2 < 0 then b_X_X4_hasRow__10_36 t else b_X_X4_hasRow__10_12 t x1 x2 x3
def b_X_X4_hasRow__10_0  (t : fw_S) (x1 : Int32) (x2 : Int32) (x3 : Int32) : Option (Int32 × fw_S) := fb_b (f_X_X4_isList__10 t x1) fun v_2 t_1 => (if v_2 = 0 then b_X_X4_hasRow__10_36 t_1 else b_X_X4_hasRow__10_8 t_1 x1 x2 x3)
def f_X_X4_hasRow__10 (t : fw_S) (x1 : Int32) (x2 : Int32) (x3 : Int32) : Option (Int32 × fw_S) := b_X_X4_hasRow__10_0 t x1 x2 x3
set_option maxRecDepth 20000 in
theorem w_X_X4_hasRow__10_37 {p : Program} {l : Launch} {e : Env} {s : State} {m : MethodId} {args : Array Value} {below : List Frame} {meth : Method} {c : Code} {A : Nat → Prop} {Q : State → Prop} {D : va_G} {ca : Nat → ClassId} {a : Nat → Nat} {u : fw_S} {r : Int32}  (C : CX (WX ca a) D (tyv ca) p s m args c A prog_6_method_5_code 4 RX4) (hr : (r = 0 ∨ r = 1) → RX (WX ca a) D p l e rm_X_X4_hasRow__10 s m args below meth c A prog_6_method_5_code Q .ireturn [.int r] u) {t : fw_S} {z0 : Int32} {H : Heap} {locs : List Loc} {ls : Array Slot} (hf : b_X_X4_hasRow__10_37  t z0 = some (r, u)) (hP : va_P D classes (WX ca a t) H) (hS : va_S A s.heap H locs) (hl : lv_has ls 4 []) : W p l e rm_X_X4_hasRow__10 s m args below meth c H locs 0 0 Q (F0 m 37 ls [.int z0]) := by
  obtain ⟨hx, hb, hml, hown, hts, hN, hK, hD, hA⟩ := id C
  have hf : (fb_g (z0 = 0 ∨ z0 = 1) (some (z0, t))) = some (r, u) := hf
  obtain ⟨h_37, hf⟩ := fb_if hf
  obtain ⟨e_37, e2_37⟩ := fb_e hf
  subst e_37; subst e2_37
  exact hr h_37 _ _ _ _ hP hS dX4_hasRow_37
set_option maxRecDepth 20000 in
theorem w_X_X4_hasRow__10_36 {p : Program} {l : Launch} {e : Env} {s : State} {m : MethodId} {args : Array Value} {below : List Frame} {meth : Method} {c : Code} {A : Nat → Prop} {Q : State → Prop} {D : va_G} {ca : Nat → ClassId} {a : Nat → Nat} {u : fw_S} {r : Int32}  (C : CX (WX ca a) D (tyv ca) p s m args c A prog_6_method_5_code 4 RX4) (hr : (r = 0 ∨ r = 1) → RX (WX ca a) D p l e rm_X_X4_hasRow__10 s m args below meth c A prog_6_method_5_code Q .ireturn [.int r] u) {t : fw_S}  {H : Heap} {locs : List Loc} {ls : Array Slot} (hf : b_X_X4_hasRow__10_36  t  = some (r, u)) (hP : va_P D classes (WX ca a t) H) (hS : va_S A s.heap H locs) (hl : lv_has ls 4 []) : W p l e rm_X_X4_hasRow__10 s m args below meth c H locs 0 0 Q (F0 m 36 ls []) := by
  obtain ⟨hx, hb, hml, hown, hts, hN, hK, hD, hA⟩ := id C
  have hf : (b_X_X4_hasRow__10_37 t ((0 : Int32))) = some (r, u) := hf
  refine lv_iconst (v := 0) hx hb dX4_hasRow_36 (by decide) ?_
  exact w_X_X4_hasRow__10_37 C hr hf hP hS (lv_sub hl [] rfl)
set_option maxRecDepth 20000 in
theorem w_X_X4_hasRow__10_32 {p : Program} {l : Launch} {e : Env} {s : State} {m : MethodId} {args : Array Value} {below : List Frame} {meth : Method} {c : Code} {A : Nat → Prop} {Q : State → Prop} {D : va_G} {ca : Nat → ClassId} {a : Nat → Nat} {u : fw_S} {r : Int32}  (C : CX (WX ca a) D (tyv ca) p s m args c A prog_6_method_5_code 4 RX4) (hr : (r = 0 ∨ r = 1) → RX (WX ca a) D p l e rm_X_X4_hasRow__10 s m args below meth c A prog_6_method_5_code Q .ireturn [.int r] u) {t : fw_S}  {H : Heap} {locs : List Loc} {ls : Array Slot} (hf : b_X_X4_hasRow__10_32  t  = some (r, u)) (hP : va_P D classes (WX ca a t) H) (hS : va_S A s.heap H locs) (hl : lv_has ls 4 []) : W p l e rm_X_X4_hasRow__10 s m args below meth c H locs 0 0 Q (F0 m 32 ls []) := by
  obtain ⟨hx, hb, hml, hown, hts, hN, hK, hD, hA⟩ := id C
  have hf : (b_X_X4_hasRow__10_37 t ((1 : Int32))) = some (r, u) := hf
  refine lv_iconst (v := 1) hx hb dX4_hasRow_32 (by decide) ?_
  refine lv_goto (tgt := 37) hx hb dX4_hasRow_33 (by decide) ?_
  exact w_X_X4_hasRow__10_37 C hr hf hP hS (lv_sub hl [] rfl)
set_option maxRecDepth 20000 in
theorem w_X_X4_hasRow__10_16 {p : Program} {l : Launch} {e : Env} {s : State} {m : MethodId} {args : Array Value} {below : List Frame} {meth : Method} {c : Code} {A : Nat → Prop} {Q : State → Prop} {D : va_G} {ca : Nat → ClassId} {a : Nat → Nat} {u : fw_S} {r : Int32}  (C : CX (WX ca a) D (tyv ca) p s m args c A prog_6_method_5_code 4 RX4) (hr : (r = 0 ∨ r = 1) → RX (WX ca a) D p l e rm_X_X4_hasRow__10 s m args below meth c A prog_6_method_5_code Q .ireturn [.int r] u) {t : fw_S} {x1 : Int32} {x2 : Int32} {x3 : Int32} {H : Heap} {locs : List Loc} {ls : Array Slot} (hf : b_X_X4_hasRow__10_16  t x1 x2 x3 = some (r, u)) (hP : va_P D classes (WX ca a t) H) (hS : va_S A s.heap H locs) (hl : lv_has ls 4 [(0, .ref (a 10)), (1, .int x1), (2, .int x2), (3, .int x3)]) : W p l e rm_X_X4_hasRow__10 s m args below meth c H locs 0 0 Q (F0 m 16 ls []) := by
  obtain ⟨hx, hb, hml, hown, hts, hN, hK, hD, hA⟩ := id C
  have hf : (fb_g (¬ (x1 < 0 ∨ 4 ≤ x1.toNatClampNeg)) (if 0 < (lg_cmp (x2.toInt64 + x3.toInt64) ((st_F t 30 x1.toNatClampNeg).toInt64)) then b_X_X4_hasRow__10_36 t else b_X_X4_hasRow__10_32 t)) = some (r, u) := hf
  refine lv_iload_n hx hb dX4_hasRow_16 rfl (lv_at hl 2 rfl) ?_
  refine lv_i2l hx hb dX4_hasRow_17 rfl ?_
  refine lv_iload_n hx hb dX4_hasRow_18 rfl (lv_at hl 3 rfl) ?_
  refine lv_i2l hx hb dX4_hasRow_19 rfl ?_
  refine lv_ladd hx hb dX4_hasRow_20 ?_
  refine lv_aload_n hx hb dX4_hasRow_21 rfl (lv_at hl 0 rfl) ?_
  refine va_get (D := D) (ci := 4) (v := .ref (a 59)) (C := RX4) (T := TX4) (N := 2) hx hb hts inX4 hown hK hP 10 (heX_10 ca a t) rfl 1 (by decide) (hts _ kw_333) (fun _ h9 => h9) rfl dX4_hasRow_22 ?_
  refine lv_iload_n hx hb dX4_hasRow_25 rfl (lv_at hl 1 rfl) ?_
  obtain ⟨h_26, hf⟩ := fb_if hf
  refine va_iald hx hb hK hP 59 0 (haX_59 ca a t) rfl h_26 dX4_hasRow_26 ?_
  refine lv_i2l hx hb dX4_hasRow_27 rfl ?_
  refine W.lcmp hx hb dX4_hasRow_28 ?_
  refine lv_if_gt (tgt := 36) hx hb dX4_hasRow_29 (by decide) (fun h_29 => ?_) (fun h_29 => ?_)
  · have hf := fb_t h_29 hf
    exact w_X_X4_hasRow__10_36 C hr hf hP hS (lv_sub hl [] rfl)
  · have hf := fb_f h_29 hf
    exact w_X_X4_hasRow__10_32 C hr hf hP hS (lv_sub hl [] rfl)
set_option maxRecDepth 20000 in
theorem w_X_X4_hasRow__10_12 {p : Program} {l : Launch} {e : Env} {s : State} {m : MethodId} {args : Array Value} {below : List Frame} {meth : Method} {c : Code} {A : Nat → Prop} {Q : State → Prop} {D : va_G} {ca : Nat → ClassId} {a : Nat → Nat} {u : fw_S} {r : Int32}  (C : CX (WX ca a) D (tyv ca) p s m args c A prog_6_method_5_code 4 RX4) (hr : (r = 0 ∨ r = 1) → RX (WX ca a) D p l e rm_X_X4_hasRow__10 s m args below meth c A prog_6_method_5_code Q .ireturn [.int r] u) {t : fw_S} {x1 : Int32} {x2 : Int32} {x3 : Int32} {H : Heap} {locs : List Loc} {ls : Array Slot} (hf : b_X_X4_hasRow__10_12  t x1 x2 x3 = some (r, u)) (hP : va_P D classes (WX ca a t) H) (hS : va_S A s.heap H locs) (hl : lv_has ls 4 [(0, .ref (a 10)), (1, .int x1), (2, .int x2), (3, .int x3)]) : W p l e rm_X_X4_hasRow__10 s m args below meth c H locs 0 0 Q (F0 m 12 ls []) := by
  obtain ⟨hx, hb, hml, hown, hts, hN, hK, hD, hA⟩ := id C
  have hf : (if x3 < 0 then b_X_X4_hasRow__10_36 t else b_X_X4_hasRow__10_16 t x1 x2 x3) = some (r, u) := hf
  refine lv_iload_n hx hb dX4_hasRow_12 rfl (lv_at hl 3 rfl) ?_
  refine lv_if_lt (tgt := 36) hx hb dX4_hasRow_13 (by decide) (fun h_13 => ?_) (fun h_13 => ?_)
  · have hf := fb_t h_13 hf
    exact w_X_X4_hasRow__10_36 C hr hf hP hS (lv_sub hl [] rfl)
  · have hf := fb_f h_13 hf
    exact w_X_X4_hasRow__10_16 C hr hf hP hS (lv_sub hl [0, 1, 2, 3] rfl)
set_option maxRecDepth 20000 in
theorem w_X_X4_hasRow__10_8 {p : Program} {l : Launch} {e : Env} {s : State} {m : MethodId} {args : Array Value} {below : List Frame} {meth : Method} {c : Code} {A : Nat → Prop} {Q : State → Prop} {D : va_G} {ca : Nat → ClassId} {a : Nat → Nat} {u : fw_S} {r : Int32}  (C : CX (WX ca a) D (tyv ca) p s m args c A prog_6_method_5_code 4 RX4) (hr : (r = 0 ∨ r = 1) → RX (WX ca a) D p l e rm_X_X4_hasRow__10 s m args below meth c A prog_6_method_5_code Q .ireturn [.int r] u) {t : fw_S} {x1 : Int32} {x2 : Int32} {x3 : Int32} {H : Heap} {locs : List Loc} {ls : Array Slot} (hf : b_X_X4_hasRow__10_8  t x1 x2 x3 = some (r, u)) (hP : va_P D classes (WX ca a t) H) (hS : va_S A s.heap H locs) (hl : lv_has ls 4 [(0, .ref (a 10)), (1, .int x1), (2, .int x2), (3, .int x3)]) : W p l e rm_X_X4_hasRow__10 s m args below meth c H locs 0 0 Q (F0 m 8 ls []) := by
  obtain ⟨hx, hb, hml, hown, hts, hN, hK, hD, hA⟩ := id C
  have hf : (if x2 < 0 then b_X_X4_hasRow__10_36 t else b_X_X4_hasRow__10_12 t x1 x2 x3) = some (r, u) := hf
  refine lv_iload_n hx hb dX4_hasRow_8 rfl (lv_at hl 2 rfl) ?_
  refine lv_if_lt (tgt := 36) hx hb dX4_hasRow_9 (by decide) (fun h_9 => ?_) (fun h_9 => ?_)
  · have hf := fb_t h_9 hf
    exact w_X_X4_hasRow__10_36 C hr hf hP hS (lv_sub hl [] rfl)
  · have hf := fb_f h_9 hf
    exact w_X_X4_hasRow__10_12 C hr hf hP hS (lv_sub hl [0, 1, 2, 3] rfl)
set_option maxRecDepth 20000 in
theorem w_X_X4_hasRow__10_0 {p : Program} {l : Launch} {e : Env} {s : State} {m : MethodId} {args : Array Value} {below : List Frame} {meth : Method} {c : Code} {A : Nat → Prop} {Q : State → Prop} {D : va_G} {ca : Nat → ClassId} {a : Nat → Nat} {u : fw_S} {r : Int32}  (C : CX (WX ca a) D (tyv ca) p s m args c A prog_6_method_5_code 4 RX4) (hr : (r = 0 ∨ r = 1) → RX (WX ca a) D p l e rm_X_X4_hasRow__10 s m args below meth c A prog_6_method_5_code Q .ireturn [.int r] u) {t : fw_S} {x1 : Int32} {x2 : Int32} {x3 : Int32} {H : Heap} {locs : List Loc} {ls : Array Slot} (hf : b_X_X4_hasRow__10_0  t x1 x2 x3 = some (r, u)) (hP : va_P D classes (WX ca a t) H) (hS : va_S A s.heap H locs) (hl : lv_has ls 4 [(0, .ref (a 10)), (1, .int x1), (2, .int x2), (3, .int x3)]) : W p l e rm_X_X4_hasRow__10 s m args below meth c H locs 0 0 Q (F0 m 0 ls []) := by
  obtain ⟨hx, hb, hml, hown, hts, hN, hK, hD, hA⟩ := id C
  have hf : (fb_b (f_X_X4_isList__10 t x1) fun v_2 t_1 => (if v_2 = 0 then b_X_X4_hasRow__10_36 t_1 else b_X_X4_hasRow__10_8 t_1 x1 x2 x3)) = some (r, u) := hf
  refine lv_aload_n hx hb dX4_hasRow_0 rfl (lv_at hl 0 rfl) ?_
  refine lv_iload_n hx hb dX4_hasRow_1 rfl (lv_at hl 1 rfl) ?_
  obtain ⟨v_2, t_1, g_2, hf⟩ := fb_bs hf
  refine fw_V1 (As := [.int x1]) (rest := []) (n := 1) (q0 := 10) C (c_X_X4_isList__10 (l := l) (D := D) (ca := ca) (a := a) g_2) kw_1111 kw_1104 kw_100 kw_1106 kw_1105 hP hS hl (heX_10 ca a t) rfl rfl rfl (by decide) (by decide +kernel) ⟨Nat.le_of_ble_eq_true rfl, Nat.le_of_ble_eq_true rfl⟩ rfl rfl (Nat.le_of_ble_eq_true rfl) dX4_hasRow_2 (fun H locs hP hS => ?_)
  refine W.eq (g2 := F0 m 5 ls [.int v_2]) rfl ?_
  refine lv_if_eq (tgt := 36) hx hb dX4_hasRow_5 (by decide) (fun h_5 => ?_) (fun h_5 => ?_)
  · have hf := fb_t h_5 hf
    exact w_X_X4_hasRow__10_36 C hr hf hP hS (lv_sub hl [] rfl)
  · have hf := fb_f h_5 hf
    exact w_X_X4_hasRow__10_8 C hr hf hP hS (lv_sub hl [0, 1, 2, 3] rfl)
set_option maxRecDepth 20000 in
theorem c_X_X4_hasRow__10 {l : Launch} {D : va_G} {ca : Nat → ClassId} {a : Nat → Nat} {t : fw_S} {x1 : Int32} {x2 : Int32} {x3 : Int32} {u : fw_S} {r : Int32} (hf : f_X_X4_hasRow__10 t x1 x2 x3 = some (r, u)) : MC (WX ca a) D (tyv ca) l yX4_hasRow (.code yX4_hasRow prog_6_method_5_code 4 (some .boolean) :: lw_gd) rm_X_X4_hasRow__10 [.ref (a 10), .int x1, .int x2, .int x3] (some (.int r)) t u := by
  refine fw_met (okX ca a) (by decide +kernel) rfl rfl (Nat.le_of_ble_eq_true rfl) ?_
  intro p e s m args below meth c A Q ls C hr hk hP hS hl hQ
  exact w_X_X4_hasRow__10_0 C (fun hz => fw_rz C hr hk hz hQ) hf hP hS (lv_sub hl [0, 1, 2, 3] rfl)
/-! ReactiveSheet.Lists.carry(IIIII)V ['x.lists'] -/
abbrev rm_X_X4_carry__10 : Room := { frames := 2, cells := 0, slots := 0, locals := 100 }
def b_X_X4_carry__10_49  (t : fw_S)  : Option fw_S := some t
def b_X_X4_carry__10_23  (t : fw_S) (x1 : Int32) (x2 : Int32) (x3 : Int32) (x4 : Int32) (x5 : Int32) : Option fw_S := fb_g (¬ ((x1 * ((40 : Int32))) + x2) < 0 ∧ ¬ ((x3 * ((40 : Int32))) + x4) < 0 ∧ ¬ x5 < 0 ∧ ((x1 * ((40 : Int32))) + x2).toNatClampNeg + x5.toNatClampNeg ≤ 160 ∧ ((x3 * ((40 : Int32))) + x4).toNatClampNeg + x5.toNatClampNeg ≤ 160) (fb_l (up_G t 10 (va_cpy (st_G t 10) (st_G t 10) ((x1 * ((40 : Int32))) + x2).toNatClampNeg ((x3 * ((40 : Int32))) + x4).toNatClampNeg x5.toNatClampNeg)) fun t_1 => (b_X_X4_carry__10_49 t_1))
def b_X_X4_carry__10_11  (t : fw_S) (x1 : Int32) (x2 : Int32) (x3 : Int32) (x4 : Int32) (x5 : Int32) : Option fw_S := fb_b (f_X_X4_hasRow__10 t x3 x4 x5) fun v_2 t_1 => (if v_2 = 0 then b_X_X4_carry__10_49 t_1 else b_X_X4_carry__10_23 t_1 x1 x2 x3 x4 x5)
def b_X_X4_carry__10_0  (t : fw_S) (x1 : Int32) (x2 : Int32) (x3 : Int32) (x4 : Int32) (x5 : Int32) : Option fw_S := fb_b (f_X_X4_hasRow__10 t x1 x2 x5) fun v_2 t_1 => (if v_2 = 0 then b_X_X4_carry__10_49 t_1 else b_X_X4_carry__10_11 t_1 x1 x2 x3 x4 x5)
def f_X_X4_carry__10 (t : fw_S) (x1 : Int32) (x2 : Int32) (x3 : Int32) (x4 : Int32) (x5 : Int32) : Option fw_S := b_X_X4_carry__10_0 t x1 x2 x3 x4 x5
set_option maxRecDepth 20000 in
theorem w_X_X4_carry__10_49 {p : Program} {l : Launch} {e : Env} {s : State} {m : MethodId} {args : Array Value} {below : List Frame} {meth : Method} {c : Code} {A : Nat → Prop} {Q : State → Prop} {D : va_G} {ca : Nat → ClassId} {a : Nat → Nat} {u : fw_S}  (C : CX (WX ca a) D (tyv ca) p s m args c A prog_6_method_9_code 6 RX4) (hr : True → RX (WX ca a) D p l e rm_X_X4_carry__10 s m args below meth c A prog_6_method_9_code Q .return_ [] u) {t : fw_S}  {H : Heap} {locs : List Loc} {ls : Array Slot} (hf : b_X_X4_carry__10_49  t  = some u) (hP : va_P D classes (WX ca a t) H) (hS : va_S A s.heap H locs) (hl : lv_has ls 6 []) : W p l e rm_X_X4_carry__10 s m args below meth c H locs 0 0 Q (F0 m 49 ls []) := by
  obtain ⟨hx, hb, hml, hown, hts, hN, hK, hD, hA⟩ := id C
  have hf : (some t) = some u := hf
  have e_49 := fb_ev hf
  subst e_49
  exact hr trivial _ _ _ _ hP hS dX4_carry_49
set_option maxRecDepth 20000 in
theorem w_X_X4_carry__10_23 {p : Program} {l : Launch} {e : Env} {s : State} {m : MethodId} {args : Array Value} {below : List Frame} {meth : Method} {c : Code} {A : Nat → Prop} {Q : State → Prop} {D : va_G} {ca : Nat → ClassId} {a : Nat → Nat} {u : fw_S}  (C : CX (WX ca a) D (tyv ca) p s m args c A prog_6_method_9_code 6 RX4) (hr : True → RX (WX ca a) D p l e rm_X_X4_carry__10 s m args below meth c A prog_6_method_9_code Q .return_ [] u) {t : fw_S} {x1 : Int32} {x2 : Int32} {x3 : Int32} {x4 : Int32} {x5 : Int32} {H : Heap} {locs : List Loc} {ls : Array Slot} (hf : b_X_X4_carry__10_23  t x1 x2 x3 x4 x5 = some u) (hP : va_P D classes (WX ca a t) H) (hS : va_S A s.heap H locs) (hl : lv_has ls 6 [(0, .ref (a 10)), (1, .int x1), (2, .int x2), (3, .int x3), (4, .int x4), (5, .int x5)]) : W p l e rm_X_X4_carry__10 s m args below meth c H locs 0 0 Q (F0 m 23 ls []) := by
  obtain ⟨hx, hb, hml, hown, hts, hN, hK, hD, hA⟩ := id C
  have hf : (fb_g (¬ ((x1 * ((40 : Int32))) + x2) < 0 ∧ ¬ ((x3 * ((40 : Int32))) + x4) < 0 ∧ ¬ x5 < 0 ∧ ((x1 * ((40 : Int32))) + x2).toNatClampNeg + x5.toNatClampNeg ≤ 160 ∧ ((x3 * ((40 : Int32))) + x4).toNatClampNeg + x5.toNatClampNeg ≤ 160) (fb_l (up_G t 10 (va_cpy (st_G t 10) (st_G t 10) ((x1 * ((40 : Int32))) + x2).toNatClampNeg ((x3 * ((40 : Int32))) + x4).toNatClampNeg x5.toNatClampNeg)) fun t_1 => (b_X_X4_carry__10_49 t_1))) = some u := hf
  refine lv_aload_n hx hb dX4_carry_23 rfl (lv_at hl 0 rfl) ?_
  refine va_get (D := D) (ci := 4) (v := .ref (a 58)) (C := RX4) (T := TX4) (N := 2) hx hb hts inX4 hown hK hP 10 (heX_10 ca a t) rfl 0 (by decide) (hts _ kw_332) (fun _ h9 => h9) rfl dX4_carry_24 ?_
  refine lv_iload_n hx hb dX4_carry_27 rfl (lv_at hl 1 rfl) ?_
  refine lv_bipush (v := 40) hx hb dX4_carry_28 (by decide) ?_
  refine lv_imul hx hb dX4_carry_30 ?_
  refine lv_iload_n hx hb dX4_carry_31 rfl (lv_at hl 2 rfl) ?_
  refine lv_iadd hx hb dX4_carry_32 ?_
  refine lv_aload_n hx hb dX4_carry_33 rfl (lv_at hl 0 rfl) ?_
  refine va_get (D := D) (ci := 4) (v := .ref (a 58)) (C := RX4) (T := TX4) (N := 2) hx hb hts inX4 hown hK hP 10 (heX_10 ca a t) rfl 0 (by decide) (hts _ kw_332) (fun _ h9 => h9) rfl dX4_carry_34 ?_
  refine lv_iload_n hx hb dX4_carry_37 rfl (lv_at hl 3 rfl) ?_
  refine lv_bipush (v := 40) hx hb dX4_carry_38 (by decide) ?_
  refine lv_imul hx hb dX4_carry_40 ?_
  refine lv_iload hx hb dX4_carry_41 (lv_at hl 4 rfl) ?_
  refine lv_iadd hx hb dX4_carry_43 ?_
  refine lv_iload hx hb dX4_carry_44 (lv_at hl 5 rfl) ?_
  obtain ⟨⟨h1_46, h2_46, h3_46, h4_46, h5_46⟩, hf⟩ := fb_if hf
  refine va_copyl hx hb (hml.trans hl.1.symm) hown (hts _ kw_1158) (hts _ kw_424) (hts _ kw_423) (hts _ kw_103) hK hP (hD t) hS 58 58 1 1 (haX_58 ca a t) (haX_58 ca a t) rfl rfl rfl h1_46 h2_46 h3_46 h4_46 h5_46 (fun _ _ => rfl) (Nat.le_of_ble_eq_true rfl) (Nat.le_of_ble_eq_true rfl) dX4_carry_46 (fun H locs hP _ hS => ?_)
  rw [saX_58] at hP
  obtain ⟨t_1, e_46, hf⟩ := fb_ls hf
  rw [← e_46] at hP
  exact w_X_X4_carry__10_49 C hr hf hP hS (lv_sub hl [] rfl)
set_option maxRecDepth 20000 in
theorem w_X_X4_carry__10_11 {p : Program} {l : Launch} {e : Env} {s : State} {m : MethodId} {args : Array Value} {below : List Frame} {meth : Method} {c : Code} {A : Nat → Prop} {Q : State → Prop} {D : va_G} {ca : Nat → ClassId} {a : Nat → Nat} {u : fw_S}  (C : CX (WX ca a) D (tyv ca) p s m args c A prog_6_method_9_code 6 RX4) (hr : True → RX (WX ca a) D p l e rm_X_X4_carry__10 s m args below meth c A prog_6_method_9_code Q .return_ [] u) {t : fw_S} {x1 : Int32} {x2 : Int32} {x3 : Int32} {x4 : Int32} {x5 : Int32} {H : Heap} {locs : List Loc} {ls : Array Slot} (hf : b_X_X4_carry__10_11  t x1 x2 x3 x4 x5 = some u) (hP : va_P D classes (WX ca a t) H) (hS : va_S A s.heap H locs) (hl : lv_has ls 6 [(0, .ref (a 10)), (1, .int x1), (2, .int x2), (3, .int x3), (4, .int x4), (5, .int x5)]) : W p l e rm_X_X4_carry__10 s m args below meth c H locs 0 0 Q (F0 m 11 ls []) := by
  obtain ⟨hx, hb, hml, hown, hts, hN, hK, hD, hA⟩ := id C
  have hf : (fb_b (f_X_X4_hasRow__10 t x3 x4 x5) fun v_2 t_1 => (if v_2 = 0 then b_X_X4_carry__10_49 t_1 else b_X_X4_carry__10_23 t_1 x1 x2 x3 x4 x5)) = some u := hf
  refine lv_aload_n hx hb dX4_carry_11 rfl (lv_at hl 0 rfl) ?_
  refine lv_iload_n hx hb dX4_carry_12 rfl (lv_at hl 3 rfl) ?_
  refine lv_iload hx hb dX4_carry_13 (lv_at hl 4 rfl) ?_
  refine lv_iload hx hb dX4_carry_15 (lv_at hl 5 rfl) ?_
  obtain ⟨v_2, t_1, g_17, hf⟩ := fb_bs hf
  refine fw_V1 (As := [.int x3, .int x4, .int x5]) (rest := []) (n := 3) (q0 := 10) C (c_X_X4_hasRow__10 (l := l) (D := D) (ca := ca) (a := a) g_17) kw_1157 kw_1150 kw_100 kw_1152 kw_1151 hP hS hl (heX_10 ca a t) rfl rfl rfl (by decide) (by decide +kernel) ⟨Nat.le_of_ble_eq_true rfl, Nat.le_of_ble_eq_true rfl⟩ rfl rfl (Nat.le_of_ble_eq_true rfl) dX4_carry_17 (fun H locs hP hS => ?_)
  refine W.eq (g2 := F0 m 20 ls [.int v_2]) rfl ?_
  refine lv_if_eq (tgt := 49) hx hb dX4_carry_20 (by decide) (fun h_20 => ?_) (fun h_20 => ?_)
  · have hf := fb_t h_20 hf
    exact w_X_X4_carry__10_49 C hr hf hP hS (lv_sub hl [] rfl)
  · have hf := fb_f h_20 hf
    exact w_X_X4_carry__10_23 C hr hf hP hS (lv_sub hl [0, 1, 2, 3, 4, 5] rfl)
set_option maxRecDepth 20000 in
theorem w_X_X4_carry__10_0 {p : Program} {l : Launch} {e : Env} {s : State} {m : MethodId} {args : Array Value} {below : List Frame} {meth : Method} {c : Code} {A : Nat → Prop} {Q : State → Prop} {D : va_G} {ca : Nat → ClassId} {a : Nat → Nat} {u : fw_S}  (C : CX (WX ca a) D (tyv ca) p s m args c A prog_6_method_9_code 6 RX4) (hr : True → RX (WX ca a) D p l e rm_X_X4_carry__10 s m args below meth c A prog_6_method_9_code Q .return_ [] u) {t : fw_S} {x1 : Int32} {x2 : Int32} {x3 : Int32} {x4 : Int32} {x5 : Int32} {H : Heap} {locs : List Loc} {ls : Array Slot} (hf : b_X_X4_carry__10_0  t x1 x2 x3 x4 x5 = some u) (hP : va_P D classes (WX ca a t) H) (hS : va_S A s.heap H locs) (hl : lv_has ls 6 [(0, .ref (a 10)), (1, .int x1), (2, .int x2), (3, .int x3), (4, .int x4), (5, .int x5)]) : W p l e rm_X_X4_carry__10 s m args below meth c H locs 0 0 Q (F0 m 0 ls []) := by
  obtain ⟨hx, hb, hml, hown, hts, hN, hK, hD, hA⟩ := id C
  have hf : (fb_b (f_X_X4_hasRow__10 t x1 x2 x5) fun v_2 t_1 => (if v_2 = 0 then b_X_X4_carry__10_49 t_1 else b_X_X4_carry__10_11 t_1 x1 x2 x3 x4 x5)) = some u := hf
  refine lv_aload_n hx hb dX4_carry_0 rfl (lv_at hl 0 rfl) ?_
  refine lv_iload_n hx hb dX4_carry_1 rfl (lv_at hl 1 rfl) ?_
  refine lv_iload_n hx hb dX4_carry_2 rfl (lv_at hl 2 rfl) ?_
  refine lv_iload hx hb dX4_carry_3 (lv_at hl 5 rfl) ?_
  obtain ⟨v_2, t_1, g_5, hf⟩ := fb_bs hf
  refine fw_V1 (As := [.int x1, .int x2, .int x5]) (rest := []) (n := 3) (q0 := 10) C (c_X_X4_hasRow__10 (l := l) (D := D) (ca := ca) (a := a) g_5) kw_1157 kw_1150 kw_100 kw_1152 kw_1151 hP hS hl (heX_10 ca a t) rfl rfl rfl (by decide) (by decide +kernel) ⟨Nat.le_of_ble_eq_true rfl, Nat.le_of_ble_eq_true rfl⟩ rfl rfl (Nat.le_of_ble_eq_true rfl) dX4_carry_5 (fun H locs hP hS => ?_)
  refine W.eq (g2 := F0 m 8 ls [.int v_2]) rfl ?_
  refine lv_if_eq (tgt := 49) hx hb dX4_carry_8 (by decide) (fun h_8 => ?_) (fun h_8 => ?_)
  · have hf := fb_t h_8 hf
    exact w_X_X4_carry__10_49 C hr hf hP hS (lv_sub hl [] rfl)
  · have hf := fb_f h_8 hf
    exact w_X_X4_carry__10_11 C hr hf hP hS (lv_sub hl [0, 1, 2, 3, 4, 5] rfl)
set_option maxRecDepth 20000 in
theorem c_X_X4_carry__10 {l : Launch} {D : va_G} {ca : Nat → ClassId} {a : Nat → Nat} {t : fw_S} {x1 : Int32} {x2 : Int32} {x3 : Int32} {x4 : Int32} {x5 : Int32} {u : fw_S} (hf : f_X_X4_carry__10 t x1 x2 x3 x4 x5 = some u) : MC (WX ca a) D (tyv ca) l yX4_carry (.code yX4_carry prog_6_method_9_code 6 none :: lw_gd) rm_X_X4_carry__10 [.ref (a 10), .int x1, .int x2, .int x3, .int x4, .int x5] none t u := by
  refine fw_met (okX ca a) (by decide +kernel) rfl rfl (Nat.le_of_ble_eq_true rfl) ?_
  intro p e s m args below meth c A Q ls C hr hk hP hS hl hQ
  exact w_X_X4_carry__10_0 C (fun _ => fw_rv C hr hk hQ) hf hP hS (lv_sub hl [0, 1, 2, 3, 4, 5] rfl)
/-! ReactiveSheet.move(IIIII)I ['x'] -/
abbrev rm_X_X10_move__0 : Room := { frames := 3, cells := 0, slots := 0, locals := 125 }
def b_X_X10_move__0_22  (t : fw_S)  : Option (Int32 × fw_S) := some ((-1 : Int32), t)
def b_X_X10_move__0_46  (t : fw_S)  : Option (Int32 × fw_S) := some ((-11 : Int32), t)
def b_X_X10_move__0_78  (t : fw_S)  : Option (Int32 × fw_S) := some ((-13 : Int32), t)
def b_X_X10_move__0_81  (t : fw_S) (x1 : Int32) (x2 : Int32) (x3 : Int32) (x4 : Int32) (x5 : Int32) : Option (Int32 × fw_S) := fb_v (f_X_X4_carry__10 t x1 x2 x3 x4 x5) fun t_1 => (some (x5, t_1))
def b_X_X10_move__0_63  (t : fw_S) (x1 : Int32) (x2 : Int32) (x3 : Int32) (x4 : Int32) (x5 : Int32) : Option (Int32 × fw_S) := fb_b (f_X_X4_hasRow__10 t x3 x4 x5) fun v_2 t_1 => (if v_2 = 0 then b_X_X10_move__0_78 t_1 else b_X_X10_move__0_81 t_1 x1 x2 x3 x4 x5)
def b_X_X10_move__0_49  (t : fw_S) (x1 : Int32) (x2 : Int32) (x3 : Int32) (x4 : Int32) (x5 : Int32) : Option (Int32 × fw_S) := fb_b (f_X_X4_hasRow__10 t x1 x2 x5) fun v_2 t_1 => (if v_2 = 0 then b_X_X10_move__0_78 t_1 else b_X_X10_move__0_63 t_1 x1 x2 x3 x4 x5)
def b_X_X10_move__0_35  (t : fw_S) (x1 : Int32) (x2 : Int32) (x3 : Int32) (x4 : Int32) (x5 : Int32) : Option (Int32 × fw_S) := fb_b (f_X_X4_isMade__10 t x3) fun v_2 t_1 => (if v_2 = 0 then b_X_X10_move__0_46 t_1 else b_X_X10_move__0_49 t_1 x1 x2 x3 x4 x5)
def b_X_X10_move__0_24  (t : fw_S) (x1 : Int32) (x2 : Int32) (x3 : Int32) (x4 : Int32) (x5 : Int32) : Option (Int32 × fw_S) := fb_b (f_X_X4_isMade__10 t x1) fun v_2 t_1 => (if v_2 = 0 then b_X_X10_move__0_46 t_1 else b_X_X10_move__0_35 t_1 x1 x2 x3 x4 x5)
def b_X_X10_move__0_11  (t : fw_S) (x1 : Int32) (x2 : Int32) (x3 : Int32) (x4 : Int32) (x5 : Int32) : Option (Int32 × fw_S) := fb_b (f_X_X4_isList__10 t x3) fun v_2 t_1 => (if v_2 = 0 then b_X_X10_move__0_22 t_1 else b_X_X10_move__0_24 t_1 x1 x2 x3 x4 x5)
def b_X_X10_move__0_0  (t : fw_S) (x1 : Int32) (x2 : Int32) (x3 : Int32) (x4 : Int32) (x5 : Int32) : Option (Int32 × fw_S) := fb_b (f_X_X4_isList__10 t x1) fun v_2 t_1 => (if v_2 = 0 then b_X_X10_move__0_22 t_1 else b_X_X10_move__0_11 t_1 x1 x2 x3 x4 x5)
def f_X_X10_move__0 (t : fw_S) (x1 : Int32) (x2 : Int32) (x3 : Int32) (x4 : Int32) (x5 : Int32) : Option (Int32 × fw_S) := b_X_X10_move__0_0 t x1 x2 x3 x4 x5
set_option maxRecDepth 20000 in
theorem w_X_X10_move__0_22 {p : Program} {l : Launch} {e : Env} {s : State} {m : MethodId} {args : Array Value} {below : List Frame} {meth : Method} {c : Code} {A : Nat → Prop} {Q : State → Prop} {D : va_G} {ca : Nat → ClassId} {a : Nat → Nat} {u : fw_S} {r : Int32}  (C : CX (WX ca a) D (tyv ca) p s m args c A prog_1_method_33_code 6 RX10) (hr : True → RX (WX ca a) D p l e rm_X_X10_move__0 s m args below meth c A prog_1_method_33_code Q .ireturn [.int r] u) {t : fw_S}  {H : Heap} {locs : List Loc} {ls : Array Slot} (hf : b_X_X10_move__0_22  t  = some (r, u)) (hP : va_P D classes (WX ca a t) H) (hS : va_S A s.heap H locs) (hl : lv_has ls 6 []) : W p l e rm_X_X10_move__0 s m args below meth c H locs 0 0 Q (F0 m 22 ls []) := by
  obtain ⟨hx, hb, hml, hown, hts, hN, hK, hD, hA⟩ := id C
  have hf : (some ((-1 : Int32), t)) = some (r, u) := hf
  refine lv_iconst (v := (-1)) hx hb dX10_move_22 (by decide) ?_
  obtain ⟨e_23, e2_23⟩ := fb_e hf
  subst e_23; subst e2_23
  exact hr trivial _ _ _ _ hP hS dX10_move_23
set_option maxRecDepth 20000 in
theorem w_X_X10_move__0_46 {p : Program} {l : Launch} {e : Env} {s : State} {m : MethodId} {args : Array Value} {below : List Frame} {meth : Method} {c : Code} {A : Nat → Prop} {Q : State → Prop} {D : va_G} {ca : Nat → ClassId} {a : Nat → Nat} {u : fw_S} {r : Int32}  (C : CX (WX ca a) D (tyv ca) p s m args c A prog_1_method_33_code 6 RX10) (hr : True → RX (WX ca a) D p l e rm_X_X10_move__0 s m args below meth c A prog_1_method_33_code Q .ireturn [.int r] u) {t : fw_S}  {H : Heap} {locs : List Loc} {ls : Array Slot} (hf : b_X_X10_move__0_46  t  = some (r, u)) (hP : va_P D classes (WX ca a t) H) (hS : va_S A s.heap H locs) (hl : lv_has ls 6 []) : W p l e rm_X_X10_move__0 s m args below meth c H locs 0 0 Q (F0 m 46 ls []) := by
  obtain ⟨hx, hb, hml, hown, hts, hN, hK, hD, hA⟩ := id C
  have hf : (some ((-11 : Int32), t)) = some (r, u) := hf
  refine lv_bipush (v := (-11)) hx hb dX10_move_46 (by decide) ?_
  obtain ⟨e_48, e2_48⟩ := fb_e hf
  subst e_48; subst e2_48
  exact hr trivial _ _ _ _ hP hS dX10_move_48
set_option maxRecDepth 20000 in
theorem w_X_X10_move__0_78 {p : Program} {l : Launch} {e : Env} {s : State} {m : MethodId} {args : Array Value} {below : List Frame} {meth : Method} {c : Code} {A : Nat → Prop} {Q : State → Prop} {D : va_G} {ca : Nat → ClassId} {a : Nat → Nat} {u : fw_S} {r : Int32}  (C : CX (WX ca a) D (tyv ca) p s m args c A prog_1_method_33_code 6 RX10) (hr : True → RX (WX ca a) D p l e rm_X_X10_move__0 s m args below meth c A prog_1_method_33_code Q .ireturn [.int r] u) {t : fw_S}  {H : Heap} {locs : List Loc} {ls : Array Slot} (hf : b_X_X10_move__0_78  t  = some (r, u)) (hP : va_P D classes (WX ca a t) H) (hS : va_S A s.heap H locs) (hl : lv_has ls 6 []) : W p l e rm_X_X10_move__0 s m args below meth c H locs 0 0 Q (F0 m 78 ls []) := by
  obtain ⟨hx, hb, hml, hown, hts, hN, hK, hD, hA⟩ := id C
  have hf : (some ((-13 : Int32), t)) = some (r, u) := hf
  refine lv_bipush (v := (-13)) hx hb dX10_move_78 (by decide) ?_
  obtain ⟨e_80, e2_80⟩ := fb_e hf
  subst e_80; subst e2_80
  exact hr trivial _ _ _ _ hP hS dX10_move_80
set_option maxRecDepth 20000 in
theorem w_X_X10_move__0_81 {p : Program} {l : Launch} {e : Env} {s : State} {m : MethodId} {args : Array Value} {below : List Frame} {meth : Method} {c : Code} {A : Nat → Prop} {Q : State → Prop} {D : va_G} {ca : Nat → ClassId} {a : Nat → Nat} {u : fw_S} {r : Int32}  (C : CX (WX ca a) D (tyv ca) p s m args c A prog_1_method_33_code 6 RX10) (hr : True → RX (WX ca a) D p l e rm_X_X10_move__0 s m args below meth c A prog_1_method_33_code Q .ireturn [.int r] u) {t : fw_S} {x1 : Int32} {x2 : Int32} {x3 : Int32} {x4 : Int32} {x5 : Int32} {H : Heap} {locs : List Loc} {ls : Array Slot} (hf : b_X_X10_move__0_81  t x1 x2 x3 x4 x5 = some (r, u)) (hP : va_P D classes (WX ca a t) H) (hS : va_S A s.heap H locs) (hl : lv_has ls 6 [(0, .ref (a 0)), (1, .int x1), (2, .int x2), (3, .int x3), (4, .int x4), (5, .int x5)]) : W p l e rm_X_X10_move__0 s m args below meth c H locs 0 0 Q (F0 m 81 ls []) := by
  obtain ⟨hx, hb, hml, hown, hts, hN, hK, hD, hA⟩ := id C
  have hf : (fb_v (f_X_X4_carry__10 t x1 x2 x3 x4 x5) fun t_1 => (some (x5, t_1))) = some (r, u) := hf
  refine lv_aload_n hx hb dX10_move_81 rfl (lv_at hl 0 rfl) ?_
  refine va_get (D := D) (ci := 10) (v := .ref (a 10)) (C := RX10) (T := TX10) (N := 13) hx hb hts inX10 hown hK hP 0 (heX_0 ca a t) rfl 7 (by decide) (hts _ kw_361) (fun _ h9 => h9) rfl dX10_move_82 ?_
  refine lv_iload_n hx hb dX10_move_85 rfl (lv_at hl 1 rfl) ?_
  refine lv_iload_n hx hb dX10_move_86 rfl (lv_at hl 2 rfl) ?_
  refine lv_iload_n hx hb dX10_move_87 rfl (lv_at hl 3 rfl) ?_
  refine lv_iload hx hb dX10_move_88 (lv_at hl 4 rfl) ?_
  refine lv_iload hx hb dX10_move_90 (lv_at hl 5 rfl) ?_
  obtain ⟨t_1, g_92, hf⟩ := fb_vs hf
  refine fw_V1 (As := [.int x1, .int x2, .int x3, .int x4, .int x5]) (rest := []) (n := 5) (q0 := 10) C (c_X_X4_carry__10 (l := l) (D := D) (ca := ca) (a := a) g_92) kw_1153 kw_1154 kw_100 kw_1156 kw_1155 hP hS hl (heX_10 ca a t) rfl rfl rfl (by decide) (by decide +kernel) ⟨Nat.le_of_ble_eq_true rfl, Nat.le_of_ble_eq_true rfl⟩ rfl rfl (Nat.le_of_ble_eq_true rfl) dX10_move_92 (fun H locs hP hS => ?_)
  refine W.eq (g2 := F0 m 95 ls []) rfl ?_
  refine lv_iload hx hb dX10_move_95 (lv_at hl 5 rfl) ?_
  obtain ⟨e_97, e2_97⟩ := fb_e hf
  subst e_97; subst e2_97
  exact hr trivial _ _ _ _ hP hS dX10_move_97
set_option maxRecDepth 20000 in
theorem w_X_X10_move__0_63 {p : Program} {l : Launch} {e : Env} {s : State} {m : MethodId} {args : Array Value} {below : List Frame} {meth : Method} {c : Code} {A : Nat → Prop} {Q : State → Prop} {D : va_G} {ca : Nat → ClassId} {a : Nat → Nat} {u : fw_S} {r : Int32}  (C : CX (WX ca a) D (tyv ca) p s m args c A prog_1_method_33_code 6 RX10) (hr : True → RX (WX ca a) D p l e rm_X_X10_move__0 s m args below meth c A prog_1_method_33_code Q .ireturn [.int r] u) {t : fw_S} {x1 : Int32} {x2 : Int32} {x3 : Int32} {x4 : Int32} {x5 : Int32} {H : Heap} {locs : List Loc} {ls : Array Slot} (hf : b_X_X10_move__0_63  t x1 x2 x3 x4 x5 = some (r, u)) (hP : va_P D classes (WX ca a t) H) (hS : va_S A s.heap H locs) (hl : lv_has ls 6 [(0, .ref (a 0)), (1, .int x1), (2, .int x2), (3, .int x3), (4, .int x4), (5, .int x5)]) : W p l e rm_X_X10_move__0 s m args below meth c H locs 0 0 Q (F0 m 63 ls []) := by
  obtain ⟨hx, hb, hml, hown, hts, hN, hK, hD, hA⟩ := id C
  have hf : (fb_b (f_X_X4_hasRow__10 t x3 x4 x5) fun v_2 t_1 => (if v_2 = 0 then b_X_X10_move__0_78 t_1 else b_X_X10_move__0_81 t_1 x1 x2 x3 x4 x5)) = some (r, u) := hf
  refine lv_aload_n hx hb dX10_move_63 rfl (lv_at hl 0 rfl) ?_
  refine va_get (D := D) (ci := 10) (v := .ref (a 10)) (C := RX10) (T := TX10) (N := 13) hx hb hts inX10 hown hK hP 0 (heX_0 ca a t) rfl 7 (by decide) (hts _ kw_361) (fun _ h9 => h9) rfl dX10_move_64 ?_
  refine lv_iload_n hx hb dX10_move_67 rfl (lv_at hl 3 rfl) ?_
  refine lv_iload hx hb dX10_move_68 (lv_at hl 4 rfl) ?_
  refine lv_iload hx hb dX10_move_70 (lv_at hl 5 rfl) ?_
  obtain ⟨v_2, t_1, g_72, hf⟩ := fb_bs hf
  refine fw_V1 (As := [.int x3, .int x4, .int x5]) (rest := []) (n := 3) (q0 := 10) C (c_X_X4_hasRow__10 (l := l) (D := D) (ca := ca) (a := a) g_72) kw_1149 kw_1150 kw_100 kw_1152 kw_1151 hP hS hl (heX_10 ca a t) rfl rfl rfl (by decide) (by decide +kernel) ⟨Nat.le_of_ble_eq_true rfl, Nat.le_of_ble_eq_true rfl⟩ rfl rfl (Nat.le_of_ble_eq_true rfl) dX10_move_72 (fun H locs hP hS => ?_)
  refine W.eq (g2 := F0 m 75 ls [.int v_2]) rfl ?_
  refine lv_if_ne (tgt := 81) hx hb dX10_move_75 (by decide) (fun h_75 => ?_) (fun h_75 => ?_)
  · have hf := fb_f h_75 hf
    exact w_X_X10_move__0_81 C hr hf hP hS (lv_sub hl [0, 1, 2, 3, 4, 5] rfl)
  · have hf := fb_t h_75 hf
    exact w_X_X10_move__0_78 C hr hf hP hS (lv_sub hl [] rfl)
set_option maxRecDepth 20000 in
theorem w_X_X10_move__0_49 {p : Program} {l : Launch} {e : Env} {s : State} {m : MethodId} {args : Array Value} {below : List Frame} {meth : Method} {c : Code} {A : Nat → Prop} {Q : State → Prop} {D : va_G} {ca : Nat → ClassId} {a : Nat → Nat} {u : fw_S} {r : Int32}  (C : CX (WX ca a) D (tyv ca) p s m args c A prog_1_method_33_code 6 RX10) (hr : True → RX (WX ca a) D p l e rm_X_X10_move__0 s m args below meth c A prog_1_method_33_code Q .ireturn [.int r] u) {t : fw_S} {x1 : Int32} {x2 : Int32} {x3 : Int32} {x4 : Int32} {x5 : Int32} {H : Heap} {locs : List Loc} {ls : Array Slot} (hf : b_X_X10_move__0_49  t x1 x2 x3 x4 x5 = some (r, u)) (hP : va_P D classes (WX ca a t) H) (hS : va_S A s.heap H locs) (hl : lv_has ls 6 [(0, .ref (a 0)), (1, .int x1), (2, .int x2), (3, .int x3), (4, .int x4), (5, .int x5)]) : W p l e rm_X_X10_move__0 s m args below meth c H locs 0 0 Q (F0 m 49 ls []) := by
  obtain ⟨hx, hb, hml, hown, hts, hN, hK, hD, hA⟩ := id C
  have hf : (fb_b (f_X_X4_hasRow__10 t x1 x2 x5) fun v_2 t_1 => (if v_2 = 0 then b_X_X10_move__0_78 t_1 else b_X_X10_move__0_63 t_1 x1 x2 x3 x4 x5)) = some (r, u) := hf
  refine lv_aload_n hx hb dX10_move_49 rfl (lv_at hl 0 rfl) ?_
  refine va_get (D := D) (ci := 10) (v := .ref (a 10)) (C := RX10) (T := TX10) (N := 13) hx hb hts inX10 hown hK hP 0 (heX_0 ca a t) rfl 7 (by decide) (hts _ kw_361) (fun _ h9 => h9) rfl dX10_move_50 ?_
  refine lv_iload_n hx hb dX10_move_53 rfl (lv_at hl 1 rfl) ?_
  refine lv_iload_n hx hb dX10_move_54 rfl (lv_at hl 2 rfl) ?_
  refine lv_iload hx hb dX10_move_55 (lv_at hl 5 rfl) ?_
  obtain ⟨v_2, t_1, g_57, hf⟩ := fb_bs hf
  refine fw_V1 (As := [.int x1, .int x2, .int x5]) (rest := []) (n := 3) (q0 := 10) C (c_X_X4_hasRow__10 (l := l) (D := D) (ca := ca) (a := a) g_57) kw_1149 kw_1150 kw_100 kw_1152 kw_1151 hP hS hl (heX_10 ca a t) rfl rfl rfl (by decide) (by decide +kernel) ⟨Nat.le_of_ble_eq_true rfl, Nat.le_of_ble_eq_true rfl⟩ rfl rfl (Nat.le_of_ble_eq_true rfl) dX10_move_57 (fun H locs hP hS => ?_)
  refine W.eq (g2 := F0 m 60 ls [.int v_2]) rfl ?_
  refine lv_if_eq (tgt := 78) hx hb dX10_move_60 (by decide) (fun h_60 => ?_) (fun h_60 => ?_)
  · have hf := fb_t h_60 hf
    exact w_X_X10_move__0_78 C hr hf hP hS (lv_sub hl [] rfl)
  · have hf := fb_f h_60 hf
    exact w_X_X10_move__0_63 C hr hf hP hS (lv_sub hl [0, 1, 2, 3, 4, 5] rfl)
set_option maxRecDepth 20000 in
theorem w_X_X10_move__0_35 {p : Program} {l : Launch} {e : Env} {s : State} {m : MethodId} {args : Array Value} {below : List Frame} {meth : Method} {c : Code} {A : Nat → Prop} {Q : State → Prop} {D : va_G} {ca : Nat → ClassId} {a : Nat → Nat} {u : fw_S} {r : Int32}  (C : CX (WX ca a) D (tyv ca) p s m args c A prog_1_method_33_code 6 RX10) (hr : True → RX (WX ca a) D p l e rm_X_X10_move__0 s m args below meth c A prog_1_method_33_code Q .ireturn [.int r] u) {t : fw_S} {x1 : Int32} {x2 : Int32} {x3 : Int32} {x4 : Int32} {x5 : Int32} {H : Heap} {locs : List Loc} {ls : Array Slot} (hf : b_X_X10_move__0_35  t x1 x2 x3 x4 x5 = some (r, u)) (hP : va_P D classes (WX ca a t) H) (hS : va_S A s.heap H locs) (hl : lv_has ls 6 [(0, .ref (a 0)), (1, .int x1), (2, .int x2), (3, .int x3), (4, .int x4), (5, .int x5)]) : W p l e rm_X_X10_move__0 s m args below meth c H locs 0 0 Q (F0 m 35 ls []) := by
  obtain ⟨hx, hb, hml, hown, hts, hN, hK, hD, hA⟩ := id C
  have hf : (fb_b (f_X_X4_isMade__10 t x3) fun v_2 t_1 => (if v_2 = 0 then b_X_X10_move__0_46 t_1 else b_X_X10_move__0_49 t_1 x1 x2 x3 x4 x5)) = some (r, u) := hf
  refine lv_aload_n hx hb dX10_move_35 rfl (lv_at hl 0 rfl) ?_
  refine va_get (D := D) (ci := 10) (v := .ref (a 10)) (C := RX10) (T := TX10) (N := 13) hx hb hts inX10 hown hK hP 0 (heX_0 ca a t) rfl 7 (by decide) (hts _ kw_361) (fun _ h9 => h9) rfl dX10_move_36 ?_
  refine lv_iload_n hx hb dX10_move_39 rfl (lv_at hl 3 rfl) ?_
  obtain ⟨v_2, t_1, g_40, hf⟩ := fb_bs hf
  refine fw_V1 (As := [.int x3]) (rest := []) (n := 1) (q0 := 10) C (c_X_X4_isMade__10 (l := l) (D := D) (ca := ca) (a := a) g_40) kw_1122 kw_1123 kw_100 kw_1125 kw_1124 hP hS hl (heX_10 ca a t) rfl rfl rfl (by decide) (by decide +kernel) ⟨Nat.le_of_ble_eq_true rfl, Nat.le_of_ble_eq_true rfl⟩ rfl rfl (Nat.le_of_ble_eq_true rfl) dX10_move_40 (fun H locs hP hS => ?_)
  refine W.eq (g2 := F0 m 43 ls [.int v_2]) rfl ?_
  refine lv_if_ne (tgt := 49) hx hb dX10_move_43 (by decide) (fun h_43 => ?_) (fun h_43 => ?_)
  · have hf := fb_f h_43 hf
    exact w_X_X10_move__0_49 C hr hf hP hS (lv_sub hl [0, 1, 2, 3, 4, 5] rfl)
  · have hf := fb_t h_43 hf
    exact w_X_X10_move__0_46 C hr hf hP hS (lv_sub hl [] rfl)
set_option maxRecDepth 20000 in
theorem w_X_X10_move__0_24 {p : Program} {l : Launch} {e : Env} {s : State} {m : MethodId} {args : Array Value} {below : List Frame} {meth : Method} {c : Code} {A : Nat → Prop} {Q : State → Prop} {D : va_G} {ca : Nat → ClassId} {a : Nat → Nat} {u : fw_S} {r : Int32}  (C : CX (WX ca a) D (tyv ca) p s m args c A prog_1_method_33_code 6 RX10) (hr : True → RX (WX ca a) D p l e rm_X_X10_move__0 s m args below meth c A prog_1_method_33_code Q .ireturn [.int r] u) {t : fw_S} {x1 : Int32} {x2 : Int32} {x3 : Int32} {x4 : Int32} {x5 : Int32} {H : Heap} {locs : List Loc} {ls : Array Slot} (hf : b_X_X10_move__0_24  t x1 x2 x3 x4 x5 = some (r, u)) (hP : va_P D classes (WX ca a t) H) (hS : va_S A s.heap H locs) (hl : lv_has ls 6 [(0, .ref (a 0)), (1, .int x1), (2, .int x2), (3, .int x3), (4, .int x4), (5, .int x5)]) : W p l e rm_X_X10_move__0 s m args below meth c H locs 0 0 Q (F0 m 24 ls []) := by
  obtain ⟨hx, hb, hml, hown, hts, hN, hK, hD, hA⟩ := id C
  have hf : (fb_b (f_X_X4_isMade__10 t x1) fun v_2 t_1 => (if v_2 = 0 then b_X_X10_move__0_46 t_1 else b_X_X10_move__0_35 t_1 x1 x2 x3 x4 x5)) = some (r, u) := hf
  refine lv_aload_n hx hb dX10_move_24 rfl (lv_at hl 0 rfl) ?_
  refine va_get (D := D) (ci := 10) (v := .ref (a 10)) (C := RX10) (T := TX10) (N := 13) hx hb hts inX10 hown hK hP 0 (heX_0 ca a t) rfl 7 (by decide) (hts _ kw_361) (fun _ h9 => h9) rfl dX10_move_25 ?_
  refine lv_iload_n hx hb dX10_move_28 rfl (lv_at hl 1 rfl) ?_
  obtain ⟨v_2, t_1, g_29, hf⟩ := fb_bs hf
  refine fw_V1 (As := [.int x1]) (rest := []) (n := 1) (q0 := 10) C (c_X_X4_isMade__10 (l := l) (D := D) (ca := ca) (a := a) g_29) kw_1122 kw_1123 kw_100 kw_1125 kw_1124 hP hS hl (heX_10 ca a t) rfl rfl rfl (by decide) (by decide +kernel) ⟨Nat.le_of_ble_eq_true rfl, Nat.le_of_ble_eq_true rfl⟩ rfl rfl (Nat.le_of_ble_eq_true rfl) dX10_move_29 (fun H locs hP hS => ?_)
  refine W.eq (g2 := F0 m 32 ls [.int v_2]) rfl ?_
  refine lv_if_eq (tgt := 46) hx hb dX10_move_32 (by decide) (fun h_32 => ?_) (fun h_32 => ?_)
  · have hf := fb_t h_32 hf
    exact w_X_X10_move__0_46 C hr hf hP hS (lv_sub hl [] rfl)
  · have hf := fb_f h_32 hf
    exact w_X_X10_move__0_35 C hr hf hP hS (lv_sub hl [0, 1, 2, 3, 4, 5] rfl)
set_option maxRecDepth 20000 in
theorem w_X_X10_move__0_11 {p : Program} {l : Launch} {e : Env} {s : State} {m : MethodId} {args : Array Value} {below : List Frame} {meth : Method} {c : Code} {A : Nat → Prop} {Q : State → Prop} {D : va_G} {ca : Nat → ClassId} {a : Nat → Nat} {u : fw_S} {r : Int32}  (C : CX (WX ca a) D (tyv ca) p s m args c A prog_1_method_33_code 6 RX10) (hr : True → RX (WX ca a) D p l e rm_X_X10_move__0 s m args below meth c A prog_1_method_33_code Q .ireturn [.int r] u) {t : fw_S} {x1 : Int32} {x2 : Int32} {x3 : Int32} {x4 : Int32} {x5 : Int32} {H : Heap} {locs : List Loc} {ls : Array Slot} (hf : b_X_X10_move__0_11  t x1 x2 x3 x4 x5 = some (r, u)) (hP : va_P D classes (WX ca a t) H) (hS : va_S A s.heap H locs) (hl : lv_has ls 6 [(0, .ref (a 0)), (1, .int x1), (2, .int x2), (3, .int x3), (4, .int x4), (5, .int x5)]) : W p l e rm_X_X10_move__0 s m args below meth c H locs 0 0 Q (F0 m 11 ls []) := by
  obtain ⟨hx, hb, hml, hown, hts, hN, hK, hD, hA⟩ := id C
  have hf : (fb_b (f_X_X4_isList__10 t x3) fun v_2 t_1 => (if v_2 = 0 then b_X_X10_move__0_22 t_1 else b_X_X10_move__0_24 t_1 x1 x2 x3 x4 x5)) = some (r, u) := hf
  refine lv_aload_n hx hb dX10_move_11 rfl (lv_at hl 0 rfl) ?_
  refine va_get (D := D) (ci := 10) (v := .ref (a 10)) (C := RX10) (T := TX10) (N := 13) hx hb hts inX10 hown hK hP 0 (heX_0 ca a t) rfl 7 (by decide) (hts _ kw_361) (fun _ h9 => h9) rfl dX10_move_12 ?_
  refine lv_iload_n hx hb dX10_move_15 rfl (lv_at hl 3 rfl) ?_
  obtain ⟨v_2, t_1, g_16, hf⟩ := fb_bs hf
  refine fw_V1 (As := [.int x3]) (rest := []) (n := 1) (q0 := 10) C (c_X_X4_isList__10 (l := l) (D := D) (ca := ca) (a := a) g_16) kw_1103 kw_1104 kw_100 kw_1106 kw_1105 hP hS hl (heX_10 ca a t) rfl rfl rfl (by decide) (by decide +kernel) ⟨Nat.le_of_ble_eq_true rfl, Nat.le_of_ble_eq_true rfl⟩ rfl rfl (Nat.le_of_ble_eq_true rfl) dX10_move_16 (fun H locs hP hS => ?_)
  refine W.eq (g2 := F0 m 19 ls [.int v_2]) rfl ?_
  refine lv_if_ne (tgt := 24) hx hb dX10_move_19 (by decide) (fun h_19 => ?_) (fun h_19 => ?_)
  · have hf := fb_f h_19 hf
    exact w_X_X10_move__0_24 C hr hf hP hS (lv_sub hl [0, 1, 2, 3, 4, 5] rfl)
  · have hf := fb_t h_19 hf
    exact w_X_X10_move__0_22 C hr hf hP hS (lv_sub hl [] rfl)
set_option maxRecDepth 20000 in
theorem w_X_X10_move__0_0 {p : Program} {l : Launch} {e : Env} {s : State} {m : MethodId} {args : Array Value} {below : List Frame} {meth : Method} {c : Code} {A : Nat → Prop} {Q : State → Prop} {D : va_G} {ca : Nat → ClassId} {a : Nat → Nat} {u : fw_S} {r : Int32}  (C : CX (WX ca a) D (tyv ca) p s m args c A prog_1_method_33_code 6 RX10) (hr : True → RX (WX ca a) D p l e rm_X_X10_move__0 s m args below meth c A prog_1_method_33_code Q .ireturn [.int r] u) {t : fw_S} {x1 : Int32} {x2 : Int32} {x3 : Int32} {x4 : Int32} {x5 : Int32} {H : Heap} {locs : List Loc} {ls : Array Slot} (hf : b_X_X10_move__0_0  t x1 x2 x3 x4 x5 = some (r, u)) (hP : va_P D classes (WX ca a t) H) (hS : va_S A s.heap H locs) (hl : lv_has ls 6 [(0, .ref (a 0)), (1, .int x1), (2, .int x2), (3, .int x3), (4, .int x4), (5, .int x5)]) : W p l e rm_X_X10_move__0 s m args below meth c H locs 0 0 Q (F0 m 0 ls []) := by
  obtain ⟨hx, hb, hml, hown, hts, hN, hK, hD, hA⟩ := id C
  have hf : (fb_b (f_X_X4_isList__10 t x1) fun v_2 t_1 => (if v_2 = 0 then b_X_X10_move__0_22 t_1 else b_X_X10_move__0_11 t_1 x1 x2 x3 x4 x5)) = some (r, u) := hf
  refine lv_aload_n hx hb dX10_move_0 rfl (lv_at hl 0 rfl) ?_
  refine va_get (D := D) (ci := 10) (v := .ref (a 10)) (C := RX10) (T := TX10) (N := 13) hx hb hts inX10 hown hK hP 0 (heX_0 ca a t) rfl 7 (by decide) (hts _ kw_361) (fun _ h9 => h9) rfl dX10_move_1 ?_
  refine lv_iload_n hx hb dX10_move_4 rfl (lv_at hl 1 rfl) ?_
  obtain ⟨v_2, t_1, g_5, hf⟩ := fb_bs hf
  refine fw_V1 (As := [.int x1]) (rest := []) (n := 1) (q0 := 10) C (c_X_X4_isList__10 (l := l) (D := D) (ca := ca) (a := a) g_5) kw_1103 kw_1104 kw_100 kw_1106 kw_1105 hP hS hl (heX_10 ca a t) rfl rfl rfl (by decide) (by decide +kernel) ⟨Nat.le_of_ble_eq_true rfl, Nat.le_of_ble_eq_true rfl⟩ rfl rfl (Nat.le_of_ble_eq_true rfl) dX10_move_5 (fun H locs hP hS => ?_)
  refine W.eq (g2 := F0 m 8 ls [.int v_2]) rfl ?_
  refine lv_if_eq (tgt := 22) hx hb dX10_move_8 (by decide) (fun h_8 => ?_) (fun h_8 => ?_)
  · have hf := fb_t h_8 hf
    exact w_X_X10_move__0_22 C hr hf hP hS (lv_sub hl [] rfl)
  · have hf := fb_f h_8 hf
    exact w_X_X10_move__0_11 C hr hf hP hS (lv_sub hl [0, 1, 2, 3, 4, 5] rfl)
set_option maxRecDepth 20000 in
theorem c_X_X10_move__0 {l : Launch} {D : va_G} {ca : Nat → ClassId} {a : Nat → Nat} {t : fw_S} {x1 : Int32} {x2 : Int32} {x3 : Int32} {x4 : Int32} {x5 : Int32} {u : fw_S} {r : Int32} (hf : f_X_X10_move__0 t x1 x2 x3 x4 x5 = some (r, u)) : MC (WX ca a) D (tyv ca) l yX10_move (.code yX10_move prog_1_method_33_code 6 (some .int) :: lw_gd) rm_X_X10_move__0 [.ref (a 0), .int x1, .int x2, .int x3, .int x4, .int x5] (some (.int r)) t u := by
  refine fw_met (okX ca a) (by decide +kernel) rfl rfl (Nat.le_of_ble_eq_true rfl) ?_
  intro p e s m args below meth c A Q ls C hr hk hP hS hl hQ
  exact w_X_X10_move__0_0 C (fun _ => fw_ri C hr hk hQ) hf hP hS (lv_sub hl [0, 1, 2, 3, 4, 5] rfl)
/-! ReactiveSheet.Cells.listed(I)J ['x.engine.now'] -/
abbrev rm_X_X0_listed__4 : Room := { frames := 2, cells := 0, slots := 0, locals := 42 }
def b_X_X0_listed__4_26  (t : fw_S) (w0 : Int64) : Option (Int64 × fw_S) := some (w0, t)
def b_X_X0_listed__4_16  (t : fw_S) (x1 : Int32) : Option (Int64 × fw_S) := fb_b (f_X_X0_errorOf__4 t x1) fun v_2 t_1 => (b_X_X0_listed__4_26 t_1 (((-9223372036854775808 : Int64)) + v_2.toInt64))
def b_X_X0_listed__4_8  (t : fw_S) (x1 : Int32) : Option (Int64 × fw_S) := fb_b (f_X_X0_numberOf__4 t x1) fun v_2 t_1 => (b_X_X0_listed__4_26 t_1 v_2)
def b_X_X0_listed__4_0  (t : fw_S) (x1 : Int32) : Option (Int64 × fw_S) := fb_b (f_X_X0_errorOf__4 t x1) fun v_2 t_1 => (if v_2 = 0 then b_X_X0_listed__4_8 t_1 x1 else b_X_X0_listed__4_16 t_1 x1)
def f_X_X0_listed__4 (t : fw_S) (x1 : Int32) : Option (Int64 × fw_S) := b_X_X0_listed__4_0 t x1
set_option maxRecDepth 20000 in
theorem w_X_X0_listed__4_26 {p : Program} {l : Launch} {e : Env} {s : State} {m : MethodId} {args : Array Value} {below : List Frame} {meth : Method} {c : Code} {A : Nat → Prop} {Q : State → Prop} {D : va_G} {ca : Nat → ClassId} {a : Nat → Nat} {u : fw_S} {r : Int64}  (C : CX (WX ca a) D (tyv ca) p s m args c A prog_2_method_23_code 2 RX0) (hr : True → RX (WX ca a) D p l e rm_X_X0_listed__4 s m args below meth c A prog_2_method_23_code Q .lreturn [.long r] u) {t : fw_S} {w0 : Int64} {H : Heap} {locs : List Loc} {ls : Array Slot} (hf : b_X_X0_listed__4_26  t w0 = some (r, u)) (hP : va_P D classes (WX ca a t) H) (hS : va_S A s.heap H locs) (hl : lv_has ls 2 []) : W p l e rm_X_X0_listed__4 s m args below meth c H locs 0 0 Q (F0 m 26 ls [.long w0]) := by
  obtain ⟨hx, hb, hml, hown, hts, hN, hK, hD, hA⟩ := id C
  have hf : (some (w0, t)) = some (r, u) := hf
  obtain ⟨e_26, e2_26⟩ := fb_e hf
  subst e_26; subst e2_26
  exact hr trivial _ _ _ _ hP hS dX0_listed_26
set_option maxRecDepth 20000 in
theorem w_X_X0_listed__4_16 {p : Program} {l : Launch} {e : Env} {s : State} {m : MethodId} {args : Array Value} {below : List Frame} {meth : Method} {c : Code} {A : Nat → Prop} {Q : State → Prop} {D : va_G} {ca : Nat → ClassId} {a : Nat → Nat} {u : fw_S} {r : Int64}  (C : CX (WX ca a) D (tyv ca) p s m args c A prog_2_method_23_code 2 RX0) (hr : True → RX (WX ca a) D p l e rm_X_X0_listed__4 s m args below meth c A prog_2_method_23_code Q .lreturn [.long r] u) {t : fw_S} {x1 : Int32} {H : Heap} {locs : List Loc} {ls : Array Slot} (hf : b_X_X0_listed__4_16  t x1 = some (r, u)) (hP : va_P D classes (WX ca a t) H) (hS : va_S A s.heap H locs) (hl : lv_has ls 2 [(0, .ref (a 4)), (1, .int x1)]) : W p l e rm_X_X0_listed__4 s m args below meth c H locs 0 0 Q (F0 m 16 ls []) := by
  obtain ⟨hx, hb, hml, hown, hts, hN, hK, hD, hA⟩ := id C
  have hf : (fb_b (f_X_X0_errorOf__4 t x1) fun v_2 t_1 => (b_X_X0_listed__4_26 t_1 (((-9223372036854775808 : Int64)) + v_2.toInt64))) = some (r, u) := hf
  refine lv_ldc2 (v := (-9223372036854775808)) hx hb hown (hts _ kw_652) dX0_listed_16 ?_
  refine lv_aload_n hx hb dX0_listed_19 rfl (lv_at hl 0 rfl) ?_
  refine lv_iload_n hx hb dX0_listed_20 rfl (lv_at hl 1 rfl) ?_
  obtain ⟨v_2, t_1, g_21, hf⟩ := fb_bs hf
  refine fw_V1 (As := [.int x1]) (rest := [.long ((-9223372036854775808 : Int64))]) (n := 1) (q0 := 4) C (c_X_X0_errorOf__4 (l := l) (D := D) (ca := ca) (a := a) g_21) kw_650 kw_534 kw_96 kw_536 kw_535 hP hS hl (heX_4 ca a t) rfl rfl rfl (by decide) (by decide +kernel) ⟨Nat.le_of_ble_eq_true rfl, Nat.le_of_ble_eq_true rfl⟩ rfl rfl (Nat.le_of_ble_eq_true rfl) dX0_listed_21 (fun H locs hP hS => ?_)
  refine W.eq (g2 := F0 m 24 ls [.int v_2, .long ((-9223372036854775808 : Int64))]) rfl ?_
  refine lv_i2l hx hb dX0_listed_24 rfl ?_
  refine lv_ladd hx hb dX0_listed_25 ?_
  exact w_X_X0_listed__4_26 C hr hf hP hS (lv_sub hl [] rfl)
set_option maxRecDepth 20000 in
theorem w_X_X0_listed__4_8 {p : Program} {l : Launch} {e : Env} {s : State} {m : MethodId} {args : Array Value} {below : List Frame} {meth : Method} {c : Code} {A : Nat → Prop} {Q : State → Prop} {D : va_G} {ca : Nat → ClassId} {a : Nat → Nat} {u : fw_S} {r : Int64}  (C : CX (WX ca a) D (tyv ca) p s m args c A prog_2_method_23_code 2 RX0) (hr : True → RX (WX ca a) D p l e rm_X_X0_listed__4 s m args below meth c A prog_2_method_23_code Q .lreturn [.long r] u) {t : fw_S} {x1 : Int32} {H : Heap} {locs : List Loc} {ls : Array Slot} (hf : b_X_X0_listed__4_8  t x1 = some (r, u)) (hP : va_P D classes (WX ca a t) H) (hS : va_S A s.heap H locs) (hl : lv_has ls 2 [(0, .ref (a 4)), (1, .int x1)]) : W p l e rm_X_X0_listed__4 s m args below meth c H locs 0 0 Q (F0 m 8 ls []) := by
  obtain ⟨hx, hb, hml, hown, hts, hN, hK, hD, hA⟩ := id C
  have hf : (fb_b (f_X_X0_numberOf__4 t x1) fun v_2 t_1 => (b_X_X0_listed__4_26 t_1 v_2)) = some (r, u) := hf
  refine lv_aload_n hx hb dX0_listed_8 rfl (lv_at hl 0 rfl) ?_
  refine lv_iload_n hx hb dX0_listed_9 rfl (lv_at hl 1 rfl) ?_
  obtain ⟨v_2, t_1, g_10, hf⟩ := fb_bs hf
  refine fw_V1 (As := [.int x1]) (rest := []) (n := 1) (q0 := 4) C (c_X_X0_numberOf__4 (l := l) (D := D) (ca := ca) (a := a) g_10) kw_651 kw_530 kw_96 kw_532 kw_531 hP hS hl (heX_4 ca a t) rfl rfl rfl (by decide) (by decide +kernel) ⟨Nat.le_of_ble_eq_true rfl, Nat.le_of_ble_eq_true rfl⟩ rfl rfl (Nat.le_of_ble_eq_true rfl) dX0_listed_10 (fun H locs hP hS => ?_)
  refine W.eq (g2 := F0 m 13 ls [.long v_2]) rfl ?_
  refine lv_goto (tgt := 26) hx hb dX0_listed_13 (by decide) ?_
  exact w_X_X0_listed__4_26 C hr hf hP hS (lv_sub hl [] rfl)
set_option maxRecDepth 20000 in
theorem w_X_X0_listed__4_0 {p : Program} {l : Launch} {e : Env} {s : State} {m : MethodId} {args : Array Value} {below : List Frame} {meth : Method} {c : Code} {A : Nat → Prop} {Q : State → Prop} {D : va_G} {ca : Nat → ClassId} {a : Nat → Nat} {u : fw_S} {r : Int64}  (C : CX (WX ca a) D (tyv ca) p s m args c A prog_2_method_23_code 2 RX0) (hr : True → RX (WX ca a) D p l e rm_X_X0_listed__4 s m args below meth c A prog_2_method_23_code Q .lreturn [.long r] u) {t : fw_S} {x1 : Int32} {H : Heap} {locs : List Loc} {ls : Array Slot} (hf : b_X_X0_listed__4_0  t x1 = some (r, u)) (hP : va_P D classes (WX ca a t) H) (hS : va_S A s.heap H locs) (hl : lv_has ls 2 [(0, .ref (a 4)), (1, .int x1)]) : W p l e rm_X_X0_listed__4 s m args below meth c H locs 0 0 Q (F0 m 0 ls []) := by
  obtain ⟨hx, hb, hml, hown, hts, hN, hK, hD, hA⟩ := id C
  have hf : (fb_b (f_X_X0_errorOf__4 t x1) fun v_2 t_1 => (if v_2 = 0 then b_X_X0_listed__4_8 t_1 x1 else b_X_X0_listed__4_16 t_1 x1)) = some (r, u) := hf
  refine lv_aload_n hx hb dX0_listed_0 rfl (lv_at hl 0 rfl) ?_
  refine lv_iload_n hx hb dX0_listed_1 rfl (lv_at hl 1 rfl) ?_
  obtain ⟨v_2, t_1, g_2, hf⟩ := fb_bs hf
  refine fw_V1 (As := [.int x1]) (rest := []) (n := 1) (q0 := 4) C (c_X_X0_errorOf__4 (l := l) (D := D) (ca := ca) (a := a) g_2) kw_650 kw_534 kw_96 kw_536 kw_535 hP hS hl (heX_4 ca a t) rfl rfl rfl (by decide) (by decide +kernel) ⟨Nat.le_of_ble_eq_true rfl, Nat.le_of_ble_eq_true rfl⟩ rfl rfl (Nat.le_of_ble_eq_true rfl) dX0_listed_2 (fun H locs hP hS => ?_)
  refine W.eq (g2 := F0 m 5 ls [.int v_2]) rfl ?_
  refine lv_if_ne (tgt := 16) hx hb dX0_listed_5 (by decide) (fun h_5 => ?_) (fun h_5 => ?_)
  · have hf := fb_f h_5 hf
    exact w_X_X0_listed__4_16 C hr hf hP hS (lv_sub hl [0, 1] rfl)
  · have hf := fb_t h_5 hf
    exact w_X_X0_listed__4_8 C hr hf hP hS (lv_sub hl [0, 1] rfl)
set_option maxRecDepth 20000 in
theorem c_X_X0_listed__4 {l : Launch} {D : va_G} {ca : Nat → ClassId} {a : Nat → Nat} {t : fw_S} {x1 : Int32} {u : fw_S} {r : Int64} (hf : f_X_X0_listed__4 t x1 = some (r, u)) : MC (WX ca a) D (tyv ca) l yX0_listed (.code yX0_listed prog_2_method_23_code 2 (some .long) :: lw_gd) rm_X_X0_listed__4 [.ref (a 4), .int x1] (some (.long r)) t u := by
  refine fw_met (okX ca a) (by decide +kernel) rfl rfl (Nat.le_of_ble_eq_true rfl) ?_
  intro p e s m args below meth c A Q ls C hr hk hP hS hl hQ
  exact w_X_X0_listed__4_0 C (fun _ => fw_rl C hr hk hQ) hf hP hS (lv_sub hl [0, 1] rfl)
/-! ReactiveSheet.fill(IIII)I ['x'] -/
abbrev rm_X_X10_fill__0 : Room := { frames := 3, cells := 0, slots := 0, locals := 68 }
def b_X_X10_fill__0_19  (t : fw_S)  : Option (Int32 × fw_S) := some ((-1 : Int32), t)
def b_X_X10_fill__0_35  (t : fw_S)  : Option (Int32 × fw_S) := some ((-2 : Int32), t)
def b_X_X10_fill__0_114  (t : fw_S) (x4 : Int32) : Option (Int32 × fw_S) := some (x4, t)
def b_X_X10_fill__0_82 (k55 : fw_S → Int32 → Int32 → Int32 → Int32 → Int32 → Option (Int32 × fw_S)) (t : fw_S) (x1 : Int32) (x2 : Int32) (x3 : Int32) (x4 : Int32) (x5 : Int32) : Option (Int32 × fw_S) := fb_v (f_X_X1_now__3 t) fun t_1 => (fb_b (f_X_X0_listed__4 t_1 (x3 + x5)) fun v_3 t_2 => (fb_v (f_X_X4_put__10 t_2 x1 (x2 + x5) v_3) fun t_4 => (k55 t_4 x1 x2 x3 x4 (x5 + 1))))
def b_X_X10_fill__0_79  (t : fw_S)  : Option (Int32 × fw_S) := some ((-13 : Int32), t)
def b_X_X10_fill__0_62 (k55 : fw_S → Int32 → Int32 → Int32 → Int32 → Int32 → Option (Int32 × fw_S)) (t : fw_S) (x1 : Int32) (x2 : Int32) (x3 : Int32) (x4 : Int32) (x5 : Int32) : Option (Int32 × fw_S) := fb_b (f_X_X4_hasPlace__10 t x1 (x2.toInt64 + x5.toInt64)) fun v_2 t_1 => (if v_2 = 0 then b_X_X10_fill__0_79 t_1 else b_X_X10_fill__0_82 k55 t_1 x1 x2 x3 x4 x5)
def b_X_X10_fill__0_55  : Nat → (fw_S → Int32 → Int32 → Int32 → Int32 → Int32 → Option (Int32 × fw_S))
  | 0 => fun _ _ _ _ _ _ => none
  | n + 1 => fun t x1 x2 x3 x4 x5 => if x4 ≤ x5 then b_X_X10_fill__0_114 t x4 else b_X_X10_fill__0_62 (b_X_X10_fill__0_55 n) t x1 x2 x3 x4 x5
def b_X_X10_fill__0_52  (t : fw_S) (x1 : Int32) (x2 : Int32) (x3 : Int32) (x4 : Int32) : Option (Int32 × fw_S) := b_X_X10_fill__0_55 3000 t x1 x2 x3 x4 ((0 : Int32))
def b_X_X10_fill__0_49  (t : fw_S)  : Option (Int32 × fw_S) := some ((-11 : Int32), t)
def b_X_X10_fill__0_38  (t : fw_S) (x1 : Int32) (x2 : Int32) (x3 : Int32) (x4 : Int32) : Option (Int32 × fw_S) := fb_b (f_X_X4_isMade__10 t x1) fun v_2 t_1 => (if v_2 = 0 then b_X_X10_fill__0_49 t_1 else b_X_X10_fill__0_52 t_1 x1 x2 x3 x4)
def b_X_X10_fill__0_26  (t : fw_S) (x1 : Int32) (x2 : Int32) (x3 : Int32) (x4 : Int32) : Option (Int32 × fw_S) := if x4 ≤ (((32 : Int32)) - x3) then b_X_X10_fill__0_38 t x1 x2 x3 x4 else b_X_X10_fill__0_35 t
def b_X_X10_fill__0_21  (t : fw_S) (x1 : Int32) (x2 : Int32) (x3 : Int32) (x4 : Int32) : Option (Int32 × fw_S) := if x4 < 0 then b_X_X10_fill__0_35 t else b_X_X10_fill__0_26 t x1 x2 x3 x4
def b_X_X10_fill__0_11  (t : fw_S) (x1 : Int32) (x2 : Int32) (x3 : Int32) (x4 : Int32) : Option (Int32 × fw_S) := fb_b (f_X_X10_isCell t x3.toInt64) fun v_2 t_1 => (if v_2 = 0 then b_X_X10_fill__0_19 t_1 else b_X_X10_fill__0_21 t_1 x1 x2 x3 x4)
def b_X_X10_fill__0_0  (t : fw_S) (x1 : Int32) (x2 : Int32) (x3 : Int32) (x4 : Int32) : Option (Int32 × fw_S) := fb_b (f_X_X4_isList__10 t x1) fun v_2 t_1 => (if v_2 = 0 then b_X_X10_fill__0_19 t_1 else b_X_X10_fill__0_11 t_1 x1 x2 x3 x4)
def f_X_X10_fill__0 (t : fw_S) (x1 : Int32) (x2 : Int32) (x3 : Int32) (x4 : Int32) : Option (Int32 × fw_S) := b_X_X10_fill__0_0 t x1 x2 x3 x4
set_option maxRecDepth 20000 in
theorem w_X_X10_fill__0_19 {p : Program} {l : Launch} {e : Env} {s : State} {m : MethodId} {args : Array Value} {below : List Frame} {meth : Method} {c : Code} {A : Nat → Prop} {Q : State → Prop} {D : va_G} {ca : Nat → ClassId} {a : Nat → Nat} {u : fw_S} {r : Int32}  (C : CX (WX ca a) D (tyv ca) p s m args c A prog_1_method_34_code 6 RX10) (hr : True → RX (WX ca a) D p l e rm_X_X10_fill__0 s m args below meth c A prog_1_method_34_code Q .ireturn [.int r] u) {t : fw_S}  {H : Heap} {locs : List Loc} {ls : Array Slot} (hf : b_X_X10_fill__0_19  t  = some (r, u)) (hP : va_P D classes (WX ca a t) H) (hS : va_S A s.heap H locs) (hl : lv_has ls 6 []) : W p l e rm_X_X10_fill__0 s m args below meth c H locs 0 0 Q (F0 m 19 ls []) := by
  obtain ⟨hx, hb, hml, hown, hts, hN, hK, hD, hA⟩ := id C
  have hf : (some ((-1 : Int32), t)) = some (r, u) := hf
  refine lv_iconst (v := (-1)) hx hb dX10_fill_19 (by decide) ?_
  obtain ⟨e_20, e2_20⟩ := fb_e hf
  subst e_20; subst e2_20
  exact hr trivial _ _ _ _ hP hS dX10_fill_20
set_option maxRecDepth 20000 in
theorem w_X_X10_fill__0_35 {p : Program} {l : Launch} {e : Env} {s : State} {m : MethodId} {args : Array Value} {below : List Frame} {meth : Method} {c : Code} {A : Nat → Prop} {Q : State → Prop} {D : va_G} {ca : Nat → ClassId} {a : Nat → Nat} {u : fw_S} {r : Int32}  (C : CX (WX ca a) D (tyv ca) p s m args c A prog_1_method_34_code 6 RX10) (hr : True → RX (WX ca a) D p l e rm_X_X10_fill__0 s m args below meth c A prog_1_method_34_code Q .ireturn [.int r] u) {t : fw_S}  {H : Heap} {locs : List Loc} {ls : Array Slot} (hf : b_X_X10_fill__0_35  t  = some (r, u)) (hP : va_P D classes (WX ca a t) H) (hS : va_S A s.heap H locs) (hl : lv_has ls 6 []) : W p l e rm_X_X10_fill__0 s m args below meth c H locs 0 0 Q (F0 m 35 ls []) := by
  obtain ⟨hx, hb, hml, hown, hts, hN, hK, hD, hA⟩ := id C
  have hf : (some ((-2 : Int32), t)) = some (r, u) := hf
  refine lv_bipush (v := (-2)) hx hb dX10_fill_35 (by decide) ?_
  obtain ⟨e_37, e2_37⟩ := fb_e hf
  subst e_37; subst e2_37
  exact hr trivial _ _ _ _ hP hS dX10_fill_37
set_option maxRecDepth 20000 in
theorem w_X_X10_fill__0_114 {p : Program} {l : Launch} {e : Env} {s : State} {m : MethodId} {args : Array Value} {below : List Frame} {meth : Method} {c : Code} {A : Nat → Prop} {Q : State → Prop} {D : va_G} {ca : Nat → ClassId} {a : Nat → Nat} {u : fw_S} {r : Int32}  (C : CX (WX ca a) D (tyv ca) p s m args c A prog_1_method_34_code 6 RX10) (hr : True → RX (WX ca a) D p l e rm_X_X10_fill__0 s m args below meth c A prog_1_method_34_code Q .ireturn [.int r] u) {t : fw_S} {x4 : Int32} {H : Heap} {locs : List Loc} {ls : Array Slot} (hf : b_X_X10_fill__0_114  t x4 = some (r, u)) (hP : va_P D classes (WX ca a t) H) (hS : va_S A s.heap H locs) (hl : lv_has ls 6 [(4, .int x4)]) : W p l e rm_X_X10_fill__0 s m args below meth c H locs 0 0 Q (F0 m 114 ls []) := by
  obtain ⟨hx, hb, hml, hown, hts, hN, hK, hD, hA⟩ := id C
  have hf : (some (x4, t)) = some (r, u) := hf
  refine lv_iload hx hb dX10_fill_114 (lv_at hl 0 rfl) ?_
  obtain ⟨e_116, e2_116⟩ := fb_e hf
  subst e_116; subst e2_116
  exact hr trivial _ _ _ _ hP hS dX10_fill_116
set_option maxRecDepth 20000 in
theorem w_X_X10_fill__0_82 {p : Program} {l : Launch} {e : Env} {s : State} {m : MethodId} {args : Array Value} {below : List Frame} {meth : Method} {c : Code} {A : Nat → Prop} {Q : State → Prop} {D : va_G} {ca : Nat → ClassId} {a : Nat → Nat} {u : fw_S} {r : Int32} {k55 : fw_S → Int32 → Int32 → Int32 → Int32 → Int32 → Option (Int32 × fw_S)} (C : CX (WX ca a) D (tyv ca) p s m args c A prog_1_method_34_code 6 RX10) (hr : True → RX (WX ca a) D p l e rm_X_X10_fill__0 s m args below meth c A prog_1_method_34_code Q .ireturn [.int r] u) (hk55 : ∀ (t : fw_S) (x1 : Int32) (x2 : Int32) (x3 : Int32) (x4 : Int32) (x5 : Int32) (H : Heap) (locs : List Loc) (ls : Array Slot), k55 t x1 x2 x3 x4 x5 = some (r, u) → va_P D classes (WX ca a t) H → va_S A s.heap H locs → lv_has ls 6 [(0, .ref (a 0)), (1, .int x1), (2, .int x2), (3, .int x3), (4, .int x4), (5, .int x5)] → W p l e rm_X_X10_fill__0 s m args below meth c H locs 0 0 Q (F0 m 55 ls [])) {t : fw_S} {x1 : Int32} {x2 : Int32} {x3 : Int32} {x4 : Int32} {x5 : Int32} {H : Heap} {locs : List Loc} {ls : Array Slot} (hf : b_X_X10_fill__0_82 k55 t x1 x2 x3 x4 x5 = some (r, u)) (hP : va_P D classes (WX ca a t) H) (hS : va_S A s.heap H locs) (hl : lv_has ls 6 [(0, .ref (a 0)), (1, .int x1), (2, .int x2), (3, .int x3), (4, .int x4), (5, .int x5)]) : W p l e rm_X_X10_fill__0 s m args below meth c H locs 0 0 Q (F0 m 82 ls []) := by
  obtain ⟨hx, hb, hml, hown, hts, hN, hK, hD, hA⟩ := id C
  have hf : (fb_v (f_X_X1_now__3 t) fun t_1 => (fb_b (f_X_X0_listed__4 t_1 (x3 + x5)) fun v_3 t_2 => (fb_v (f_X_X4_put__10 t_2 x1 (x2 + x5) v_3) fun t_4 => (k55 t_4 x1 x2 x3 x4 (x5 + 1))))) = some (r, u) := hf
  refine lv_aload_n hx hb dX10_fill_82 rfl (lv_at hl 0 rfl) ?_
  refine va_get (D := D) (ci := 10) (v := .ref (a 10)) (C := RX10) (T := TX10) (N := 13) hx hb hts inX10 hown hK hP 0 (heX_0 ca a t) rfl 7 (by decide) (hts _ kw_361) (fun _ h9 => h9) rfl dX10_fill_83 ?_
  refine lv_iload_n hx hb dX10_fill_86 rfl (lv_at hl 1 rfl) ?_
  refine lv_iload_n hx hb dX10_fill_87 rfl (lv_at hl 2 rfl) ?_
  refine lv_iload hx hb dX10_fill_88 (lv_at hl 5 rfl) ?_
  refine lv_iadd hx hb dX10_fill_90 ?_
  refine lv_aload_n hx hb dX10_fill_91 rfl (lv_at hl 0 rfl) ?_
  refine va_get (D := D) (ci := 10) (v := .ref (a 3)) (C := RX10) (T := TX10) (N := 13) hx hb hts inX10 hown hK hP 0 (heX_0 ca a t) rfl 2 (by decide) (hts _ kw_356) (fun _ h9 => h9) rfl dX10_fill_92 ?_
  obtain ⟨t_1, g_95, hf⟩ := fb_vs hf
  refine fw_V1 (As := []) (rest := [.int (x2 + x5), .int x1, .ref (a 10)]) (n := 0) (q0 := 3) C (c_X_X1_now__3 (l := l) (D := D) (ca := ca) (a := a) g_95) kw_626 kw_627 kw_95 kw_629 kw_628 hP hS hl (heX_3 ca a t) rfl rfl rfl (by decide) (by decide +kernel) ⟨Nat.le_of_ble_eq_true rfl, Nat.le_of_ble_eq_true rfl⟩ rfl rfl (Nat.le_of_ble_eq_true rfl) dX10_fill_95 (fun H locs hP hS => ?_)
  refine W.eq (g2 := F0 m 98 ls [.ref (a 4), .int (x2 + x5), .int x1, .ref (a 10)]) rfl ?_
  refine lv_iload_n hx hb dX10_fill_98 rfl (lv_at hl 3 rfl) ?_
  refine lv_iload hx hb dX10_fill_99 (lv_at hl 5 rfl) ?_
  refine lv_iadd hx hb dX10_fill_101 ?_
  obtain ⟨v_3, t_2, g_102, hf⟩ := fb_bs hf
  refine fw_V1 (As := [.int (x3 + x5)]) (rest := [.int (x2 + x5), .int x1, .ref (a 10)]) (n := 1) (q0 := 4) C (c_X_X0_listed__4 (l := l) (D := D) (ca := ca) (a := a) g_102) kw_1163 kw_1164 kw_96 kw_1166 kw_1165 hP hS hl (heX_4 ca a t_1) rfl rfl rfl (by decide) (by decide +kernel) ⟨Nat.le_of_ble_eq_true rfl, Nat.le_of_ble_eq_true rfl⟩ rfl rfl (Nat.le_of_ble_eq_true rfl) dX10_fill_102 (fun H locs hP hS => ?_)
  refine W.eq (g2 := F0 m 105 ls [.long v_3, .int (x2 + x5), .int x1, .ref (a 10)]) rfl ?_
  obtain ⟨t_4, g_105, hf⟩ := fb_vs hf
  refine fw_V1 (As := [.int x1, .int (x2 + x5), .long v_3]) (rest := []) (n := 3) (q0 := 10) C (c_X_X4_put__10 (l := l) (D := D) (ca := ca) (a := a) g_105) kw_1131 kw_1132 kw_100 kw_1134 kw_1133 hP hS hl (heX_10 ca a t_2) rfl rfl rfl (by decide) (by decide +kernel) ⟨Nat.le_of_ble_eq_true rfl, Nat.le_of_ble_eq_true rfl⟩ rfl rfl (Nat.le_of_ble_eq_true rfl) dX10_fill_105 (fun H locs hP hS => ?_)
  refine W.eq (g2 := F0 m 108 ls []) rfl ?_
  refine lv_iinc (v := x5 + 1) (lv' := [(5, .int (x5 + 1)), (0, .ref (a 0)), (1, .int x1), (2, .int x2), (3, .int x3), (4, .int x4)]) hx hb dX10_fill_108 hl (k := 5) rfl rfl (by decide) rfl (fun ls hl => ?_)
  refine lv_goto (tgt := 55) hx hb dX10_fill_111 (by decide) ?_
  exact hk55 t_4 x1 x2 x3 x4 (x5 + 1) _ _ _ hf hP hS (lv_sub hl [1, 2, 3, 4, 5, 0] rfl)
set_option maxRecDepth 20000 in
theorem w_X_X10_fill__0_79 {p : Program} {l : Launch} {e : Env} {s : State} {m : MethodId} {args : Array Value} {below : List Frame} {meth : Method} {c : Code} {A : Nat → Prop} {Q : State → Prop} {D : va_G} {ca : Nat → ClassId} {a : Nat → Nat} {u : fw_S} {r : Int32}  (C : CX (WX ca a) D (tyv ca) p s m args c A prog_1_method_34_code 6 RX10) (hr : True → RX (WX ca a) D p l e rm_X_X10_fill__0 s m args below meth c A prog_1_method_34_code Q .ireturn [.int r] u) {t : fw_S}  {H : Heap} {locs : List Loc} {ls : Array Slot} (hf : b_X_X10_fill__0_79  t  = some (r, u)) (hP : va_P D classes (WX ca a t) H) (hS : va_S A s.heap H locs) (hl : lv_has ls 6 []) : W p l e rm_X_X10_fill__0 s m args below meth c H locs 0 0 Q (F0 m 79 ls []) := by
  obtain ⟨hx, hb, hml, hown, hts, hN, hK, hD, hA⟩ := id C
  have hf : (some ((-13 : Int32), t)) = some (r, u) := hf
  refine lv_bipush (v := (-13)) hx hb dX10_fill_79 (by decide) ?_
  obtain ⟨e_81, e2_81⟩ := fb_e hf
  subst e_81; subst e2_81
  exact hr trivial _ _ _ _ hP hS dX10_fill_81
set_option maxRecDepth 20000 in
theorem w_X_X10_fill__0_62 {p : Program} {l : Launch} {e : Env} {s : State} {m : MethodId} {args : Array Value} {below : List Frame} {meth : Method} {c : Code} {A : Nat → Prop} {Q : State → Prop} {D : va_G} {ca : Nat → ClassId} {a : Nat → Nat} {u : fw_S} {r : Int32} {k55 : fw_S → Int32 → Int32 → Int32 → Int32 → Int32 → Option (Int32 × fw_S)} (C : CX (WX ca a) D (tyv ca) p s m args c A prog_1_method_34_code 6 RX10) (hr : True → RX (WX ca a) D p l e rm_X_X10_fill__0 s m args below meth c A prog_1_method_34_code Q .ireturn [.int r] u) (hk55 : ∀ (t : fw_S) (x1 : Int32) (x2 : Int32) (x3 : Int32) (x4 : Int32) (x5 : Int32) (H : Heap) (locs : List Loc) (ls : Array Slot), k55 t x1 x2 x3 x4 x5 = some (r, u) → va_P D classes (WX ca a t) H → va_S A s.heap H locs → lv_has ls 6 [(0, .ref (a 0)), (1, .int x1), (2, .int x2), (3, .int x3), (4, .int x4), (5, .int x5)] → W p l e rm_X_X10_fill__0 s m args below meth c H locs 0 0 Q (F0 m 55 ls [])) {t : fw_S} {x1 : Int32} {x2 : Int32} {x3 : Int32} {x4 : Int32} {x5 : Int32} {H : Heap} {locs : List Loc} {ls : Array Slot} (hf : b_X_X10_fill__0_62 k55 t x1 x2 x3 x4 x5 = some (r, u)) (hP : va_P D classes (WX ca a t) H) (hS : va_S A s.heap H locs) (hl : lv_has ls 6 [(0, .ref (a 0)), (1, .int x1), (2, .int x2), (3, .int x3), (4, .int x4), (5, .int x5)]) : W p l e rm_X_X10_fill__0 s m args below meth c H locs 0 0 Q (F0 m 62 ls []) := by
  obtain ⟨hx, hb, hml, hown, hts, hN, hK, hD, hA⟩ := id C
  have hf : (fb_b (f_X_X4_hasPlace__10 t x1 (x2.toInt64 + x5.toInt64)) fun v_2 t_1 => (if v_2 = 0 then b_X_X10_fill__0_79 t_1 else b_X_X10_fill__0_82 k55 t_1 x1 x2 x3 x4 x5)) = some (r, u) := hf
  refine lv_aload_n hx hb dX10_fill_62 rfl (lv_at hl 0 rfl) ?_
  refine va_get (D := D) (ci := 10) (v := .ref (a 10)) (C := RX10) (T := TX10) (N := 13) hx hb hts inX10 hown hK hP 0 (heX_0 ca a t) rfl 7 (by decide) (hts _ kw_361) (fun _ h9 => h9) rfl dX10_fill_63 ?_
  refine lv_iload_n hx hb dX10_fill_66 rfl (lv_at hl 1 rfl) ?_
  refine lv_iload_n hx hb dX10_fill_67 rfl (lv_at hl 2 rfl) ?_
  refine lv_i2l hx hb dX10_fill_68 rfl ?_
  refine lv_iload hx hb dX10_fill_69 (lv_at hl 5 rfl) ?_
  refine lv_i2l hx hb dX10_fill_71 rfl ?_
  refine lv_ladd hx hb dX10_fill_72 ?_
  obtain ⟨v_2, t_1, g_73, hf⟩ := fb_bs hf
  refine fw_V1 (As := [.int x1, .long (x2.toInt64 + x5.toInt64)]) (rest := []) (n := 2) (q0 := 10) C (c_X_X4_hasPlace__10 (l := l) (D := D) (ca := ca) (a := a) g_73) kw_1126 kw_1127 kw_100 kw_1129 kw_1128 hP hS hl (heX_10 ca a t) rfl rfl rfl (by decide) (by decide +kernel) ⟨Nat.le_of_ble_eq_true rfl, Nat.le_of_ble_eq_true rfl⟩ rfl rfl (Nat.le_of_ble_eq_true rfl) dX10_fill_73 (fun H locs hP hS => ?_)
  refine W.eq (g2 := F0 m 76 ls [.int v_2]) rfl ?_
  refine lv_if_ne (tgt := 82) hx hb dX10_fill_76 (by decide) (fun h_76 => ?_) (fun h_76 => ?_)
  · have hf := fb_f h_76 hf
    exact w_X_X10_fill__0_82 C hr hk55 hf hP hS (lv_sub hl [0, 1, 2, 3, 4, 5] rfl)
  · have hf := fb_t h_76 hf
    exact w_X_X10_fill__0_79 C hr hf hP hS (lv_sub hl [] rfl)
set_option maxRecDepth 20000 in
theorem w_X_X10_fill__0_55 {p : Program} {l : Launch} {e : Env} {s : State} {m : MethodId} {args : Array Value} {below : List Frame} {meth : Method} {c : Code} {A : Nat → Prop} {Q : State → Prop} {D : va_G} {ca : Nat → ClassId} {a : Nat → Nat} {u : fw_S} {r : Int32}  (C : CX (WX ca a) D (tyv ca) p s m args c A prog_1_method_34_code 6 RX10) (hr : True → RX (WX ca a) D p l e rm_X_X10_fill__0 s m args below meth c A prog_1_method_34_code Q .ireturn [.int r] u) : ∀ (n : Nat) (t : fw_S) (x1 : Int32) (x2 : Int32) (x3 : Int32) (x4 : Int32) (x5 : Int32) (H : Heap) (locs : List Loc) (ls : Array Slot), b_X_X10_fill__0_55  n t x1 x2 x3 x4 x5 = some (r, u) → va_P D classes (WX ca a t) H → va_S A s.heap H locs → lv_has ls 6 [(0, .ref (a 0)), (1, .int x1), (2, .int x2), (3, .int x3), (4, .int x4), (5, .int x5)] → W p l e rm_X_X10_fill__0 s m args below meth c H locs 0 0 Q (F0 m 55 ls []) := by
  obtain ⟨hx, hb, hml, hown, hts, hN, hK, hD, hA⟩ := id C
  intro n
  induction n with
  | zero => intro t x1 x2 x3 x4 x5 H locs ls hf; cases hf
  | succ n hk55 =>
    intro t x1 x2 x3 x4 x5 H locs ls hf hP hS hl
    have hf : (if x4 ≤ x5 then b_X_X10_fill__0_114 t x4 else b_X_X10_fill__0_62 (b_X_X10_fill__0_55 n) t x1 x2 x3 x4 x5) = some (r, u) := hf
    refine lv_iload hx hb dX10_fill_55 (lv_at hl 5 rfl) ?_
    refine lv_iload hx hb dX10_fill_57 (lv_at hl 4 rfl) ?_
    refine lv_icmp_ge (tgt := 114) hx hb dX10_fill_59 (by decide) (fun h_59 => ?_) (fun h_59 => ?_)
    · have hf := fb_t h_59 hf
      exact w_X_X10_fill__0_114 C hr hf hP hS (lv_sub hl [4] rfl)
    · have hf := fb_f h_59 hf
      exact w_X_X10_fill__0_62 C hr hk55 hf hP hS (lv_sub hl [0, 1, 2, 3, 4, 5] rfl)
set_option maxRecDepth 20000 in
theorem w_X_X10_fill__0_52 {p : Program} {l : Launch} {e : Env} {s : State} {m : MethodId} {args : Array Value} {below : List Frame} {meth : Method} {c : Code} {A : Nat → Prop} {Q : State → Prop} {D : va_G} {ca : Nat → ClassId} {a : Nat → Nat} {u : fw_S} {r : Int32}  (C : CX (WX ca a) D (tyv ca) p s m args c A prog_1_method_34_code 6 RX10) (hr : True → RX (WX ca a) D p l e rm_X_X10_fill__0 s m args below meth c A prog_1_method_34_code Q .ireturn [.int r] u) {t : fw_S} {x1 : Int32} {x2 : Int32} {x3 : Int32} {x4 : Int32} {H : Heap} {locs : List Loc} {ls : Array Slot} (hf : b_X_X10_fill__0_52  t x1 x2 x3 x4 = some (r, u)) (hP : va_P D classes (WX ca a t) H) (hS : va_S A s.heap H locs) (hl : lv_has ls 6 [(0, .ref (a 0)), (1, .int x1), (2, .int x2), (3, .int x3), (4, .int x4)]) : W p l e rm_X_X10_fill__0 s m args below meth c H locs 0 0 Q (F0 m 52 ls []) := by
  obtain ⟨hx, hb, hml, hown, hts, hN, hK, hD, hA⟩ := id C
  have hf : (b_X_X10_fill__0_55 3000 t x1 x2 x3 x4 ((0 : Int32))) = some (r, u) := hf
  refine lv_iconst (v := 0) hx hb dX10_fill_52 (by decide) ?_
  refine lv_istore (lv' := [(5, .int ((0 : Int32))), (0, .ref (a 0)), (1, .int x1), (2, .int x2), (3, .int x3), (4, .int x4)]) hx hb dX10_fill_53 hl (by decide) rfl (fun ls hl => ?_)
  exact w_X_X10_fill__0_55 C hr 3000 t x1 x2 x3 x4 ((0 : Int32)) _ _ _ hf hP hS (lv_sub hl [1, 2, 3, 4, 5, 0] rfl)
set_option maxRecDepth 20000 in
theorem w_X_X10_fill__0_49 {p : Program} {l : Launch} {e : Env} {s : State} {m : MethodId} {args : Array Value} {below : List Frame} {meth : Method} {c : Code} {A : Nat → Prop} {Q : State → Prop} {D : va_G} {ca : Nat → ClassId} {a : Nat → Nat} {u : fw_S} {r : Int32}  (C : CX (WX ca a) D (tyv ca) p s m args c A prog_1_method_34_code 6 RX10) (hr : True → RX (WX ca a) D p l e rm_X_X10_fill__0 s m args below meth c A prog_1_method_34_code Q .ireturn [.int r] u) {t : fw_S}  {H : Heap} {locs : List Loc} {ls : Array Slot} (hf : b_X_X10_fill__0_49  t  = some (r, u)) (hP : va_P D classes (WX ca a t) H) (hS : va_S A s.heap H locs) (hl : lv_has ls 6 []) : W p l e rm_X_X10_fill__0 s m args below meth c H locs 0 0 Q (F0 m 49 ls []) := by
  obtain ⟨hx, hb, hml, hown, hts, hN, hK, hD, hA⟩ := id C
  have hf : (some ((-11 : Int32), t)) = some (r, u) := hf
  refine lv_bipush (v := (-11)) hx hb dX10_fill_49 (by decide) ?_
  obtain ⟨e_51, e2_51⟩ := fb_e hf
  subst e_51; subst e2_51
  exact hr trivial _ _ _ _ hP hS dX10_fill_51
set_option maxRecDepth 20000 in
theorem w_X_X10_fill__0_38 {p : Program} {l : Launch} {e : Env} {s : State} {m : MethodId} {args : Array Value} {below : List Frame} {meth : Method} {c : Code} {A : Nat → Prop} {Q : State → Prop} {D : va_G} {ca : Nat → ClassId} {a : Nat → Nat} {u : fw_S} {r : Int32}  (C : CX (WX ca a) D (tyv ca) p s m args c A prog_1_method_34_code 6 RX10) (hr : True → RX (WX ca a) D p l e rm_X_X10_fill__0 s m args below meth c A prog_1_method_34_code Q .ireturn [.int r] u) {t : fw_S} {x1 : Int32} {x2 : Int32} {x3 : Int32} {x4 : Int32} {H : Heap} {locs : List Loc} {ls : Array Slot} (hf : b_X_X10_fill__0_38  t x1 x2 x3 x4 = some (r, u)) (hP : va_P D classes (WX ca a t) H) (hS : va_S A s.heap H locs) (hl : lv_has ls 6 [(0, .ref (a 0)), (1, .int x1), (2, .int x2), (3, .int x3), (4, .int x4)]) : W p l e rm_X_X10_fill__0 s m args below meth c H locs 0 0 Q (F0 m 38 ls []) := by
  obtain ⟨hx, hb, hml, hown, hts, hN, hK, hD, hA⟩ := id C
  have hf : (fb_b (f_X_X4_isMade__10 t x1) fun v_2 t_1 => (if v_2 = 0 then b_X_X10_fill__0_49 t_1 else b_X_X10_fill__0_52 t_1 x1 x2 x3 x4)) = some (r, u) := hf
  refine lv_aload_n hx hb dX10_fill_38 rfl (lv_at hl 0 rfl) ?_
  refine va_get (D := D) (ci := 10) (v := .ref (a 10)) (C := RX10) (T := TX10) (N := 13) hx hb hts inX10 hown hK hP 0 (heX_0 ca a t) rfl 7 (by decide) (hts _ kw_361) (fun _ h9 => h9) rfl dX10_fill_39 ?_
  refine lv_iload_n hx hb dX10_fill_42 rfl (lv_at hl 1 rfl) ?_
  obtain ⟨v_2, t_1, g_43, hf⟩ := fb_bs hf
  refine fw_V1 (As := [.int x1]) (rest := []) (n := 1) (q0 := 10) C (c_X_X4_isMade__10 (l := l) (D := D) (ca := ca) (a := a) g_43) kw_1122 kw_1123 kw_100 kw_1125 kw_1124 hP hS hl (heX_10 ca a t) rfl rfl rfl (by decide) (by decide +kernel) ⟨Nat.le_of_ble_eq_true rfl, Nat.le_of_ble_eq_true rfl⟩ rfl rfl (Nat.le_of_ble_eq_true rfl) dX10_fill_43 (fun H locs hP hS => ?_)
  refine W.eq (g2 := F0 m 46 ls [.int v_2]) rfl ?_
  refine lv_if_ne (tgt := 52) hx hb dX10_fill_46 (by decide) (fun h_46 => ?_) (fun h_46 => ?_)
  · have hf := fb_f h_46 hf
    exact w_X_X10_fill__0_52 C hr hf hP hS (lv_sub hl [0, 1, 2, 3, 4] rfl)
  · have hf := fb_t h_46 hf
    exact w_X_X10_fill__0_49 C hr hf hP hS (lv_sub hl [] rfl)
set_option maxRecDepth 20000 in
theorem w_X_X10_fill__0_26 {p : Program} {l : Launch} {e : Env} {s : State} {m : MethodId} {args : Array Value} {below : List Frame} {meth : Method} {c : Code} {A : Nat → Prop} {Q : State → Prop} {D : va_G} {ca : Nat → ClassId} {a : Nat → Nat} {u : fw_S} {r : Int32}  (C : CX (WX ca a) D (tyv ca) p s m args c A prog_1_method_34_code 6 RX10) (hr : True → RX (WX ca a) D p l e rm_X_X10_fill__0 s m args below meth c A prog_1_method_34_code Q .ireturn [.int r] u) {t : fw_S} {x1 : Int32} {x2 : Int32} {x3 : Int32} {x4 : Int32} {H : Heap} {locs : List Loc} {ls : Array Slot} (hf : b_X_X10_fill__0_26  t x1 x2 x3 x4 = some (r, u)) (hP : va_P D classes (WX ca a t) H) (hS : va_S A s.heap H locs) (hl : lv_has ls 6 [(0, .ref (a 0)), (1, .int x1), (2, .int x2), (3, .int x3), (4, .int x4)]) : W p l e rm_X_X10_fill__0 s m args below meth c H locs 0 0 Q (F0 m 26 ls []) := by
  obtain ⟨hx, hb, hml, hown, hts, hN, hK, hD, hA⟩ := id C
  have hf : (if x4 ≤ (((32 : Int32)) - x3) then b_X_X10_fill__0_38 t x1 x2 x3 x4 else b_X_X10_fill__0_35 t) = some (r, u) := hf
  refine lv_iload hx hb dX10_fill_26 (lv_at hl 4 rfl) ?_
  refine lv_bipush (v := 32) hx hb dX10_fill_28 (by decide) ?_
  refine lv_iload_n hx hb dX10_fill_30 rfl (lv_at hl 3 rfl) ?_
  refine lv_isub hx hb dX10_fill_31 ?_
  refine lv_icmp_le (tgt := 38) hx hb dX10_fill_32 (by decide) (fun h_32 => ?_) (fun h_32 => ?_)
  · have hf := fb_t h_32 hf
    exact w_X_X10_fill__0_38 C hr hf hP hS (lv_sub hl [0, 1, 2, 3, 4] rfl)
  · have hf := fb_f h_32 hf
    exact w_X_X10_fill__0_35 C hr hf hP hS (lv_sub hl [] rfl)
set_option maxRecDepth 20000 in
theorem w_X_X10_fill__0_21 {p : Program} {l : Launch} {e : Env} {s : State} {m : MethodId} {args : Array Value} {below : List Frame} {meth : Method} {c : Code} {A : Nat → Prop} {Q : State → Prop} {D : va_G} {ca : Nat → ClassId} {a : Nat → Nat} {u : fw_S} {r : Int32}  (C : CX (WX ca a) D (tyv ca) p s m args c A prog_1_method_34_code 6 RX10) (hr : True → RX (WX ca a) D p l e rm_X_X10_fill__0 s m args below meth c A prog_1_method_34_code Q .ireturn [.int r] u) {t : fw_S} {x1 : Int32} {x2 : Int32} {x3 : Int32} {x4 : Int32} {H : Heap} {locs : List Loc} {ls : Array Slot} (hf : b_X_X10_fill__0_21  t x1 x2 x3 x4 = some (r, u)) (hP : va_P D classes (WX ca a t) H) (hS : va_S A s.heap H locs) (hl : lv_has ls 6 [(0, .ref (a 0)), (1, .int x1), (2, .int x2), (3, .int x3), (4, .int x4)]) : W p l e rm_X_X10_fill__0 s m args below meth c H locs 0 0 Q (F0 m 21 ls []) := by
  obtain ⟨hx, hb, hml, hown, hts, hN, hK, hD, hA⟩ := id C
  have hf : (if x4 < 0 then b_X_X10_fill__0_35 t else b_X_X10_fill__0_26 t x1 x2 x3 x4) = some (r, u) := hf
  refine lv_iload hx hb dX10_fill_21 (lv_at hl 4 rfl) ?_
  refine lv_if_lt (tgt := 35) hx hb dX10_fill_23 (by decide) (fun h_23 => ?_) (fun h_23 => ?_)
  · have hf := fb_t h_23 hf
    exact w_X_X10_fill__0_35 C hr hf hP hS (lv_sub hl [] rfl)
  · have hf := fb_f h_23 hf
    exact w_X_X10_fill__0_26 C hr hf hP hS (lv_sub hl [0, 1, 2, 3, 4] rfl)
set_option maxRecDepth 20000 in
theorem w_X_X10_fill__0_11 {p : Program} {l : Launch} {e : Env} {s : State} {m : MethodId} {args : Array Value} {below : List Frame} {meth : Method} {c : Code} {A : Nat → Prop} {Q : State → Prop} {D : va_G} {ca : Nat → ClassId} {a : Nat → Nat} {u : fw_S} {r : Int32}  (C : CX (WX ca a) D (tyv ca) p s m args c A prog_1_method_34_code 6 RX10) (hr : True → RX (WX ca a) D p l e rm_X_X10_fill__0 s m args below meth c A prog_1_method_34_code Q .ireturn [.int r] u) {t : fw_S} {x1 : Int32} {x2 : Int32} {x3 : Int32} {x4 : Int32} {H : Heap} {locs : List Loc} {ls : Array Slot} (hf : b_X_X10_fill__0_11  t x1 x2 x3 x4 = some (r, u)) (hP : va_P D classes (WX ca a t) H) (hS : va_S A s.heap H locs) (hl : lv_has ls 6 [(0, .ref (a 0)), (1, .int x1), (2, .int x2), (3, .int x3), (4, .int x4)]) : W p l e rm_X_X10_fill__0 s m args below meth c H locs 0 0 Q (F0 m 11 ls []) := by
  obtain ⟨hx, hb, hml, hown, hts, hN, hK, hD, hA⟩ := id C
  have hf : (fb_b (f_X_X10_isCell t x3.toInt64) fun v_2 t_1 => (if v_2 = 0 then b_X_X10_fill__0_19 t_1 else b_X_X10_fill__0_21 t_1 x1 x2 x3 x4)) = some (r, u) := hf
  refine lv_iload_n hx hb dX10_fill_11 rfl (lv_at hl 3 rfl) ?_
  refine lv_i2l hx hb dX10_fill_12 rfl ?_
  obtain ⟨v_2, t_1, g_13, hf⟩ := fb_bs hf
  refine fw_S1 (As := [.long x3.toInt64]) (rest := []) (n := 1) C (c_X_X10_isCell (l := l) (D := D) (ca := ca) (a := a) g_13) kw_398 kw_399 kw_92 kw_400 hP hS hl rfl rfl (by decide) (by decide +kernel) ⟨Nat.le_of_ble_eq_true rfl, Nat.le_of_ble_eq_true rfl⟩ rfl rfl (Nat.le_of_ble_eq_true rfl) dX10_fill_13 (fun H locs hP hS => ?_)
  refine W.eq (g2 := F0 m 16 ls [.int v_2]) rfl ?_
  refine lv_if_ne (tgt := 21) hx hb dX10_fill_16 (by decide) (fun h_16 => ?_) (fun h_16 => ?_)
  · have hf := fb_f h_16 hf
    exact w_X_X10_fill__0_21 C hr hf hP hS (lv_sub hl [0, 1, 2, 3, 4] rfl)
  · have hf := fb_t h_16 hf
    exact w_X_X10_fill__0_19 C hr hf hP hS (lv_sub hl [] rfl)
set_option maxRecDepth 20000 in
theorem w_X_X10_fill__0_0 {p : Program} {l : Launch} {e : Env} {s : State} {m : MethodId} {args : Array Value} {below : List Frame} {meth : Method} {c : Code} {A : Nat → Prop} {Q : State → Prop} {D : va_G} {ca : Nat → ClassId} {a : Nat → Nat} {u : fw_S} {r : Int32}  (C : CX (WX ca a) D (tyv ca) p s m args c A prog_1_method_34_code 6 RX10) (hr : True → RX (WX ca a) D p l e rm_X_X10_fill__0 s m args below meth c A prog_1_method_34_code Q .ireturn [.int r] u) {t : fw_S} {x1 : Int32} {x2 : Int32} {x3 : Int32} {x4 : Int32} {H : Heap} {locs : List Loc} {ls : Array Slot} (hf : b_X_X10_fill__0_0  t x1 x2 x3 x4 = some (r, u)) (hP : va_P D classes (WX ca a t) H) (hS : va_S A s.heap H locs) (hl : lv_has ls 6 [(0, .ref (a 0)), (1, .int x1), (2, .int x2), (3, .int x3), (4, .int x4)]) : W p l e rm_X_X10_fill__0 s m args below meth c H locs 0 0 Q (F0 m 0 ls []) := by
  obtain ⟨hx, hb, hml, hown, hts, hN, hK, hD, hA⟩ := id C
  have hf : (fb_b (f_X_X4_isList__10 t x1) fun v_2 t_1 => (if v_2 = 0 then b_X_X10_fill__0_19 t_1 else b_X_X10_fill__0_11 t_1 x1 x2 x3 x4)) = some (r, u) := hf
  refine lv_aload_n hx hb dX10_fill_0 rfl (lv_at hl 0 rfl) ?_
  refine va_get (D := D) (ci := 10) (v := .ref (a 10)) (C := RX10) (T := TX10) (N := 13) hx hb hts inX10 hown hK hP 0 (heX_0 ca a t) rfl 7 (by decide) (hts _ kw_361) (fun _ h9 => h9) rfl dX10_fill_1 ?_
  refine lv_iload_n hx hb dX10_fill_4 rfl (lv_at hl 1 rfl) ?_
  obtain ⟨v_2, t_1, g_5, hf⟩ := fb_bs hf
  refine fw_V1 (As := [.int x1]) (rest := []) (n := 1) (q0 := 10) C (c_X_X4_isList__10 (l := l) (D := D) (ca := ca) (a := a) g_5) kw_1103 kw_1104 kw_100 kw_1106 kw_1105 hP hS hl (heX_10 ca a t) rfl rfl rfl (by decide) (by decide +kernel) ⟨Nat.le_of_ble_eq_true rfl, Nat.le_of_ble_eq_true rfl⟩ rfl rfl (Nat.le_of_ble_eq_true rfl) dX10_fill_5 (fun H locs hP hS => ?_)
  refine W.eq (g2 := F0 m 8 ls [.int v_2]) rfl ?_
  refine lv_if_eq (tgt := 19) hx hb dX10_fill_8 (by decide) (fun h_8 => ?_) (fun h_8 => ?_)
  · have hf := fb_t h_8 hf
    exact w_X_X10_fill__0_19 C hr hf hP hS (lv_sub hl [] rfl)
  · have hf := fb_f h_8 hf
    exact w_X_X10_fill__0_11 C hr hf hP hS (lv_sub hl [0, 1, 2, 3, 4] rfl)
set_option maxRecDepth 20000 in
theorem c_X_X10_fill__0 {l : Launch} {D : va_G} {ca : Nat → ClassId} {a : Nat → Nat} {t : fw_S} {x1 : Int32} {x2 : Int32} {x3 : Int32} {x4 : Int32} {u : fw_S} {r : Int32} (hf : f_X_X10_fill__0 t x1 x2 x3 x4 = some (r, u)) : MC (WX ca a) D (tyv ca) l yX10_fill (.code yX10_fill prog_1_method_34_code 6 (some .int) :: lw_gd) rm_X_X10_fill__0 [.ref (a 0), .int x1, .int x2, .int x3, .int x4] (some (.int r)) t u := by
  refine fw_met (okX ca a) (by decide +kernel) rfl rfl (Nat.le_of_ble_eq_true rfl) ?_
  intro p e s m args below meth c A Q ls C hr hk hP hS hl hQ
  exact w_X_X10_fill__0_0 C (fun _ => fw_ri C hr hk hQ) hf hP hS (lv_sub hl [0, 1, 2, 3, 4] rfl)
/-! ReactiveSheet.pour(IIII)I ['x'] -/
abbrev rm_X_X10_pour__0 : Room := { frames := 6, cells := 0, slots := 0, locals := 187 }
def b_X_X10_pour__0_19  (t : fw_S)  : Option (Int32 × fw_S) := some ((-1 : Int32), t)
def b_X_X10_pour__0_35  (t : fw_S)  : Option (Int32 × fw_S) := some ((-2 : Int32), t)
def b_X_X10_pour__0_125  (t : fw_S)  : Option (Int32 × fw_S) := fb_b (f_X_X10_surge__0 t) fun v_2 t_1 => (some (v_2, t_1))
def b_X_X10_pour__0_94 (k87 : fw_S → Int32 → Int32 → Int32 → Int32 → Int32 → Option (Int32 × fw_S)) (t : fw_S) (x1 : Int32) (x2 : Int32) (x3 : Int32) (x4 : Int32) (x5 : Int32) : Option (Int32 × fw_S) := fb_b (f_X_X4_at__10 t x1 (x2 + x5)) fun v_2 t_1 => (fb_v (f_X_X7_put__6_N t_1 (x3 + x5) ((1 : Int32)) v_2) fun t_3 => (k87 t_3 x1 x2 x3 x4 (x5 + 1)))
def b_X_X10_pour__0_87  : Nat → (fw_S → Int32 → Int32 → Int32 → Int32 → Int32 → Option (Int32 × fw_S))
  | 0 => fun _ _ _ _ _ _ => none
  | n + 1 => fun t x1 x2 x3 x4 x5 => if x4 ≤ x5 then b_X_X10_pour__0_125 t else b_X_X10_pour__0_94 (b_X_X10_pour__0_87 n) t x1 x2 x3 x4 x5
def b_X_X10_pour__0_84  (t : fw_S) (x1 : Int32) (x2 : Int32) (x3 : Int32) (x4 : Int32) : Option (Int32 × fw_S) := b_X_X10_pour__0_87 3000 t x1 x2 x3 x4 ((0 : Int32))
def b_X_X10_pour__0_81  (t : fw_S)  : Option (Int32 × fw_S) := some ((-3 : Int32), t)
def b_X_X10_pour__0_74  (t : fw_S) (x1 : Int32) (x2 : Int32) (x3 : Int32) (x4 : Int32) : Option (Int32 × fw_S) := if (st_I t 0) = 0 then b_X_X10_pour__0_84 t x1 x2 x3 x4 else b_X_X10_pour__0_81 t
def b_X_X10_pour__0_71  (t : fw_S)  : Option (Int32 × fw_S) := some ((-13 : Int32), t)
def b_X_X10_pour__0_57  (t : fw_S) (x1 : Int32) (x2 : Int32) (x3 : Int32) (x4 : Int32) : Option (Int32 × fw_S) := fb_b (f_X_X4_hasRow__10 t x1 x2 x4) fun v_2 t_1 => (if v_2 = 0 then b_X_X10_pour__0_71 t_1 else b_X_X10_pour__0_74 t_1 x1 x2 x3 x4)
def b_X_X10_pour__0_52  (t : fw_S) (x1 : Int32) (x2 : Int32) (x3 : Int32) (x4 : Int32) : Option (Int32 × fw_S) := if x4 ≤ 0 then b_X_X10_pour__0_74 t x1 x2 x3 x4 else b_X_X10_pour__0_57 t x1 x2 x3 x4
def b_X_X10_pour__0_49  (t : fw_S)  : Option (Int32 × fw_S) := some ((-11 : Int32), t)
def b_X_X10_pour__0_38  (t : fw_S) (x1 : Int32) (x2 : Int32) (x3 : Int32) (x4 : Int32) : Option (Int32 × fw_S) := fb_b (f_X_X4_isMade__10 t x1) fun v_2 t_1 => (if v_2 = 0 then b_X_X10_pour__0_49 t_1 else b_X_X10_pour__0_52 t_1 x1 x2 x3 x4)
def b_X_X10_pour__0_26  (t : fw_S) (x1 : Int32) (x2 : Int32) (x3 : Int32) (x4 : Int32) : Option (Int32 × fw_S) := if x4 ≤ (((32 : Int32)) - x3) then b_X_X10_pour__0_38 t x1 x2 x3 x4 else b_X_X10_pour__0_35 t
def b_X_X10_pour__0_21  (t : fw_S) (x1 : Int32) (x2 : Int32) (x3 : Int32) (x4 : Int32) : Option (Int32 × fw_S) := if x4 < 0 then b_X_X10_pour__0_35 t else b_X_X10_pour__0_26 t x1 x2 x3 x4
def b_X_X10_pour__0_11  (t : fw_S) (x1 : Int32) (x2 : Int32) (x3 : Int32) (x4 : Int32) : Option (Int32 × fw_S) := fb_b (f_X_X10_isCell t x3.toInt64) fun v_2 t_1 => (if v_2 = 0 then b_X_X10_pour__0_19 t_1 else b_X_X10_pour__0_21 t_1 x1 x2 x3 x4)
def b_X_X10_pour__0_0  (t : fw_S) (x1 : Int32) (x2 : Int32) (x3 : Int32) (x4 : Int32) : Option (Int32 × fw_S) := fb_b (f_X_X4_isList__10 t x1) fun v_2 t_1 => (if v_2 = 0 then b_X_X10_pour__0_19 t_1 else b_X_X10_pour__0_11 t_1 x1 x2 x3 x4)
def f_X_X10_pour__0 (t : fw_S) (x1 : Int32) (x2 : Int32) (x3 : Int32) (x4 : Int32) : Option (Int32 × fw_S) := b_X_X10_pour__0_0 t x1 x2 x3 x4
set_option maxRecDepth 20000 in
theorem w_X_X10_pour__0_19 {p : Program} {l : Launch} {e : Env} {s : State} {m : MethodId} {args : Array Value} {below : List Frame} {meth : Method} {c : Code} {A : Nat → Prop} {Q : State → Prop} {D : va_G} {ca : Nat → ClassId} {a : Nat → Nat} {u : fw_S} {r : Int32}  (C : CX (WX ca a) D (tyv ca) p s m args c A prog_1_method_35_code 6 RX10) (hr : True → RX (WX ca a) D p l e rm_X_X10_pour__0 s m args below meth c A prog_1_method_35_code Q .ireturn [.int r] u) {t : fw_S}  {H : Heap} {locs : List Loc} {ls : Array Slot} (hf : b_X_X10_pour__0_19  t  = some (r, u)) (hP : va_P D classes (WX ca a t) H) (hS : va_S A s.heap H locs) (hl : lv_has ls 6 []) : W p l e rm_X_X10_pour__0 s m args below meth c H locs 0 0 Q (F0 m 19 ls []) := by
  obtain ⟨hx, hb, hml, hown, hts, hN, hK, hD, hA⟩ := id C
  have hf : (some ((-1 : Int32), t)) = some (r, u) := hf
  refine lv_iconst (v := (-1)) hx hb dX10_pour_19 (by decide) ?_
  obtain ⟨e_20, e2_20⟩ := fb_e hf
  subst e_20; subst e2_20
  exact hr trivial _ _ _ _ hP hS dX10_pour_20
set_option maxRecDepth 20000 in
theorem w_X_X10_pour__0_35 {p : Program} {l : Launch} {e : Env} {s : State} {m : MethodId} {args : Array Value} {below : List Frame} {meth : Method} {c : Code} {A : Nat → Prop} {Q : State → Prop} {D : va_G} {ca : Nat → ClassId} {a : Nat → Nat} {u : fw_S} {r : Int32}  (C : CX (WX ca a) D (tyv ca) p s m args c A prog_1_method_35_code 6 RX10) (hr : True → RX (WX ca a) D p l e rm_X_X10_pour__0 s m args below meth c A prog_1_method_35_code Q .ireturn [.int r] u) {t : fw_S}  {H : Heap} {locs : List Loc} {ls : Array Slot} (hf : b_X_X10_pour__0_35  t  = some (r, u)) (hP : va_P D classes (WX ca a t) H) (hS : va_S A s.heap H locs) (hl : lv_has ls 6 []) : W p l e rm_X_X10_pour__0 s m args below meth c H locs 0 0 Q (F0 m 35 ls []) := by
  obtain ⟨hx, hb, hml, hown, hts, hN, hK, hD, hA⟩ := id C
  have hf : (some ((-2 : Int32), t)) = some (r, u) := hf
  refine lv_bipush (v := (-2)) hx hb dX10_pour_35 (by decide) ?_
  obtain ⟨e_37, e2_37⟩ := fb_e hf
  subst e_37; subst e2_37
  exact hr trivial _ _ _ _ hP hS dX10_pour_37
set_option maxRecDepth 20000 in
theorem w_X_X10_pour__0_125 {p : Program} {l : Launch} {e : Env} {s : State} {m : MethodId} {args : Array Value} {below : List Frame} {meth : Method} {c : Code} {A : Nat → Prop} {Q : State → Prop} {D : va_G} {ca : Nat → ClassId} {a : Nat → Nat} {u : fw_S} {r : Int32}  (C : CX (WX ca a) D (tyv ca) p s m args c A prog_1_method_35_code 6 RX10) (hr : True → RX (WX ca a) D p l e rm_X_X10_pour__0 s m args below meth c A prog_1_method_35_code Q .ireturn [.int r] u) {t : fw_S}  {H : Heap} {locs : List Loc} {ls : Array Slot} (hf : b_X_X10_pour__0_125  t  = some (r, u)) (hP : va_P D classes (WX ca a t) H) (hS : va_S A s.heap H locs) (hl : lv_has ls 6 [(0, .ref (a 0))]) : W p l e rm_X_X10_pour__0 s m args below meth c H locs 0 0 Q (F0 m 125 ls []) := by
  obtain ⟨hx, hb, hml, hown, hts, hN, hK, hD, hA⟩ := id C
  have hf : (fb_b (f_X_X10_surge__0 t) fun v_2 t_1 => (some (v_2, t_1))) = some (r, u) := hf
  refine lv_aload_n hx hb dX10_pour_125 rfl (lv_at hl 0 rfl) ?_
  obtain ⟨v_2, t_1, g_126, hf⟩ := fb_bs hf
  refine fw_V1 (As := []) (rest := []) (n := 0) (q0 := 0) C (c_X_X10_surge__0 (l := l) (D := D) (ca := ca) (a := a) g_126) kw_410 kw_412 kw_92 kw_413 kw_0 hP hS hl (heX_0 ca a t) rfl rfl rfl (by decide) (by decide +kernel) ⟨Nat.le_of_ble_eq_true rfl, Nat.le_of_ble_eq_true rfl⟩ rfl rfl (Nat.le_of_ble_eq_true rfl) dX10_pour_126 (fun H locs hP hS => ?_)
  refine W.eq (g2 := F0 m 129 ls [.int v_2]) rfl ?_
  obtain ⟨e_129, e2_129⟩ := fb_e hf
  subst e_129; subst e2_129
  exact hr trivial _ _ _ _ hP hS dX10_pour_129
set_option maxRecDepth 20000 in
theorem w_X_X10_pour__0_94 {p : Program} {l : Launch} {e : Env} {s : State} {m : MethodId} {args : Array Value} {below : List Frame} {meth : Method} {c : Code} {A : Nat → Prop} {Q : State → Prop} {D : va_G} {ca : Nat → ClassId} {a : Nat → Nat} {u : fw_S} {r : Int32} {k87 : fw_S → Int32 → Int32 → Int32 → Int32 → Int32 → Option (Int32 × fw_S)} (C : CX (WX ca a) D (tyv ca) p s m args c A prog_1_method_35_code 6 RX10) (hr : True → RX (WX ca a) D p l e rm_X_X10_pour__0 s m args below meth c A prog_1_method_35_code Q .ireturn [.int r] u) (hk87 : ∀ (t : fw_S) (x1 : Int32) (x2 : Int32) (x3 : Int32) (x4 : Int32) (x5 : Int32) (H : Heap) (locs : List Loc) (ls : Array Slot), k87 t x1 x2 x3 x4 x5 = some (r, u) → va_P D classes (WX ca a t) H → va_S A s.heap H locs → lv_has ls 6 [(0, .ref (a 0)), (1, .int x1), (2, .int x2), (3, .int x3), (4, .int x4), (5, .int x5)] → W p l e rm_X_X10_pour__0 s m args below meth c H locs 0 0 Q (F0 m 87 ls [])) {t : fw_S} {x1 : Int32} {x2 : Int32} {x3 : Int32} {x4 : Int32} {x5 : Int32} {H : Heap} {locs : List Loc} {ls : Array Slot} (hf : b_X_X10_pour__0_94 k87 t x1 x2 x3 x4 x5 = some (r, u)) (hP : va_P D classes (WX ca a t) H) (hS : va_S A s.heap H locs) (hl : lv_has ls 6 [(0, .ref (a 0)), (1, .int x1), (2, .int x2), (3, .int x3), (4, .int x4), (5, .int x5)]) : W p l e rm_X_X10_pour__0 s m args below meth c H locs 0 0 Q (F0 m 94 ls []) := by
  obtain ⟨hx, hb, hml, hown, hts, hN, hK, hD, hA⟩ := id C
  have hf : (fb_b (f_X_X4_at__10 t x1 (x2 + x5)) fun v_2 t_1 => (fb_v (f_X_X7_put__6_N t_1 (x3 + x5) ((1 : Int32)) v_2) fun t_3 => (k87 t_3 x1 x2 x3 x4 (x5 + 1)))) = some (r, u) := hf
  refine lv_aload_n hx hb dX10_pour_94 rfl (lv_at hl 0 rfl) ?_
  refine va_get (D := D) (ci := 10) (v := .ref (a 6)) (C := RX10) (T := TX10) (N := 13) hx hb hts inX10 hown hK hP 0 (heX_0 ca a t) rfl 3 (by decide) (hts _ kw_357) (fun _ h9 => h9) rfl dX10_pour_95 ?_
  refine lv_iload_n hx hb dX10_pour_98 rfl (lv_at hl 3 rfl) ?_
  refine lv_iload hx hb dX10_pour_99 (lv_at hl 5 rfl) ?_
  refine lv_iadd hx hb dX10_pour_101 ?_
  refine lv_iconst (v := 1) hx hb dX10_pour_102 (by decide) ?_
  refine lv_aload_n hx hb dX10_pour_103 rfl (lv_at hl 0 rfl) ?_
  refine va_get (D := D) (ci := 10) (v := .ref (a 10)) (C := RX10) (T := TX10) (N := 13) hx hb hts inX10 hown hK hP 0 (heX_0 ca a t) rfl 7 (by decide) (hts _ kw_361) (fun _ h9 => h9) rfl dX10_pour_104 ?_
  refine lv_iload_n hx hb dX10_pour_107 rfl (lv_at hl 1 rfl) ?_
  refine lv_iload_n hx hb dX10_pour_108 rfl (lv_at hl 2 rfl) ?_
  refine lv_iload hx hb dX10_pour_109 (lv_at hl 5 rfl) ?_
  refine lv_iadd hx hb dX10_pour_111 ?_
  obtain ⟨v_2, t_1, g_112, hf⟩ := fb_bs hf
  refine fw_V1 (As := [.int x1, .int (x2 + x5)]) (rest := [.int ((1 : Int32)), .int (x3 + x5), .ref (a 6)]) (n := 2) (q0 := 10) C (c_X_X4_at__10 (l := l) (D := D) (ca := ca) (a := a) g_112) kw_1140 kw_1141 kw_100 kw_1143 kw_1142 hP hS hl (heX_10 ca a t) rfl rfl rfl (by decide) (by decide +kernel) ⟨Nat.le_of_ble_eq_true rfl, Nat.le_of_ble_eq_true rfl⟩ rfl rfl (Nat.le_of_ble_eq_true rfl) dX10_pour_112 (fun H locs hP hS => ?_)
  refine W.eq (g2 := F0 m 115 ls [.long v_2, .int ((1 : Int32)), .int (x3 + x5), .ref (a 6)]) rfl ?_
  refine lv_null hx hb dX10_pour_115 ?_
  obtain ⟨t_3, g_116, hf⟩ := fb_vs hf
  refine fw_V1 (As := [.int (x3 + x5), .int ((1 : Int32)), .long v_2, .null]) (rest := []) (n := 4) (q0 := 6) C (c_X_X7_put__6_N (l := l) (D := D) (ca := ca) (a := a) g_116) kw_402 kw_403 kw_97 kw_405 kw_404 hP hS hl (heX_6 ca a t_1) rfl rfl rfl (by decide) (by decide +kernel) ⟨Nat.le_of_ble_eq_true rfl, Nat.le_of_ble_eq_true rfl⟩ rfl rfl (Nat.le_of_ble_eq_true rfl) dX10_pour_116 (fun H locs hP hS => ?_)
  refine W.eq (g2 := F0 m 119 ls []) rfl ?_
  refine lv_iinc (v := x5 + 1) (lv' := [(5, .int (x5 + 1)), (0, .ref (a 0)), (1, .int x1), (2, .int x2), (3, .int x3), (4, .int x4)]) hx hb dX10_pour_119 hl (k := 5) rfl rfl (by decide) rfl (fun ls hl => ?_)
  refine lv_goto (tgt := 87) hx hb dX10_pour_122 (by decide) ?_
  exact hk87 t_3 x1 x2 x3 x4 (x5 + 1) _ _ _ hf hP hS (lv_sub hl [1, 2, 3, 4, 5, 0] rfl)
set_option maxRecDepth 20000 in
theorem w_X_X10_pour__0_87 {p : Program} {l : Launch} {e : Env} {s : State} {m : MethodId} {args : Array Value} {below : List Frame} {meth : Method} {c : Code} {A : Nat → Prop} {Q : State → Prop} {D : va_G} {ca : Nat → ClassId} {a : Nat → Nat} {u : fw_S} {r : Int32}  (C : CX (WX ca a) D (tyv ca) p s m args c A prog_1_method_35_code 6 RX10) (hr : True → RX (WX ca a) D p l e rm_X_X10_pour__0 s m args below meth c A prog_1_method_35_code Q .ireturn [.int r] u) : ∀ (n : Nat) (t : fw_S) (x1 : Int32) (x2 : Int32) (x3 : Int32) (x4 : Int32) (x5 : Int32) (H : Heap) (locs : List Loc) (ls : Array Slot), b_X_X10_pour__0_87  n t x1 x2 x3 x4 x5 = some (r, u) → va_P D classes (WX ca a t) H → va_S A s.heap H locs → lv_has ls 6 [(0, .ref (a 0)), (1, .int x1), (2, .int x2), (3, .int x3), (4, .int x4), (5, .int x5)] → W p l e rm_X_X10_pour__0 s m args below meth c H locs 0 0 Q (F0 m 87 ls []) := by
  obtain ⟨hx, hb, hml, hown, hts, hN, hK, hD, hA⟩ := id C
  intro n
  induction n with
  | zero => intro t x1 x2 x3 x4 x5 H locs ls hf; cases hf
  | succ n hk87 =>
    intro t x1 x2 x3 x4 x5 H locs ls hf hP hS hl
    have hf : (if x4 ≤ x5 then b_X_X10_pour__0_125 t else b_X_X10_pour__0_94 (b_X_X10_pour__0_87 n) t x1 x2 x3 x4 x5) = some (r, u) := hf
    refine lv_iload hx hb dX10_pour_87 (lv_at hl 5 rfl) ?_
    refine lv_iload hx hb dX10_pour_89 (lv_at hl 4 rfl) ?_
    refine lv_icmp_ge (tgt := 125) hx hb dX10_pour_91 (by decide) (fun h_91 => ?_) (fun h_91 => ?_)
    · have hf := fb_t h_91 hf
      exact w_X_X10_pour__0_125 C hr hf hP hS (lv_sub hl [0] rfl)
    · have hf := fb_f h_91 hf
      exact w_X_X10_pour__0_94 C hr hk87 hf hP hS (lv_sub hl [0, 1, 2, 3, 4, 5] rfl)
set_option maxRecDepth 20000 in
theorem w_X_X10_pour__0_84 {p : Program} {l : Launch} {e : Env} {s : State} {m : MethodId} {args : Array Value} {below : List Frame} {meth : Method} {c : Code} {A : Nat → Prop} {Q : State → Prop} {D : va_G} {ca : Nat → ClassId} {a : Nat → Nat} {u : fw_S} {r : Int32}  (C : CX (WX ca a) D (tyv ca) p s m args c A prog_1_method_35_code 6 RX10) (hr : True → RX (WX ca a) D p l e rm_X_X10_pour__0 s m args below meth c A prog_1_method_35_code Q .ireturn [.int r] u) {t : fw_S} {x1 : Int32} {x2 : Int32} {x3 : Int32} {x4 : Int32} {H : Heap} {locs : List Loc} {ls : Array Slot} (hf : b_X_X10_pour__0_84  t x1 x2 x3 x4 = some (r, u)) (hP : va_P D classes (WX ca a t) H) (hS : va_S A s.heap H locs) (hl : lv_has ls 6 [(0, .ref (a 0)), (1, .int x1), (2, .int x2), (3, .int x3), (4, .int x4)]) : W p l e rm_X_X10_pour__0 s m args below meth c H locs 0 0 Q (F0 m 84 ls []) := by
  obtain ⟨hx, hb, hml, hown, hts, hN, hK, hD, hA⟩ := id C
  have hf : (b_X_X10_pour__0_87 3000 t x1 x2 x3 x4 ((0 : Int32))) = some (r, u) := hf
  refine lv_iconst (v := 0) hx hb dX10_pour_84 (by decide) ?_
  refine lv_istore (lv' := [(5, .int ((0 : Int32))), (0, .ref (a 0)), (1, .int x1), (2, .int x2), (3, .int x3), (4, .int x4)]) hx hb dX10_pour_85 hl (by decide) rfl (fun ls hl => ?_)
  exact w_X_X10_pour__0_87 C hr 3000 t x1 x2 x3 x4 ((0 : Int32)) _ _ _ hf hP hS (lv_sub hl [1, 2, 3, 4, 5, 0] rfl)
set_option maxRecDepth 20000 in
theorem w_X_X10_pour__0_81 {p : Program} {l : Launch} {e : Env} {s : State} {m : MethodId} {args : Array Value} {below : List Frame} {meth : Method} {c : Code} {A : Nat → Prop} {Q : State → Prop} {D : va_G} {ca : Nat → ClassId} {a : Nat → Nat} {u : fw_S} {r : Int32}  (C : CX (WX ca a) D (tyv ca) p s m args c A prog_1_method_35_code 6 RX10) (hr : True → RX (WX ca a) D p l e rm_X_X10_pour__0 s m args below meth c A prog_1_method_35_code Q .ireturn [.int r] u) {t : fw_S}  {H : Heap} {locs : List Loc} {ls : Array Slot} (hf : b_X_X10_pour__0_81  t  = some (r, u)) (hP : va_P D classes (WX ca a t) H) (hS : va_S A s.heap H locs) (hl : lv_has ls 6 []) : W p l e rm_X_X10_pour__0 s m args below meth c H locs 0 0 Q (F0 m 81 ls []) := by
  obtain ⟨hx, hb, hml, hown, hts, hN, hK, hD, hA⟩ := id C
  have hf : (some ((-3 : Int32), t)) = some (r, u) := hf
  refine lv_bipush (v := (-3)) hx hb dX10_pour_81 (by decide) ?_
  obtain ⟨e_83, e2_83⟩ := fb_e hf
  subst e_83; subst e2_83
  exact hr trivial _ _ _ _ hP hS dX10_pour_83
set_option maxRecDepth 20000 in
theorem w_X_X10_pour__0_74 {p : Program} {l : Launch} {e : Env} {s : State} {m : MethodId} {args : Array Value} {below : List Frame} {meth : Method} {c : Code} {A : Nat → Prop} {Q : State → Prop} {D : va_G} {ca : Nat → ClassId} {a : Nat → Nat} {u : fw_S} {r : Int32}  (C : CX (WX ca a) D (tyv ca) p s m args c A prog_1_method_35_code 6 RX10) (hr : True → RX (WX ca a) D p l e rm_X_X10_pour__0 s m args below meth c A prog_1_method_35_code Q .ireturn [.int r] u) {t : fw_S} {x1 : Int32} {x2 : Int32} {x3 : Int32} {x4 : Int32} {H : Heap} {locs : List Loc} {ls : Array Slot} (hf : b_X_X10_pour__0_74  t x1 x2 x3 x4 = some (r, u)) (hP : va_P D classes (WX ca a t) H) (hS : va_S A s.heap H locs) (hl : lv_has ls 6 [(0, .ref (a 0)), (1, .int x1), (2, .int x2), (3, .int x3), (4, .int x4)]) : W p l e rm_X_X10_pour__0 s m args below meth c H locs 0 0 Q (F0 m 74 ls []) := by
  obtain ⟨hx, hb, hml, hown, hts, hN, hK, hD, hA⟩ := id C
  have hf : (if (st_I t 0) = 0 then b_X_X10_pour__0_84 t x1 x2 x3 x4 else b_X_X10_pour__0_81 t) = some (r, u) := hf
  refine lv_aload_n hx hb dX10_pour_74 rfl (lv_at hl 0 rfl) ?_
  refine va_get (D := D) (ci := 10) (v := .int (st_I t 0)) (C := RX10) (T := TX10) (N := 13) hx hb hts inX10 hown hK hP 0 (heX_0 ca a t) rfl 11 (by decide) (hts _ kw_365) (fun _ h9 => h9) rfl dX10_pour_75 ?_
  refine lv_if_eq (tgt := 84) hx hb dX10_pour_78 (by decide) (fun h_78 => ?_) (fun h_78 => ?_)
  · have hf := fb_t h_78 hf
    exact w_X_X10_pour__0_84 C hr hf hP hS (lv_sub hl [0, 1, 2, 3, 4] rfl)
  · have hf := fb_f h_78 hf
    exact w_X_X10_pour__0_81 C hr hf hP hS (lv_sub hl [] rfl)
set_option maxRecDepth 20000 in
theorem w_X_X10_pour__0_71 {p : Program} {l : Launch} {e : Env} {s : State} {m : MethodId} {args : Array Value} {below : List Frame} {meth : Method} {c : Code} {A : Nat → Prop} {Q : State → Prop} {D : va_G} {ca : Nat → ClassId} {a : Nat → Nat} {u : fw_S} {r : Int32}  (C : CX (WX ca a) D (tyv ca) p s m args c A prog_1_method_35_code 6 RX10) (hr : True → RX (WX ca a) D p l e rm_X_X10_pour__0 s m args below meth c A prog_1_method_35_code Q .ireturn [.int r] u) {t : fw_S}  {H : Heap} {locs : List Loc} {ls : Array Slot} (hf : b_X_X10_pour__0_71  t  = some (r, u)) (hP : va_P D classes (WX ca a t) H) (hS : va_S A s.heap H locs) (hl : lv_has ls 6 []) : W p l e rm_X_X10_pour__0 s m args below meth c H locs 0 0 Q (F0 m 71 ls []) := by
  obtain ⟨hx, hb, hml, hown, hts, hN, hK, hD, hA⟩ := id C
  have hf : (some ((-13 : Int32), t)) = some (r, u) := hf
  refine lv_bipush (v := (-13)) hx hb dX10_pour_71 (by decide) ?_
  obtain ⟨e_73, e2_73⟩ := fb_e hf
  subst e_73; subst e2_73
  exact hr trivial _ _ _ _ hP hS dX10_pour_73
set_option maxRecDepth 20000 in
theorem w_X_X10_pour__0_57 {p : Program} {l : Launch} {e : Env} {s : State} {m : MethodId} {args : Array Value} {below : List Frame} {meth : Method} {c : Code} {A : Nat → Prop} {Q : State → Prop} {D : va_G} {ca : Nat → ClassId} {a : Nat → Nat} {u : fw_S} {r : Int32}  (C : CX (WX ca a) D (tyv ca) p s m args c A prog_1_method_35_code 6 RX10) (hr : True → RX (WX ca a) D p l e rm_X_X10_pour__0 s m args below meth c A prog_1_method_35_code Q .ireturn [.int r] u) {t : fw_S} {x1 : Int32} {x2 : Int32} {x3 : Int32} {x4 : Int32} {H : Heap} {locs : List Loc} {ls : Array Slot} (hf : b_X_X10_pour__0_57  t x1 x2 x3 x4 = some (r, u)) (hP : va_P D classes (WX ca a t) H) (hS : va_S A s.heap H locs) (hl : lv_has ls 6 [(0, .ref (a 0)), (1, .int x1), (2, .int x2), (3, .int x3), (4, .int x4)]) : W p l e rm_X_X10_pour__0 s m args below meth c H locs 0 0 Q (F0 m 57 ls []) := by
  obtain ⟨hx, hb, hml, hown, hts, hN, hK, hD, hA⟩ := id C
  have hf : (fb_b (f_X_X4_hasRow__10 t x1 x2 x4) fun v_2 t_1 => (if v_2 = 0 then b_X_X10_pour__0_71 t_1 else b_X_X10_pour__0_74 t_1 x1 x2 x3 x4)) = some (r, u) := hf
  refine lv_aload_n hx hb dX10_pour_57 rfl (lv_at hl 0 rfl) ?_
  refine va_get (D := D) (ci := 10) (v := .ref (a 10)) (C := RX10) (T := TX10) (N := 13) hx hb hts inX10 hown hK hP 0 (heX_0 ca a t) rfl 7 (by decide) (hts _ kw_361) (fun _ h9 => h9) rfl dX10_pour_58 ?_
  refine lv_iload_n hx hb dX10_pour_61 rfl (lv_at hl 1 rfl) ?_
  refine lv_iload_n hx hb dX10_pour_62 rfl (lv_at hl 2 rfl) ?_
  refine lv_iload hx hb dX10_pour_63 (lv_at hl 4 rfl) ?_
  obtain ⟨v_2, t_1, g_65, hf⟩ := fb_bs hf
  refine fw_V1 (As := [.int x1, .int x2, .int x4]) (rest := []) (n := 3) (q0 := 10) C (c_X_X4_hasRow__10 (l := l) (D := D) (ca := ca) (a := a) g_65) kw_1149 kw_1150 kw_100 kw_1152 kw_1151 hP hS hl (heX_10 ca a t) rfl rfl rfl (by decide) (by decide +kernel) ⟨Nat.le_of_ble_eq_true rfl, Nat.le_of_ble_eq_true rfl⟩ rfl rfl (Nat.le_of_ble_eq_true rfl) dX10_pour_65 (fun H locs hP hS => ?_)
  refine W.eq (g2 := F0 m 68 ls [.int v_2]) rfl ?_
  refine lv_if_ne (tgt := 74) hx hb dX10_pour_68 (by decide) (fun h_68 => ?_) (fun h_68 => ?_)
  · have hf := fb_f h_68 hf
    exact w_X_X10_pour__0_74 C hr hf hP hS (lv_sub hl [0, 1, 2, 3, 4] rfl)
  · have hf := fb_t h_68 hf
    exact w_X_X10_pour__0_71 C hr hf hP hS (lv_sub hl [] rfl)
set_option maxRecDepth 20000 in
theorem w_X_X10_pour__0_52 {p : Program} {l : Launch} {e : Env} {s : State} {m : MethodId} {args : Array Value} {below : List Frame} {meth : Method} {c : Code} {A : Nat → Prop} {Q : State → Prop} {D : va_G} {ca : Nat → ClassId} {a : Nat → Nat} {u : fw_S} {r : Int32}  (C : CX (WX ca a) D (tyv ca) p s m args c A prog_1_method_35_code 6 RX10) (hr : True → RX (WX ca a) D p l e rm_X_X10_pour__0 s m args below meth c A prog_1_method_35_code Q .ireturn [.int r] u) {t : fw_S} {x1 : Int32} {x2 : Int32} {x3 : Int32} {x4 : Int32} {H : Heap} {locs : List Loc} {ls : Array Slot} (hf : b_X_X10_pour__0_52  t x1 x2 x3 x4 = some (r, u)) (hP : va_P D classes (WX ca a t) H) (hS : va_S A s.heap H locs) (hl : lv_has ls 6 [(0, .ref (a 0)), (1, .int x1), (2, .int x2), (3, .int x3), (4, .int x4)]) : W p l e rm_X_X10_pour__0 s m args below meth c H locs 0 0 Q (F0 m 52 ls []) := by
  obtain ⟨hx, hb, hml, hown, hts, hN, hK, hD, hA⟩ := id C
  have hf : (if x4 ≤ 0 then b_X_X10_pour__0_74 t x1 x2 x3 x4 else b_X_X10_pour__0_57 t x1 x2 x3 x4) = some (r, u) := hf
  refine lv_iload hx hb dX10_pour_52 (lv_at hl 4 rfl) ?_
  refine lv_if_le (tgt := 74) hx hb dX10_pour_54 (by decide) (fun h_54 => ?_) (fun h_54 => ?_)
  · have hf := fb_t h_54 hf
    exact w_X_X10_pour__0_74 C hr hf hP hS (lv_sub hl [0, 1, 2, 3, 4] rfl)
  · have hf := fb_f h_54 hf
    exact w_X_X10_pour__0_57 C hr hf hP hS (lv_sub hl [0, 1, 2, 3, 4] rfl)
set_option maxRecDepth 20000 in
theorem w_X_X10_pour__0_49 {p : Program} {l : Launch} {e : Env} {s : State} {m : MethodId} {args : Array Value} {below : List Frame} {meth : Method} {c : Code} {A : Nat → Prop} {Q : State → Prop} {D : va_G} {ca : Nat → ClassId} {a : Nat → Nat} {u : fw_S} {r : Int32}  (C : CX (WX ca a) D (tyv ca) p s m args c A prog_1_method_35_code 6 RX10) (hr : True → RX (WX ca a) D p l e rm_X_X10_pour__0 s m args below meth c A prog_1_method_35_code Q .ireturn [.int r] u) {t : fw_S}  {H : Heap} {locs : List Loc} {ls : Array Slot} (hf : b_X_X10_pour__0_49  t  = some (r, u)) (hP : va_P D classes (WX ca a t) H) (hS : va_S A s.heap H locs) (hl : lv_has ls 6 []) : W p l e rm_X_X10_pour__0 s m args below meth c H locs 0 0 Q (F0 m 49 ls []) := by
  obtain ⟨hx, hb, hml, hown, hts, hN, hK, hD, hA⟩ := id C
  have hf : (some ((-11 : Int32), t)) = some (r, u) := hf
  refine lv_bipush (v := (-11)) hx hb dX10_pour_49 (by decide) ?_
  obtain ⟨e_51, e2_51⟩ := fb_e hf
  subst e_51; subst e2_51
  exact hr trivial _ _ _ _ hP hS dX10_pour_51
set_option maxRecDepth 20000 in
theorem w_X_X10_pour__0_38 {p : Program} {l : Launch} {e : Env} {s : State} {m : MethodId} {args : Array Value} {below : List Frame} {meth : Method} {c : Code} {A : Nat → Prop} {Q : State → Prop} {D : va_G} {ca : Nat → ClassId} {a : Nat → Nat} {u : fw_S} {r : Int32}  (C : CX (WX ca a) D (tyv ca) p s m args c A prog_1_method_35_code 6 RX10) (hr : True → RX (WX ca a) D p l e rm_X_X10_pour__0 s m args below meth c A prog_1_method_35_code Q .ireturn [.int r] u) {t : fw_S} {x1 : Int32} {x2 : Int32} {x3 : Int32} {x4 : Int32} {H : Heap} {locs : List Loc} {ls : Array Slot} (hf : b_X_X10_pour__0_38  t x1 x2 x3 x4 = some (r, u)) (hP : va_P D classes (WX ca a t) H) (hS : va_S A s.heap H locs) (hl : lv_has ls 6 [(0, .ref (a 0)), (1, .int x1), (2, .int x2), (3, .int x3), (4, .int x4)]) : W p l e rm_X_X10_pour__0 s m args below meth c H locs 0 0 Q (F0 m 38 ls []) := by
  obtain ⟨hx, hb, hml, hown, hts, hN, hK, hD, hA⟩ := id C
  have hf : (fb_b (f_X_X4_isMade__10 t x1) fun v_2 t_1 => (if v_2 = 0 then b_X_X10_pour__0_49 t_1 else b_X_X10_pour__0_52 t_1 x1 x2 x3 x4)) = some (r, u) := hf
  refine lv_aload_n hx hb dX10_pour_38 rfl (lv_at hl 0 rfl) ?_
  refine va_get (D := D) (ci := 10) (v := .ref (a 10)) (C := RX10) (T := TX10) (N := 13) hx hb hts inX10 hown hK hP 0 (heX_0 ca a t) rfl 7 (by decide) (hts _ kw_361) (fun _ h9 => h9) rfl dX10_pour_39 ?_
  refine lv_iload_n hx hb dX10_pour_42 rfl (lv_at hl 1 rfl) ?_
  obtain ⟨v_2, t_1, g_43, hf⟩ := fb_bs hf
  refine fw_V1 (As := [.int x1]) (rest := []) (n := 1) (q0 := 10) C (c_X_X4_isMade__10 (l := l) (D := D) (ca := ca) (a := a) g_43) kw_1122 kw_1123 kw_100 kw_1125 kw_1124 hP hS hl (heX_10 ca a t) rfl rfl rfl (by decide) (by decide +kernel) ⟨Nat.le_of_ble_eq_true rfl, Nat.le_of_ble_eq_true rfl⟩ rfl rfl (Nat.le_of_ble_eq_true rfl) dX10_pour_43 (fun H locs hP hS => ?_)
  refine W.eq (g2 := F0 m 46 ls [.int v_2]) rfl ?_
  refine lv_if_ne (tgt := 52) hx hb dX10_pour_46 (by decide) (fun h_46 => ?_) (fun h_46 => ?_)
  · have hf := fb_f h_46 hf
    exact w_X_X10_pour__0_52 C hr hf hP hS (lv_sub hl [0, 1, 2, 3, 4] rfl)
  · have hf := fb_t h_46 hf
    exact w_X_X10_pour__0_49 C hr hf hP hS (lv_sub hl [] rfl)
set_option maxRecDepth 20000 in
theorem w_X_X10_pour__0_26 {p : Program} {l : Launch} {e : Env} {s : State} {m : MethodId} {args : Array Value} {below : List Frame} {meth : Method} {c : Code} {A : Nat → Prop} {Q : State → Prop} {D : va_G} {ca : Nat → ClassId} {a : Nat → Nat} {u : fw_S} {r : Int32}  (C : CX (WX ca a) D (tyv ca) p s m args c A prog_1_method_35_code 6 RX10) (hr : True → RX (WX ca a) D p l e rm_X_X10_pour__0 s m args below meth c A prog_1_method_35_code Q .ireturn [.int r] u) {t : fw_S} {x1 : Int32} {x2 : Int32} {x3 : Int32} {x4 : Int32} {H : Heap} {locs : List Loc} {ls : Array Slot} (hf : b_X_X10_pour__0_26  t x1 x2 x3 x4 = some (r, u)) (hP : va_P D classes (WX ca a t) H) (hS : va_S A s.heap H locs) (hl : lv_has ls 6 [(0, .ref (a 0)), (1, .int x1), (2, .int x2), (3, .int x3), (4, .int x4)]) : W p l e rm_X_X10_pour__0 s m args below meth c H locs 0 0 Q (F0 m 26 ls []) := by
  obtain ⟨hx, hb, hml, hown, hts, hN, hK, hD, hA⟩ := id C
  have hf : (if x4 ≤ (((32 : Int32)) - x3) then b_X_X10_pour__0_38 t x1 x2 x3 x4 else b_X_X10_pour__0_35 t) = some (r, u) := hf
  refine lv_iload hx hb dX10_pour_26 (lv_at hl 4 rfl) ?_
  refine lv_bipush (v := 32) hx hb dX10_pour_28 (by decide) ?_
  refine lv_iload_n hx hb dX10_pour_30 rfl (lv_at hl 3 rfl) ?_
  refine lv_isub hx hb dX10_pour_31 ?_
  refine lv_icmp_le (tgt := 38) hx hb dX10_pour_32 (by decide) (fun h_32 => ?_) (fun h_32 => ?_)
  · have hf := fb_t h_32 hf
    exact w_X_X10_pour__0_38 C hr hf hP hS (lv_sub hl [0, 1, 2, 3, 4] rfl)
  · have hf := fb_f h_32 hf
    exact w_X_X10_pour__0_35 C hr hf hP hS (lv_sub hl [] rfl)
set_option maxRecDepth 20000 in
theorem w_X_X10_pour__0_21 {p : Program} {l : Launch} {e : Env} {s : State} {m : MethodId} {args : Array Value} {below : List Frame} {meth : Method} {c : Code} {A : Nat → Prop} {Q : State → Prop} {D : va_G} {ca : Nat → ClassId} {a : Nat → Nat} {u : fw_S} {r : Int32}  (C : CX (WX ca a) D (tyv ca) p s m args c A prog_1_method_35_code 6 RX10) (hr : True → RX (WX ca a) D p l e rm_X_X10_pour__0 s m args below meth c A prog_1_method_35_code Q .ireturn [.int r] u) {t : fw_S} {x1 : Int32} {x2 : Int32} {x3 : Int32} {x4 : Int32} {H : Heap} {locs : List Loc} {ls : Array Slot} (hf : b_X_X10_pour__0_21  t x1 x2 x3 x4 = some (r, u)) (hP : va_P D classes (WX ca a t) H) (hS : va_S A s.heap H locs) (hl : lv_has ls 6 [(0, .ref (a 0)), (1, .int x1), (2, .int x2), (3, .int x3), (4, .int x4)]) : W p l e rm_X_X10_pour__0 s m args below meth c H locs 0 0 Q (F0 m 21 ls []) := by
  obtain ⟨hx, hb, hml, hown, hts, hN, hK, hD, hA⟩ := id C
  have hf : (if x4 < 0 then b_X_X10_pour__0_35 t else b_X_X10_pour__0_26 t x1 x2 x3 x4) = some (r, u) := hf
  refine lv_iload hx hb dX10_pour_21 (lv_at hl 4 rfl) ?_
  refine lv_if_lt (tgt := 35) hx hb dX10_pour_23 (by decide) (fun h_23 => ?_) (fun h_23 => ?_)
  · have hf := fb_t h_23 hf
    exact w_X_X10_pour__0_35 C hr hf hP hS (lv_sub hl [] rfl)
  · have hf := fb_f h_23 hf
    exact w_X_X10_pour__0_26 C hr hf hP hS (lv_sub hl [0, 1, 2, 3, 4] rfl)
set_option maxRecDepth 20000 in
theorem w_X_X10_pour__0_11 {p : Program} {l : Launch} {e : Env} {s : State} {m : MethodId} {args : Array Value} {below : List Frame} {meth : Method} {c : Code} {A : Nat → Prop} {Q : State → Prop} {D : va_G} {ca : Nat → ClassId} {a : Nat → Nat} {u : fw_S} {r : Int32}  (C : CX (WX ca a) D (tyv ca) p s m args c A prog_1_method_35_code 6 RX10) (hr : True → RX (WX ca a) D p l e rm_X_X10_pour__0 s m args below meth c A prog_1_method_35_code Q .ireturn [.int r] u) {t : fw_S} {x1 : Int32} {x2 : Int32} {x3 : Int32} {x4 : Int32} {H : Heap} {locs : List Loc} {ls : Array Slot} (hf : b_X_X10_pour__0_11  t x1 x2 x3 x4 = some (r, u)) (hP : va_P D classes (WX ca a t) H) (hS : va_S A s.heap H locs) (hl : lv_has ls 6 [(0, .ref (a 0)), (1, .int x1), (2, .int x2), (3, .int x3), (4, .int x4)]) : W p l e rm_X_X10_pour__0 s m args below meth c H locs 0 0 Q (F0 m 11 ls []) := by
  obtain ⟨hx, hb, hml, hown, hts, hN, hK, hD, hA⟩ := id C
  have hf : (fb_b (f_X_X10_isCell t x3.toInt64) fun v_2 t_1 => (if v_2 = 0 then b_X_X10_pour__0_19 t_1 else b_X_X10_pour__0_21 t_1 x1 x2 x3 x4)) = some (r, u) := hf
  refine lv_iload_n hx hb dX10_pour_11 rfl (lv_at hl 3 rfl) ?_
  refine lv_i2l hx hb dX10_pour_12 rfl ?_
  obtain ⟨v_2, t_1, g_13, hf⟩ := fb_bs hf
  refine fw_S1 (As := [.long x3.toInt64]) (rest := []) (n := 1) C (c_X_X10_isCell (l := l) (D := D) (ca := ca) (a := a) g_13) kw_398 kw_399 kw_92 kw_400 hP hS hl rfl rfl (by decide) (by decide +kernel) ⟨Nat.le_of_ble_eq_true rfl, Nat.le_of_ble_eq_true rfl⟩ rfl rfl (Nat.le_of_ble_eq_true rfl) dX10_pour_13 (fun H locs hP hS => ?_)
  refine W.eq (g2 := F0 m 16 ls [.int v_2]) rfl ?_
  refine lv_if_ne (tgt := 21) hx hb dX10_pour_16 (by decide) (fun h_16 => ?_) (fun h_16 => ?_)
  · have hf := fb_f h_16 hf
    exact w_X_X10_pour__0_21 C hr hf hP hS (lv_sub hl [0, 1, 2, 3, 4] rfl)
  · have hf := fb_t h_16 hf
    exact w_X_X10_pour__0_19 C hr hf hP hS (lv_sub hl [] rfl)
set_option maxRecDepth 20000 in
theorem w_X_X10_pour__0_0 {p : Program} {l : Launch} {e : Env} {s : State} {m : MethodId} {args : Array Value} {below : List Frame} {meth : Method} {c : Code} {A : Nat → Prop} {Q : State → Prop} {D : va_G} {ca : Nat → ClassId} {a : Nat → Nat} {u : fw_S} {r : Int32}  (C : CX (WX ca a) D (tyv ca) p s m args c A prog_1_method_35_code 6 RX10) (hr : True → RX (WX ca a) D p l e rm_X_X10_pour__0 s m args below meth c A prog_1_method_35_code Q .ireturn [.int r] u) {t : fw_S} {x1 : Int32} {x2 : Int32} {x3 : Int32} {x4 : Int32} {H : Heap} {locs : List Loc} {ls : Array Slot} (hf : b_X_X10_pour__0_0  t x1 x2 x3 x4 = some (r, u)) (hP : va_P D classes (WX ca a t) H) (hS : va_S A s.heap H locs) (hl : lv_has ls 6 [(0, .ref (a 0)), (1, .int x1), (2, .int x2), (3, .int x3), (4, .int x4)]) : W p l e rm_X_X10_pour__0 s m args below meth c H locs 0 0 Q (F0 m 0 ls []) := by
  obtain ⟨hx, hb, hml, hown, hts, hN, hK, hD, hA⟩ := id C
  have hf : (fb_b (f_X_X4_isList__10 t x1) fun v_2 t_1 => (if v_2 = 0 then b_X_X10_pour__0_19 t_1 else b_X_X10_pour__0_11 t_1 x1 x2 x3 x4)) = some (r, u) := hf
  refine lv_aload_n hx hb dX10_pour_0 rfl (lv_at hl 0 rfl) ?_
  refine va_get (D := D) (ci := 10) (v := .ref (a 10)) (C := RX10) (T := TX10) (N := 13) hx hb hts inX10 hown hK hP 0 (heX_0 ca a t) rfl 7 (by decide) (hts _ kw_361) (fun _ h9 => h9) rfl dX10_pour_1 ?_
  refine lv_iload_n hx hb dX10_pour_4 rfl (lv_at hl 1 rfl) ?_
  obtain ⟨v_2, t_1, g_5, hf⟩ := fb_bs hf
  refine fw_V1 (As := [.int x1]) (rest := []) (n := 1) (q0 := 10) C (c_X_X4_isList__10 (l := l) (D := D) (ca := ca) (a := a) g_5) kw_1103 kw_1104 kw_100 kw_1106 kw_1105 hP hS hl (heX_10 ca a t) rfl rfl rfl (by decide) (by decide +kernel) ⟨Nat.le_of_ble_eq_true rfl, Nat.le_of_ble_eq_true rfl⟩ rfl rfl (Nat.le_of_ble_eq_true rfl) dX10_pour_5 (fun H locs hP hS => ?_)
  refine W.eq (g2 := F0 m 8 ls [.int v_2]) rfl ?_
  refine lv_if_eq (tgt := 19) hx hb dX10_pour_8 (by decide) (fun h_8 => ?_) (fun h_8 => ?_)
  · have hf := fb_t h_8 hf
    exact w_X_X10_pour__0_19 C hr hf hP hS (lv_sub hl [] rfl)
  · have hf := fb_f h_8 hf
    exact w_X_X10_pour__0_11 C hr hf hP hS (lv_sub hl [0, 1, 2, 3, 4] rfl)
set_option maxRecDepth 20000 in
theorem c_X_X10_pour__0 {l : Launch} {D : va_G} {ca : Nat → ClassId} {a : Nat → Nat} {t : fw_S} {x1 : Int32} {x2 : Int32} {x3 : Int32} {x4 : Int32} {u : fw_S} {r : Int32} (hf : f_X_X10_pour__0 t x1 x2 x3 x4 = some (r, u)) : MC (WX ca a) D (tyv ca) l yX10_pour (.code yX10_pour prog_1_method_35_code 6 (some .int) :: lw_gd) rm_X_X10_pour__0 [.ref (a 0), .int x1, .int x2, .int x3, .int x4] (some (.int r)) t u := by
  refine fw_met (okX ca a) (by decide +kernel) rfl rfl (Nat.le_of_ble_eq_true rfl) ?_
  intro p e s m args below meth c A Q ls C hr hk hP hS hl hQ
  exact w_X_X10_pour__0_0 C (fun _ => fw_ri C hr hk hQ) hf hP hS (lv_sub hl [0, 1, 2, 3, 4] rfl)
/-! ReactiveSheet.Cells.takeFrom(LReactiveSheet.Cells;)V ['x.keptCells', 'x.engine.now'] -/
abbrev rm_X_X0_takeFrom__12_4 : Room := { frames := 2, cells := 0, slots := 0, locals := 100 }
def b_X_X0_takeFrom__12_4_182  (t : fw_S)  : Option fw_S := fb_l (up_J t 11 (st_J t 4)) fun t_1 => (fb_l (up_J t_1 12 (st_J t_1 5)) fun t_2 => (some t_2))
def b_X_X0_takeFrom__12_4_176 (k122 : fw_S → Int32 → Option fw_S) (t : fw_S) (x2 : Int32) : Option fw_S := k122 t (x2 + 1)
def b_X_X0_takeFrom__12_4_156 (k122 : fw_S → Int32 → Option fw_S) (t : fw_S) (x2 : Int32) (x3 : Int32) : Option fw_S := fb_g (¬ (x2 * ((32 : Int32))) < 0 ∧ ¬ (x2 * ((32 : Int32))) < 0 ∧ ¬ x3 < 0 ∧ (x2 * ((32 : Int32))).toNatClampNeg + x3.toNatClampNeg ≤ 1024 ∧ (x2 * ((32 : Int32))).toNatClampNeg + x3.toNatClampNeg ≤ 1024) (fb_l (up_F t 38 (va_cpy (st_F t 13) (st_F t 38) (x2 * ((32 : Int32))).toNatClampNeg (x2 * ((32 : Int32))).toNatClampNeg x3.toNatClampNeg)) fun t_1 => (b_X_X0_takeFrom__12_4_176 k122 t_1 x2))
def b_X_X0_takeFrom__12_4_150 (k122 : fw_S → Int32 → Option fw_S) (t : fw_S) (x2 : Int32) (x3 : Int32) : Option fw_S := if ((32 : Int32)) < x3 then b_X_X0_takeFrom__12_4_176 k122 t x2 else b_X_X0_takeFrom__12_4_156 k122 t x2 x3
def b_X_X0_takeFrom__12_4_128 (k122 : fw_S → Int32 → Option fw_S) (t : fw_S) (x2 : Int32) : Option fw_S := fb_g (¬ (x2 < 0 ∨ 32 ≤ x2.toNatClampNeg)) (fb_g (¬ (x2 < 0 ∨ 32 ≤ x2.toNatClampNeg)) (fb_b (f_X_X0_readCount__4 t x2) fun v_2 t_1 => (if v_2 ≤ 0 then b_X_X0_takeFrom__12_4_176 k122 t_1 x2 else b_X_X0_takeFrom__12_4_150 k122 t_1 x2 v_2)))
def b_X_X0_takeFrom__12_4_122  : Nat → (fw_S → Int32 → Option fw_S)
  | 0 => fun _ _ => none
  | n + 1 => fun t x2 => if ((32 : Int32)) ≤ x2 then b_X_X0_takeFrom__12_4_182 t else b_X_X0_takeFrom__12_4_128 (b_X_X0_takeFrom__12_4_122 n) t x2
def b_X_X0_takeFrom__12_4_0  (t : fw_S)  : Option fw_S := fb_g (¬ ((0 : Int32)) < 0 ∧ ¬ ((0 : Int32)) < 0 ∧ ¬ ((32 : Int32)) < 0 ∧ ((0 : Int32)).toNatClampNeg + ((32 : Int32)).toNatClampNeg ≤ 32 ∧ ((0 : Int32)).toNatClampNeg + ((32 : Int32)).toNatClampNeg ≤ 32) (fb_l (up_F t 33 (va_cpy (st_F t 8) (st_F t 33) ((0 : Int32)).toNatClampNeg ((0 : Int32)).toNatClampNeg ((32 : Int32)).toNatClampNeg)) fun t_1 => (fb_g (¬ ((0 : Int32)) < 0 ∧ ¬ ((0 : Int32)) < 0 ∧ ¬ ((32 : Int32)) < 0 ∧ ((0 : Int32)).toNatClampNeg + ((32 : Int32)).toNatClampNeg ≤ 32 ∧ ((0 : Int32)).toNatClampNeg + ((32 : Int32)).toNatClampNeg ≤ 32) (fb_l (up_G t_1 11 (va_cpy (st_G t_1 0) (st_G t_1 11) ((0 : Int32)).toNatClampNeg ((0 : Int32)).toNatClampNeg ((32 : Int32)).toNatClampNeg)) fun t_2 => (fb_g (¬ ((0 : Int32)) < 0 ∧ ¬ ((0 : Int32)) < 0 ∧ ¬ ((32 : Int32)) < 0 ∧ ((0 : Int32)).toNatClampNeg + ((32 : Int32)).toNatClampNeg ≤ 32 ∧ ((0 : Int32)).toNatClampNeg + ((32 : Int32)).toNatClampNeg ≤ 32) (fb_l (up_F t_2 34 (va_cpy (st_F t_2 9) (st_F t_2 34) ((0 : Int32)).toNatClampNeg ((0 : Int32)).toNatClampNeg ((32 : Int32)).toNatClampNeg)) fun t_3 => (fb_g (¬ ((0 : Int32)) < 0 ∧ ¬ ((0 : Int32)) < 0 ∧ ¬ ((32 : Int32)) < 0 ∧ ((0 : Int32)).toNatClampNeg + ((32 : Int32)).toNatClampNeg ≤ 32 ∧ ((0 : Int32)).toNatClampNeg + ((32 : Int32)).toNatClampNeg ≤ 32) (fb_l (up_F t_3 35 (va_cpy (st_F t_3 10) (st_F t_3 35) ((0 : Int32)).toNatClampNeg ((0 : Int32)).toNatClampNeg ((32 : Int32)).toNatClampNeg)) fun t_4 => (fb_g (¬ ((0 : Int32)) < 0 ∧ ¬ ((0 : Int32)) < 0 ∧ ¬ ((32 : Int32)) < 0 ∧ ((0 : Int32)).toNatClampNeg + ((32 : Int32)).toNatClampNeg ≤ 32 ∧ ((0 : Int32)).toNatClampNeg + ((32 : Int32)).toNatClampNeg ≤ 32) (fb_l (up_F t_4 36 (va_cpy (st_F t_4 11) (st_F t_4 36) ((0 : Int32)).toNatClampNeg ((0 : Int32)).toNatClampNeg ((32 : Int32)).toNatClampNeg)) fun t_5 => (fb_g (¬ ((0 : Int32)) < 0 ∧ ¬ ((0 : Int32)) < 0 ∧ ¬ ((32 : Int32)) < 0 ∧ ((0 : Int32)).toNatClampNeg + ((32 : Int32)).toNatClampNeg ≤ 32 ∧ ((0 : Int32)).toNatClampNeg + ((32 : Int32)).toNatClampNeg ≤ 32) (fb_l (up_F t_5 37 (va_cpy (st_F t_5 12) (st_F t_5 37) ((0 : Int32)).toNatClampNeg ((0 : Int32)).toNatClampNeg ((32 : Int32)).toNatClampNeg)) fun t_6 => (fb_g (¬ ((0 : Int32)) < 0 ∧ ¬ ((0 : Int32)) < 0 ∧ ¬ ((32 : Int32)) < 0 ∧ ((0 : Int32)).toNatClampNeg + ((32 : Int32)).toNatClampNeg ≤ 32 ∧ ((0 : Int32)).toNatClampNeg + ((32 : Int32)).toNatClampNeg ≤ 32) (fb_l (up_F t_6 39 (va_cpy (st_F t_6 14) (st_F t_6 39) ((0 : Int32)).toNatClampNeg ((0 : Int32)).toNatClampNeg ((32 : Int32)).toNatClampNeg)) fun t_7 => (fb_g (¬ ((0 : Int32)) < 0 ∧ ¬ ((0 : Int32)) < 0 ∧ ¬ ((32 : Int32)) < 0 ∧ ((0 : Int32)).toNatClampNeg + ((32 : Int32)).toNatClampNeg ≤ 32 ∧ ((0 : Int32)).toNatClampNeg + ((32 : Int32)).toNatClampNeg ≤ 32) (fb_l (up_G t_7 12 (va_cpy (st_G t_7 1) (st_G t_7 12) ((0 : Int32)).toNatClampNeg ((0 : Int32)).toNatClampNeg ((32 : Int32)).toNatClampNeg)) fun t_8 => (b_X_X0_takeFrom__12_4_122 3000 t_8 ((0 : Int32))))))))))))))))))
def f_X_X0_takeFrom__12_4 (t : fw_S)  : Option fw_S := b_X_X0_takeFrom__12_4_0 t 
set_option maxRecDepth 20000 in
theorem w_X_X0_takeFrom__12_4_182 {p : Program} {l : Launch} {e : Env} {s : State} {m : MethodId} {args : Array Value} {below : List Frame} {meth : Method} {c : Code} {A : Nat → Prop} {Q : State → Prop} {D : va_G} {ca : Nat → ClassId} {a : Nat → Nat} {u : fw_S}  (C : CX (WX ca a) D (tyv ca) p s m args c A prog_2_method_2_code 4 RX0) (hr : True → RX (WX ca a) D p l e rm_X_X0_takeFrom__12_4 s m args below meth c A prog_2_method_2_code Q .return_ [] u) {t : fw_S}  {H : Heap} {locs : List Loc} {ls : Array Slot} (hf : b_X_X0_takeFrom__12_4_182  t  = some u) (hP : va_P D classes (WX ca a t) H) (hS : va_S A s.heap H locs) (hl : lv_has ls 4 [(0, .ref (a 12)), (1, .ref (a 4))]) : W p l e rm_X_X0_takeFrom__12_4 s m args below meth c H locs 0 0 Q (F0 m 182 ls []) := by
  obtain ⟨hx, hb, hml, hown, hts, hN, hK, hD, hA⟩ := id C
  have hf : (fb_l (up_J t 11 (st_J t 4)) fun t_1 => (fb_l (up_J t_1 12 (st_J t_1 5)) fun t_2 => (some t_2))) = some u := hf
  refine lv_aload_n hx hb dX0_takeFrom_182 rfl (lv_at hl 0 rfl) ?_
  refine lv_aload_n hx hb dX0_takeFrom_183 rfl (lv_at hl 1 rfl) ?_
  refine va_get (D := D) (ci := 0) (v := .long (st_J t 4)) (C := RX0) (T := TX0) (N := 12) hx hb hts inX0 hown hK hP 4 (heX_4 ca a t) rfl 10 (by decide) (hts _ kw_197) (fun _ h9 => h9) rfl dX0_takeFrom_184 ?_
  refine va_put (D := D) (ci := 0) (v := .long (st_J t 4)) (ty := .long) (C := RX0) (T := TX0) (N := 12) hx hb hts inX0 tyX0 tyX0_ok nmX0 hown hK hP (hD t) hS 12 (heX_12 ca a t) rfl 10 (by decide) (hts _ kw_197) (fun _ h9 => h9) rfl (by decide +kernel) rfl rfl (Nat.le_of_ble_eq_true rfl) dX0_takeFrom_187 (fun H locs hP _ hS => ?_)
  rw [suX_12_10] at hP
  obtain ⟨t_1, e_187, hf⟩ := fb_ls hf
  rw [← e_187] at hP
  refine lv_aload_n hx hb dX0_takeFrom_190 rfl (lv_at hl 0 rfl) ?_
  refine lv_aload_n hx hb dX0_takeFrom_191 rfl (lv_at hl 1 rfl) ?_
  refine va_get (D := D) (ci := 0) (v := .long (st_J t_1 5)) (C := RX0) (T := TX0) (N := 12) hx hb hts inX0 hown hK hP 4 (heX_4 ca a t_1) rfl 11 (by decide) (hts _ kw_198) (fun _ h9 => h9) rfl dX0_takeFrom_192 ?_
  refine va_put (D := D) (ci := 0) (v := .long (st_J t_1 5)) (ty := .long) (C := RX0) (T := TX0) (N := 12) hx hb hts inX0 tyX0 tyX0_ok nmX0 hown hK hP (hD t_1) hS 12 (heX_12 ca a t_1) rfl 11 (by decide) (hts _ kw_198) (fun _ h9 => h9) rfl (by decide +kernel) rfl rfl (Nat.le_of_ble_eq_true rfl) dX0_takeFrom_195 (fun H locs hP _ hS => ?_)
  rw [suX_12_11] at hP
  obtain ⟨t_2, e_195, hf⟩ := fb_ls hf
  rw [← e_195] at hP
  have e_198 := fb_ev hf
  subst e_198
  exact hr trivial _ _ _ _ hP hS dX0_takeFrom_198
set_option maxRecDepth 20000 in
theorem w_X_X0_takeFrom__12_4_176 {p : Program} {l : Launch} {e : Env} {s : State} {m : MethodId} {args : Array Value} {below : List Frame} {meth : Method} {c : Code} {A : Nat → Prop} {Q : State → Prop} {D : va_G} {ca : Nat → ClassId} {a : Nat → Nat} {u : fw_S} {k122 : fw_S → Int32 → Option fw_S} (C : CX (WX ca a) D (tyv ca) p s m args c A prog_2_method_2_code 4 RX0) (hr : True → RX (WX ca a) D p l e rm_X_X0_takeFrom__12_4 s m args below meth c A prog_2_method_2_code Q .return_ [] u) (hk122 : ∀ (t : fw_S) (x2 : Int32) (H : Heap) (locs : List Loc) (ls : Array Slot), k122 t x2 = some u → va_P D classes (WX ca a t) H → va_S A s.heap H locs → lv_has ls 4 [(0, .ref (a 12)), (1, .ref (a 4)), (2, .int x2)] → W p l e rm_X_X0_takeFrom__12_4 s m args below meth c H locs 0 0 Q (F0 m 122 ls [])) {t : fw_S} {x2 : Int32} {H : Heap} {locs : List Loc} {ls : Array Slot} (hf : b_X_X0_takeFrom__12_4_176 k122 t x2 = some u) (hP : va_P D classes (WX ca a t) H) (hS : va_S A s.heap H locs) (hl : lv_has ls 4 [(0, .ref (a 12)), (1, .ref (a 4)), (2, .int x2)]) : W p l e rm_X_X0_takeFrom__12_4 s m args below meth c H locs 0 0 Q (F0 m 176 ls []) := by
  obtain ⟨hx, hb, hml, hown, hts, hN, hK, hD, hA⟩ := id C
  have hf : (k122 t (x2 + 1)) = some u := hf
  refine lv_iinc (v := x2 + 1) (lv' := [(2, .int (x2 + 1)), (0, .ref (a 12)), (1, .ref (a 4))]) hx hb dX0_takeFrom_176 hl (k := 2) rfl rfl (by decide) rfl (fun ls hl => ?_)
  refine lv_goto (tgt := 122) hx hb dX0_takeFrom_179 (by decide) ?_
  exact hk122 t (x2 + 1) _ _ _ hf hP hS (lv_sub hl [1, 2, 0] rfl)
set_option maxRecDepth 20000 in
theorem w_X_X0_takeFrom__12_4_156 {p : Program} {l : Launch} {e : Env} {s : State} {m : MethodId} {args : Array Value} {below : List Frame} {meth : Method} {c : Code} {A : Nat → Prop} {Q : State → Prop} {D : va_G} {ca : Nat → ClassId} {a : Nat → Nat} {u : fw_S} {k122 : fw_S → Int32 → Option fw_S} (C : CX (WX ca a) D (tyv ca) p s m args c A prog_2_method_2_code 4 RX0) (hr : True → RX (WX ca a) D p l e rm_X_X0_takeFrom__12_4 s m args below meth c A prog_2_method_2_code Q .return_ [] u) (hk122 : ∀ (t : fw_S) (x2 : Int32) (H : Heap) (locs : List Loc) (ls : Array Slot), k122 t x2 = some u → va_P D classes (WX ca a t) H → va_S A s.heap H locs → lv_has ls 4 [(0, .ref (a 12)), (1, .ref (a 4)), (2, .int x2)] → W p l e rm_X_X0_takeFrom__12_4 s m args below meth c H locs 0 0 Q (F0 m 122 ls [])) {t : fw_S} {x2 : Int32} {x3 : Int32} {H : Heap} {locs : List Loc} {ls : Array Slot} (hf : b_X_X0_takeFrom__12_4_156 k122 t x2 x3 = some u) (hP : va_P D classes (WX ca a t) H) (hS : va_S A s.heap H locs) (hl : lv_has ls 4 [(0, .ref (a 12)), (1, .ref (a 4)), (2, .int x2), (3, .int x3)]) : W p l e rm_X_X0_takeFrom__12_4 s m args below meth c H locs 0 0 Q (F0 m 156 ls []) := by
  obtain ⟨hx, hb, hml, hown, hts, hN, hK, hD, hA⟩ := id C
  have hf : (fb_g (¬ (x2 * ((32 : Int32))) < 0 ∧ ¬ (x2 * ((32 : Int32))) < 0 ∧ ¬ x3 < 0 ∧ (x2 * ((32 : Int32))).toNatClampNeg + x3.toNatClampNeg ≤ 1024 ∧ (x2 * ((32 : Int32))).toNatClampNeg + x3.toNatClampNeg ≤ 1024) (fb_l (up_F t 38 (va_cpy (st_F t 13) (st_F t 38) (x2 * ((32 : Int32))).toNatClampNeg (x2 * ((32 : Int32))).toNatClampNeg x3.toNatClampNeg)) fun t_1 => (b_X_X0_takeFrom__12_4_176 k122 t_1 x2))) = some u := hf
  refine lv_aload_n hx hb dX0_takeFrom_156 rfl (lv_at hl 1 rfl) ?_
  refine va_get (D := D) (ci := 0) (v := .ref (a 29)) (C := RX0) (T := TX0) (N := 12) hx hb hts inX0 hown hK hP 4 (heX_4 ca a t) rfl 7 (by decide) (hts _ kw_194) (fun _ h9 => h9) rfl dX0_takeFrom_157 ?_
  refine lv_iload_n hx hb dX0_takeFrom_160 rfl (lv_at hl 2 rfl) ?_
  refine lv_bipush (v := 32) hx hb dX0_takeFrom_161 (by decide) ?_
  refine lv_imul hx hb dX0_takeFrom_163 ?_
  refine lv_aload_n hx hb dX0_takeFrom_164 rfl (lv_at hl 0 rfl) ?_
  refine va_get (D := D) (ci := 0) (v := .ref (a 69)) (C := RX0) (T := TX0) (N := 12) hx hb hts inX0 hown hK hP 12 (heX_12 ca a t) rfl 7 (by decide) (hts _ kw_194) (fun _ h9 => h9) rfl dX0_takeFrom_165 ?_
  refine lv_iload_n hx hb dX0_takeFrom_168 rfl (lv_at hl 2 rfl) ?_
  refine lv_bipush (v := 32) hx hb dX0_takeFrom_169 (by decide) ?_
  refine lv_imul hx hb dX0_takeFrom_171 ?_
  refine lv_iload_n hx hb dX0_takeFrom_172 rfl (lv_at hl 3 rfl) ?_
  obtain ⟨⟨h1_173, h2_173, h3_173, h4_173, h5_173⟩, hf⟩ := fb_if hf
  refine va_copyi hx hb (hml.trans hl.1.symm) hown (hts _ kw_422) (hts _ kw_424) (hts _ kw_423) (hts _ kw_103) hK hP (hD t) hS 29 69 0 0 (haX_29 ca a t) (haX_69 ca a t) rfl rfl rfl h1_173 h2_173 h3_173 h4_173 h5_173 (fun _ _ => rfl) (Nat.le_of_ble_eq_true rfl) (Nat.le_of_ble_eq_true rfl) dX0_takeFrom_173 (fun H locs hP _ hS => ?_)
  rw [saX_69] at hP
  obtain ⟨t_1, e_173, hf⟩ := fb_ls hf
  rw [← e_173] at hP
  exact w_X_X0_takeFrom__12_4_176 C hr hk122 hf hP hS (lv_sub hl [0, 1, 2] rfl)
set_option maxRecDepth 20000 in
theorem w_X_X0_takeFrom__12_4_150 {p : Program} {l : Launch} {e : Env} {s : State} {m : MethodId} {args : Array Value} {below : List Frame} {meth : Method} {c : Code} {A : Nat → Prop} {Q : State → Prop} {D : va_G} {ca : Nat → ClassId} {a : Nat → Nat} {u : fw_S} {k122 : fw_S → Int32 → Option fw_S} (C : CX (WX ca a) D (tyv ca) p s m args c A prog_2_method_2_code 4 RX0) (hr : True → RX (WX ca a) D p l e rm_X_X0_takeFrom__12_4 s m args below meth c A prog_2_method_2_code Q .return_ [] u) (hk122 : ∀ (t : fw_S) (x2 : Int32) (H : Heap) (locs : List Loc) (ls : Array Slot), k122 t x2 = some u → va_P D classes (WX ca a t) H → va_S A s.heap H locs → lv_has ls 4 [(0, .ref (a 12)), (1, .ref (a 4)), (2, .int x2)] → W p l e rm_X_X0_takeFrom__12_4 s m args below meth c H locs 0 0 Q (F0 m 122 ls [])) {t : fw_S} {x2 : Int32} {x3 : Int32} {H : Heap} {locs : List Loc} {ls : Array Slot} (hf : b_X_X0_takeFrom__12_4_150 k122 t x2 x3 = some u) (hP : va_P D classes (WX ca a t) H) (hS : va_S A s.heap H locs) (hl : lv_has ls 4 [(0, .ref (a 12)), (1, .ref (a 4)), (2, .int x2), (3, .int x3)]) : W p l e rm_X_X0_takeFrom__12_4 s m args below meth c H locs 0 0 Q (F0 m 150 ls []) := by
  obtain ⟨hx, hb, hml, hown, hts, hN, hK, hD, hA⟩ := id C
  have hf : (if ((32 : Int32)) < x3 then b_X_X0_takeFrom__12_4_176 k122 t x2 else b_X_X0_takeFrom__12_4_156 k122 t x2 x3) = some u := hf
  refine lv_iload_n hx hb dX0_takeFrom_150 rfl (lv_at hl 3 rfl) ?_
  refine lv_bipush (v := 32) hx hb dX0_takeFrom_151 (by decide) ?_
  refine lv_icmp_gt (tgt := 176) hx hb dX0_takeFrom_153 (by decide) (fun h_153 => ?_) (fun h_153 => ?_)
  · have hf := fb_t h_153 hf
    exact w_X_X0_takeFrom__12_4_176 C hr hk122 hf hP hS (lv_sub hl [0, 1, 2] rfl)
  · have hf := fb_f h_153 hf
    exact w_X_X0_takeFrom__12_4_156 C hr hk122 hf hP hS (lv_sub hl [0, 1, 2, 3] rfl)
set_option maxRecDepth 20000 in
theorem w_X_X0_takeFrom__12_4_128 {p : Program} {l : Launch} {e : Env} {s : State} {m : MethodId} {args : Array Value} {below : List Frame} {meth : Method} {c : Code} {A : Nat → Prop} {Q : State → Prop} {D : va_G} {ca : Nat → ClassId} {a : Nat → Nat} {u : fw_S} {k122 : fw_S → Int32 → Option fw_S} (C : CX (WX ca a) D (tyv ca) p s m args c A prog_2_method_2_code 4 RX0) (hr : True → RX (WX ca a) D p l e rm_X_X0_takeFrom__12_4 s m args below meth c A prog_2_method_2_code Q .return_ [] u) (hk122 : ∀ (t : fw_S) (x2 : Int32) (H : Heap) (locs : List Loc) (ls : Array Slot), k122 t x2 = some u → va_P D classes (WX ca a t) H → va_S A s.heap H locs → lv_has ls 4 [(0, .ref (a 12)), (1, .ref (a 4)), (2, .int x2)] → W p l e rm_X_X0_takeFrom__12_4 s m args below meth c H locs 0 0 Q (F0 m 122 ls [])) {t : fw_S} {x2 : Int32} {H : Heap} {locs : List Loc} {ls : Array Slot} (hf : b_X_X0_takeFrom__12_4_128 k122 t x2 = some u) (hP : va_P D classes (WX ca a t) H) (hS : va_S A s.heap H locs) (hl : lv_has ls 4 [(0, .ref (a 12)), (1, .ref (a 4)), (2, .int x2)]) : W p l e rm_X_X0_takeFrom__12_4 s m args below meth c H locs 0 0 Q (F0 m 128 ls []) := by
  obtain ⟨hx, hb, hml, hown, hts, hN, hK, hD, hA⟩ := id C
  have hf : (fb_g (¬ (x2 < 0 ∨ 32 ≤ x2.toNatClampNeg)) (fb_g (¬ (x2 < 0 ∨ 32 ≤ x2.toNatClampNeg)) (fb_b (f_X_X0_readCount__4 t x2) fun v_2 t_1 => (if v_2 ≤ 0 then b_X_X0_takeFrom__12_4_176 k122 t_1 x2 else b_X_X0_takeFrom__12_4_150 k122 t_1 x2 v_2)))) = some u := hf
  refine lv_aload_n hx hb dX0_takeFrom_128 rfl (lv_at hl 0 rfl) ?_
  refine va_get (D := D) (ci := 0) (v := .ref (a 65)) (C := RX0) (T := TX0) (N := 12) hx hb hts inX0 hown hK hP 12 (heX_12 ca a t) rfl 3 (by decide) (hts _ kw_190) (fun _ h9 => h9) rfl dX0_takeFrom_129 ?_
  refine lv_iload_n hx hb dX0_takeFrom_132 rfl (lv_at hl 2 rfl) ?_
  refine lv_aload_n hx hb dX0_takeFrom_133 rfl (lv_at hl 1 rfl) ?_
  refine va_get (D := D) (ci := 0) (v := .ref (a 25)) (C := RX0) (T := TX0) (N := 12) hx hb hts inX0 hown hK hP 4 (heX_4 ca a t) rfl 3 (by decide) (hts _ kw_190) (fun _ h9 => h9) rfl dX0_takeFrom_134 ?_
  refine lv_iload_n hx hb dX0_takeFrom_137 rfl (lv_at hl 2 rfl) ?_
  obtain ⟨h_138, hf⟩ := fb_if hf
  refine va_aldq hx hb hK hP 25 3 (haX_25 ca a t) rfl h_138 dX0_takeFrom_138 ?_
  obtain ⟨h_139, hf⟩ := fb_if hf
  refine va_astqN (C := "ReactiveSheet$Formula") hx hb hK hP (hD t) hS 65 3 (haX_65 ca a t) rfl h_139 dX0_takeFrom_139 (fun H locs hP _ hS => ?_)
  rw [fb_nq, saX_65] at hP
  refine lv_aload_n hx hb dX0_takeFrom_140 rfl (lv_at hl 1 rfl) ?_
  refine lv_iload_n hx hb dX0_takeFrom_141 rfl (lv_at hl 2 rfl) ?_
  obtain ⟨v_2, t_1, g_142, hf⟩ := fb_bs hf
  refine fw_V1 (As := [.int x2]) (rest := []) (n := 1) (q0 := 4) C (c_X_X0_readCount__4 (l := l) (D := D) (ca := ca) (a := a) g_142) kw_425 kw_426 kw_96 kw_428 kw_427 hP hS hl (heX_4 ca a t) rfl rfl rfl (by decide) (by decide +kernel) ⟨Nat.le_of_ble_eq_true rfl, Nat.le_of_ble_eq_true rfl⟩ rfl rfl (Nat.le_of_ble_eq_true rfl) dX0_takeFrom_142 (fun H locs hP hS => ?_)
  refine W.eq (g2 := F0 m 145 ls [.int v_2]) rfl ?_
  refine lv_istore_n (lv' := [(3, .int v_2), (0, .ref (a 12)), (1, .ref (a 4)), (2, .int x2)]) hx hb dX0_takeFrom_145 rfl hl (by decide) rfl (fun ls hl => ?_)
  refine lv_iload_n hx hb dX0_takeFrom_146 rfl (lv_at hl 0 rfl) ?_
  refine lv_if_le (tgt := 176) hx hb dX0_takeFrom_147 (by decide) (fun h_147 => ?_) (fun h_147 => ?_)
  · have hf := fb_t h_147 hf
    exact w_X_X0_takeFrom__12_4_176 C hr hk122 hf hP hS (lv_sub hl [1, 2, 3] rfl)
  · have hf := fb_f h_147 hf
    exact w_X_X0_takeFrom__12_4_150 C hr hk122 hf hP hS (lv_sub hl [1, 2, 3, 0] rfl)
set_option maxRecDepth 20000 in
theorem w_X_X0_takeFrom__12_4_122 {p : Program} {l : Launch} {e : Env} {s : State} {m : MethodId} {args : Array Value} {below : List Frame} {meth : Method} {c : Code} {A : Nat → Prop} {Q : State → Prop} {D : va_G} {ca : Nat → ClassId} {a : Nat → Nat} {u : fw_S}  (C : CX (WX ca a) D (tyv ca) p s m args c A prog_2_method_2_code 4 RX0) (hr : True → RX (WX ca a) D p l e rm_X_X0_takeFrom__12_4 s m args below meth c A prog_2_method_2_code Q .return_ [] u) : ∀ (n : Nat) (t : fw_S) (x2 : Int32) (H : Heap) (locs : List Loc) (ls : Array Slot), b_X_X0_takeFrom__12_4_122  n t x2 = some u → va_P D classes (WX ca a t) H → va_S A s.heap H locs → lv_has ls 4 [(0, .ref (a 12)), (1, .ref (a 4)), (2, .int x2)] → W p l e rm_X_X0_takeFrom__12_4 s m args below meth c H locs 0 0 Q (F0 m 122 ls []) := by
  obtain ⟨hx, hb, hml, hown, hts, hN, hK, hD, hA⟩ := id C
  intro n
  induction n with
  | zero => intro t x2 H locs ls hf; cases hf
  | succ n hk122 =>
    intro t x2 H locs ls hf hP hS hl
    have hf : (if ((32 : Int32)) ≤ x2 then b_X_X0_takeFrom__12_4_182 t else b_X_X0_takeFrom__12_4_128 (b_X_X0_takeFrom__12_4_122 n) t x2) = some u := hf
    refine lv_iload_n hx hb dX0_takeFrom_122 rfl (lv_at hl 2 rfl) ?_
    refine lv_bipush (v := 32) hx hb dX0_takeFrom_123 (by decide) ?_
    refine lv_icmp_ge (tgt := 182) hx hb dX0_takeFrom_125 (by decide) (fun h_125 => ?_) (fun h_125 => ?_)
    · have hf := fb_t h_125 hf
      exact w_X_X0_takeFrom__12_4_182 C hr hf hP hS (lv_sub hl [0, 1] rfl)
    · have hf := fb_f h_125 hf
      exact w_X_X0_takeFrom__12_4_128 C hr hk122 hf hP hS (lv_sub hl [0, 1, 2] rfl)
set_option maxRecDepth 20000 in
theorem w_X_X0_takeFrom__12_4_0 {p : Program} {l : Launch} {e : Env} {s : State} {m : MethodId} {args : Array Value} {below : List Frame} {meth : Method} {c : Code} {A : Nat → Prop} {Q : State → Prop} {D : va_G} {ca : Nat → ClassId} {a : Nat → Nat} {u : fw_S}  (C : CX (WX ca a) D (tyv ca) p s m args c A prog_2_method_2_code 4 RX0) (hr : True → RX (WX ca a) D p l e rm_X_X0_takeFrom__12_4 s m args below meth c A prog_2_method_2_code Q .return_ [] u) {t : fw_S}  {H : Heap} {locs : List Loc} {ls : Array Slot} (hf : b_X_X0_takeFrom__12_4_0  t  = some u) (hP : va_P D classes (WX ca a t) H) (hS : va_S A s.heap H locs) (hl : lv_has ls 4 [(0, .ref (a 12)), (1, .ref (a 4))]) : W p l e rm_X_X0_takeFrom__12_4 s m args below meth c H locs 0 0 Q (F0 m 0 ls []) := by
  obtain ⟨hx, hb, hml, hown, hts, hN, hK, hD, hA⟩ := id C
  have hf : (fb_g (¬ ((0 : Int32)) < 0 ∧ ¬ ((0 : Int32)) < 0 ∧ ¬ ((32 : Int32)) < 0 ∧ ((0 : Int32)).toNatClampNeg + ((32 : Int32)).toNatClampNeg ≤ 32 ∧ ((0 : Int32)).toNatClampNeg + ((32 : Int32)).toNatClampNeg ≤ 32) (fb_l (up_F t 33 (va_cpy (st_F t 8) (st_F t 33) ((0 : Int32)).toNatClampNeg ((0 : Int32)).toNatClampNeg ((32 : Int32)).toNatClampNeg)) fun t_1 => (fb_g (¬ ((0 : Int32)) < 0 ∧ ¬ ((0 : Int32)) < 0 ∧ ¬ ((32 : Int32)) < 0 ∧ ((0 : Int32)).toNatClampNeg + ((32 : Int32)).toNatClampNeg ≤ 32 ∧ ((0 : Int32)).toNatClampNeg + ((32 : Int32)).toNatClampNeg ≤ 32) (fb_l (up_G t_1 11 (va_cpy (st_G t_1 0) (st_G t_1 11) ((0 : Int32)).toNatClampNeg ((0 : Int32)).toNatClampNeg ((32 : Int32)).toNatClampNeg)) fun t_2 => (fb_g (¬ ((0 : Int32)) < 0 ∧ ¬ ((0 : Int32)) < 0 ∧ ¬ ((32 : Int32)) < 0 ∧ ((0 : Int32)).toNatClampNeg + ((32 : Int32)).toNatClampNeg ≤ 32 ∧ ((0 : Int32)).toNatClampNeg + ((32 : Int32)).toNatClampNeg ≤ 32) (fb_l (up_F t_2 34 (va_cpy (st_F t_2 9) (st_F t_2 34) ((0 : Int32)).toNatClampNeg ((0 : Int32)).toNatClampNeg ((32 : Int32)).toNatClampNeg)) fun t_3 => (fb_g (¬ ((0 : Int32)) < 0 ∧ ¬ ((0 : Int32)) < 0 ∧ ¬ ((32 : Int32)) < 0 ∧ ((0 : Int32)).toNatClampNeg + ((32 : Int32)).toNatClampNeg ≤ 32 ∧ ((0 : Int32)).toNatClampNeg + ((32 : Int32)).toNatClampNeg ≤ 32) (fb_l (up_F t_3 35 (va_cpy (st_F t_3 10) (st_F t_3 35) ((0 : Int32)).toNatClampNeg ((0 : Int32)).toNatClampNeg ((32 : Int32)).toNatClampNeg)) fun t_4 => (fb_g (¬ ((0 : Int32)) < 0 ∧ ¬ ((0 : Int32)) < 0 ∧ ¬ ((32 : Int32)) < 0 ∧ ((0 : Int32)).toNatClampNeg + ((32 : Int32)).toNatClampNeg ≤ 32 ∧ ((0 : Int32)).toNatClampNeg + ((32 : Int32)).toNatClampNeg ≤ 32) (fb_l (up_F t_4 36 (va_cpy (st_F t_4 11) (st_F t_4 36) ((0 : Int32)).toNatClampNeg ((0 : Int32)).toNatClampNeg ((32 : Int32)).toNatClampNeg)) fun t_5 => (fb_g (¬ ((0 : Int32)) < 0 ∧ ¬ ((0 : Int32)) < 0 ∧ ¬ ((32 : Int32)) < 0 ∧ ((0 : Int32)).toNatClampNeg + ((32 : Int32)).toNatClampNeg ≤ 32 ∧ ((0 : Int32)).toNatClampNeg + ((32 : Int32)).toNatClampNeg ≤ 32) (fb_l (up_F t_5 37 (va_cpy (st_F t_5 12) (st_F t_5 37) ((0 : Int32)).toNatClampNeg ((0 : Int32)).toNatClampNeg ((32 : Int32)).toNatClampNeg)) fun t_6 => (fb_g (¬ ((0 : Int32)) < 0 ∧ ¬ ((0 : Int32)) < 0 ∧ ¬ ((32 : Int32)) < 0 ∧ ((0 : Int32)).toNatClampNeg + ((32 : Int32)).toNatClampNeg ≤ 32 ∧ ((0 : Int32)).toNatClampNeg + ((32 : Int32)).toNatClampNeg ≤ 32) (fb_l (up_F t_6 39 (va_cpy (st_F t_6 14) (st_F t_6 39) ((0 : Int32)).toNatClampNeg ((0 : Int32)).toNatClampNeg ((32 : Int32)).toNatClampNeg)) fun t_7 => (fb_g (¬ ((0 : Int32)) < 0 ∧ ¬ ((0 : Int32)) < 0 ∧ ¬ ((32 : Int32)) < 0 ∧ ((0 : Int32)).toNatClampNeg + ((32 : Int32)).toNatClampNeg ≤ 32 ∧ ((0 : Int32)).toNatClampNeg + ((32 : Int32)).toNatClampNeg ≤ 32) (fb_l (up_G t_7 12 (va_cpy (st_G t_7 1) (st_G t_7 12) ((0 : Int32)).toNatClampNeg ((0 : Int32)).toNatClampNeg ((32 : Int32)).toNatClampNeg)) fun t_8 => (b_X_X0_takeFrom__12_4_122 3000 t_8 ((0 : Int32))))))))))))))))))) = some u := hf
  refine lv_aload_n hx hb dX0_takeFrom_0 rfl (lv_at hl 1 rfl) ?_
  refine va_get (D := D) (ci := 0) (v := .ref (a 22)) (C := RX0) (T := TX0) (N := 12) hx hb hts inX0 hown hK hP 4 (heX_4 ca a t) rfl 0 (by decide) (hts _ kw_187) (fun _ h9 => h9) rfl dX0_takeFrom_1 ?_
  refine lv_iconst (v := 0) hx hb dX0_takeFrom_4 (by decide) ?_
  refine lv_aload_n hx hb dX0_takeFrom_5 rfl (lv_at hl 0 rfl) ?_
  refine va_get (D := D) (ci := 0) (v := .ref (a 62)) (C := RX0) (T := TX0) (N := 12) hx hb hts inX0 hown hK hP 12 (heX_12 ca a t) rfl 0 (by decide) (hts _ kw_187) (fun _ h9 => h9) rfl dX0_takeFrom_6 ?_
  refine lv_iconst (v := 0) hx hb dX0_takeFrom_9 (by decide) ?_
  refine lv_bipush (v := 32) hx hb dX0_takeFrom_10 (by decide) ?_
  obtain ⟨⟨h1_12, h2_12, h3_12, h4_12, h5_12⟩, hf⟩ := fb_if hf
  refine va_copyi hx hb (hml.trans hl.1.symm) hown (hts _ kw_422) (hts _ kw_424) (hts _ kw_423) (hts _ kw_103) hK hP (hD t) hS 22 62 0 0 (haX_22 ca a t) (haX_62 ca a t) rfl rfl rfl h1_12 h2_12 h3_12 h4_12 h5_12 (fun _ _ => rfl) (Nat.le_of_ble_eq_true rfl) (Nat.le_of_ble_eq_true rfl) dX0_takeFrom_12 (fun H locs hP _ hS => ?_)
  rw [saX_62] at hP
  obtain ⟨t_1, e_12, hf⟩ := fb_ls hf
  rw [← e_12] at hP
  refine lv_aload_n hx hb dX0_takeFrom_15 rfl (lv_at hl 1 rfl) ?_
  refine va_get (D := D) (ci := 0) (v := .ref (a 23)) (C := RX0) (T := TX0) (N := 12) hx hb hts inX0 hown hK hP 4 (heX_4 ca a t_1) rfl 1 (by decide) (hts _ kw_188) (fun _ h9 => h9) rfl dX0_takeFrom_16 ?_
  refine lv_iconst (v := 0) hx hb dX0_takeFrom_19 (by decide) ?_
  refine lv_aload_n hx hb dX0_takeFrom_20 rfl (lv_at hl 0 rfl) ?_
  refine va_get (D := D) (ci := 0) (v := .ref (a 63)) (C := RX0) (T := TX0) (N := 12) hx hb hts inX0 hown hK hP 12 (heX_12 ca a t_1) rfl 1 (by decide) (hts _ kw_188) (fun _ h9 => h9) rfl dX0_takeFrom_21 ?_
  refine lv_iconst (v := 0) hx hb dX0_takeFrom_24 (by decide) ?_
  refine lv_bipush (v := 32) hx hb dX0_takeFrom_25 (by decide) ?_
  obtain ⟨⟨h1_27, h2_27, h3_27, h4_27, h5_27⟩, hf⟩ := fb_if hf
  refine va_copyl hx hb (hml.trans hl.1.symm) hown (hts _ kw_422) (hts _ kw_424) (hts _ kw_423) (hts _ kw_103) hK hP (hD t_1) hS 23 63 1 1 (haX_23 ca a t_1) (haX_63 ca a t_1) rfl rfl rfl h1_27 h2_27 h3_27 h4_27 h5_27 (fun _ _ => rfl) (Nat.le_of_ble_eq_true rfl) (Nat.le_of_ble_eq_true rfl) dX0_takeFrom_27 (fun H locs hP _ hS => ?_)
  rw [saX_63] at hP
  obtain ⟨t_2, e_27, hf⟩ := fb_ls hf
  rw [← e_27] at hP
  refine lv_aload_n hx hb dX0_takeFrom_30 rfl (lv_at hl 1 rfl) ?_
  refine va_get (D := D) (ci := 0) (v := .ref (a 24)) (C := RX0) (T := TX0) (N := 12) hx hb hts inX0 hown hK hP 4 (heX_4 ca a t_2) rfl 2 (by decide) (hts _ kw_189) (fun _ h9 => h9) rfl dX0_takeFrom_31 ?_
  refine lv_iconst (v := 0) hx hb dX0_takeFrom_34 (by decide) ?_
  refine lv_aload_n hx hb dX0_takeFrom_35 rfl (lv_at hl 0 rfl) ?_
  refine va_get (D := D) (ci := 0) (v := .ref (a 64)) (C := RX0) (T := TX0) (N := 12) hx hb hts inX0 hown hK hP 12 (heX_12 ca a t_2) rfl 2 (by decide) (hts _ kw_189) (fun _ h9 => h9) rfl dX0_takeFrom_36 ?_
  refine lv_iconst (v := 0) hx hb dX0_takeFrom_39 (by decide) ?_
  refine lv_bipush (v := 32) hx hb dX0_takeFrom_40 (by decide) ?_
  obtain ⟨⟨h1_42, h2_42, h3_42, h4_42, h5_42⟩, hf⟩ := fb_if hf
  refine va_copyi hx hb (hml.trans hl.1.symm) hown (hts _ kw_422) (hts _ kw_424) (hts _ kw_423) (hts _ kw_103) hK hP (hD t_2) hS 24 64 0 0 (haX_24 ca a t_2) (haX_64 ca a t_2) rfl rfl rfl h1_42 h2_42 h3_42 h4_42 h5_42 (fun _ _ => rfl) (Nat.le_of_ble_eq_true rfl) (Nat.le_of_ble_eq_true rfl) dX0_takeFrom_42 (fun H locs hP _ hS => ?_)
  rw [saX_64] at hP
  obtain ⟨t_3, e_42, hf⟩ := fb_ls hf
  rw [← e_42] at hP
  refine lv_aload_n hx hb dX0_takeFrom_45 rfl (lv_at hl 1 rfl) ?_
  refine va_get (D := D) (ci := 0) (v := .ref (a 26)) (C := RX0) (T := TX0) (N := 12) hx hb hts inX0 hown hK hP 4 (heX_4 ca a t_3) rfl 4 (by decide) (hts _ kw_191) (fun _ h9 => h9) rfl dX0_takeFrom_46 ?_
  refine lv_iconst (v := 0) hx hb dX0_takeFrom_49 (by decide) ?_
  refine lv_aload_n hx hb dX0_takeFrom_50 rfl (lv_at hl 0 rfl) ?_
  refine va_get (D := D) (ci := 0) (v := .ref (a 66)) (C := RX0) (T := TX0) (N := 12) hx hb hts inX0 hown hK hP 12 (heX_12 ca a t_3) rfl 4 (by decide) (hts _ kw_191) (fun _ h9 => h9) rfl dX0_takeFrom_51 ?_
  refine lv_iconst (v := 0) hx hb dX0_takeFrom_54 (by decide) ?_
  refine lv_bipush (v := 32) hx hb dX0_takeFrom_55 (by decide) ?_
  obtain ⟨⟨h1_57, h2_57, h3_57, h4_57, h5_57⟩, hf⟩ := fb_if hf
  refine va_copyi hx hb (hml.trans hl.1.symm) hown (hts _ kw_422) (hts _ kw_424) (hts _ kw_423) (hts _ kw_103) hK hP (hD t_3) hS 26 66 0 0 (haX_26 ca a t_3) (haX_66 ca a t_3) rfl rfl rfl h1_57 h2_57 h3_57 h4_57 h5_57 (fun _ _ => rfl) (Nat.le_of_ble_eq_true rfl) (Nat.le_of_ble_eq_true rfl) dX0_takeFrom_57 (fun H locs hP _ hS => ?_)
  rw [saX_66] at hP
  obtain ⟨t_4, e_57, hf⟩ := fb_ls hf
  rw [← e_57] at hP
  refine lv_aload_n hx hb dX0_takeFrom_60 rfl (lv_at hl 1 rfl) ?_
  refine va_get (D := D) (ci := 0) (v := .ref (a 27)) (C := RX0) (T := TX0) (N := 12) hx hb hts inX0 hown hK hP 4 (heX_4 ca a t_4) rfl 5 (by decide) (hts _ kw_192) (fun _ h9 => h9) rfl dX0_takeFrom_61 ?_
  refine lv_iconst (v := 0) hx hb dX0_takeFrom_64 (by decide) ?_
  refine lv_aload_n hx hb dX0_takeFrom_65 rfl (lv_at hl 0 rfl) ?_
  refine va_get (D := D) (ci := 0) (v := .ref (a 67)) (C := RX0) (T := TX0) (N := 12) hx hb hts inX0 hown hK hP 12 (heX_12 ca a t_4) rfl 5 (by decide) (hts _ kw_192) (fun _ h9 => h9) rfl dX0_takeFrom_66 ?_
  refine lv_iconst (v := 0) hx hb dX0_takeFrom_69 (by decide) ?_
  refine lv_bipush (v := 32) hx hb dX0_takeFrom_70 (by decide) ?_
  obtain ⟨⟨h1_72, h2_72, h3_72, h4_72, h5_72⟩, hf⟩ := fb_if hf
  refine va_copyi hx hb (hml.trans hl.1.symm) hown (hts _ kw_422) (hts _ kw_424) (hts _ kw_423) (hts _ kw_103) hK hP (hD t_4) hS 27 67 0 0 (haX_27 ca a t_4) (haX_67 ca a t_4) rfl rfl rfl h1_72 h2_72 h3_72 h4_72 h5_72 (fun _ _ => rfl) (Nat.le_of_ble_eq_true rfl) (Nat.le_of_ble_eq_true rfl) dX0_takeFrom_72 (fun H locs hP _ hS => ?_)
  rw [saX_67] at hP
  obtain ⟨t_5, e_72, hf⟩ := fb_ls hf
  rw [← e_72] at hP
  refine lv_aload_n hx hb dX0_takeFrom_75 rfl (lv_at hl 1 rfl) ?_
  refine va_get (D := D) (ci := 0) (v := .ref (a 28)) (C := RX0) (T := TX0) (N := 12) hx hb hts inX0 hown hK hP 4 (heX_4 ca a t_5) rfl 6 (by decide) (hts _ kw_193) (fun _ h9 => h9) rfl dX0_takeFrom_76 ?_
  refine lv_iconst (v := 0) hx hb dX0_takeFrom_79 (by decide) ?_
  refine lv_aload_n hx hb dX0_takeFrom_80 rfl (lv_at hl 0 rfl) ?_
  refine va_get (D := D) (ci := 0) (v := .ref (a 68)) (C := RX0) (T := TX0) (N := 12) hx hb hts inX0 hown hK hP 12 (heX_12 ca a t_5) rfl 6 (by decide) (hts _ kw_193) (fun _ h9 => h9) rfl dX0_takeFrom_81 ?_
  refine lv_iconst (v := 0) hx hb dX0_takeFrom_84 (by decide) ?_
  refine lv_bipush (v := 32) hx hb dX0_takeFrom_85 (by decide) ?_
  obtain ⟨⟨h1_87, h2_87, h3_87, h4_87, h5_87⟩, hf⟩ := fb_if hf
  refine va_copyi hx hb (hml.trans hl.1.symm) hown (hts _ kw_422) (hts _ kw_424) (hts _ kw_423) (hts _ kw_103) hK hP (hD t_5) hS 28 68 0 0 (haX_28 ca a t_5) (haX_68 ca a t_5) rfl rfl rfl h1_87 h2_87 h3_87 h4_87 h5_87 (fun _ _ => rfl) (Nat.le_of_ble_eq_true rfl) (Nat.le_of_ble_eq_true rfl) dX0_takeFrom_87 (fun H locs hP _ hS => ?_)
  rw [saX_68] at hP
  obtain ⟨t_6, e_87, hf⟩ := fb_ls hf
  rw [← e_87] at hP
  refine lv_aload_n hx hb dX0_takeFrom_90 rfl (lv_at hl 1 rfl) ?_
  refine va_get (D := D) (ci := 0) (v := .ref (a 30)) (C := RX0) (T := TX0) (N := 12) hx hb hts inX0 hown hK hP 4 (heX_4 ca a t_6) rfl 8 (by decide) (hts _ kw_195) (fun _ h9 => h9) rfl dX0_takeFrom_91 ?_
  refine lv_iconst (v := 0) hx hb dX0_takeFrom_94 (by decide) ?_
  refine lv_aload_n hx hb dX0_takeFrom_95 rfl (lv_at hl 0 rfl) ?_
  refine va_get (D := D) (ci := 0) (v := .ref (a 70)) (C := RX0) (T := TX0) (N := 12) hx hb hts inX0 hown hK hP 12 (heX_12 ca a t_6) rfl 8 (by decide) (hts _ kw_195) (fun _ h9 => h9) rfl dX0_takeFrom_96 ?_
  refine lv_iconst (v := 0) hx hb dX0_takeFrom_99 (by decide) ?_
  refine lv_bipush (v := 32) hx hb dX0_takeFrom_100 (by decide) ?_
  obtain ⟨⟨h1_102, h2_102, h3_102, h4_102, h5_102⟩, hf⟩ := fb_if hf
  refine va_copyi hx hb (hml.trans hl.1.symm) hown (hts _ kw_422) (hts _ kw_424) (hts _ kw_423) (hts _ kw_103) hK hP (hD t_6) hS 30 70 0 0 (haX_30 ca a t_6) (haX_70 ca a t_6) rfl rfl rfl h1_102 h2_102 h3_102 h4_102 h5_102 (fun _ _ => rfl) (Nat.le_of_ble_eq_true rfl) (Nat.le_of_ble_eq_true rfl) dX0_takeFrom_102 (fun H locs hP _ hS => ?_)
  rw [saX_70] at hP
  obtain ⟨t_7, e_102, hf⟩ := fb_ls hf
  rw [← e_102] at hP
  refine lv_aload_n hx hb dX0_takeFrom_105 rfl (lv_at hl 1 rfl) ?_
  refine va_get (D := D) (ci := 0) (v := .ref (a 31)) (C := RX0) (T := TX0) (N := 12) hx hb hts inX0 hown hK hP 4 (heX_4 ca a t_7) rfl 9 (by decide) (hts _ kw_196) (fun _ h9 => h9) rfl dX0_takeFrom_106 ?_
  refine lv_iconst (v := 0) hx hb dX0_takeFrom_109 (by decide) ?_
  refine lv_aload_n hx hb dX0_takeFrom_110 rfl (lv_at hl 0 rfl) ?_
  refine va_get (D := D) (ci := 0) (v := .ref (a 71)) (C := RX0) (T := TX0) (N := 12) hx hb hts inX0 hown hK hP 12 (heX_12 ca a t_7) rfl 9 (by decide) (hts _ kw_196) (fun _ h9 => h9) rfl dX0_takeFrom_111 ?_
  refine lv_iconst (v := 0) hx hb dX0_takeFrom_114 (by decide) ?_
  refine lv_bipush (v := 32) hx hb dX0_takeFrom_115 (by decide) ?_
  obtain ⟨⟨h1_117, h2_117, h3_117, h4_117, h5_117⟩, hf⟩ := fb_if hf
  refine va_copyl hx hb (hml.trans hl.1.symm) hown (hts _ kw_422) (hts _ kw_424) (hts _ kw_423) (hts _ kw_103) hK hP (hD t_7) hS 31 71 1 1 (haX_31 ca a t_7) (haX_71 ca a t_7) rfl rfl rfl h1_117 h2_117 h3_117 h4_117 h5_117 (fun _ _ => rfl) (Nat.le_of_ble_eq_true rfl) (Nat.le_of_ble_eq_true rfl) dX0_takeFrom_117 (fun H locs hP _ hS => ?_)
  rw [saX_71] at hP
  obtain ⟨t_8, e_117, hf⟩ := fb_ls hf
  rw [← e_117] at hP
  refine lv_iconst (v := 0) hx hb dX0_takeFrom_120 (by decide) ?_
  refine lv_istore_n (lv' := [(2, .int ((0 : Int32))), (0, .ref (a 12)), (1, .ref (a 4))]) hx hb dX0_takeFrom_121 rfl hl (by decide) rfl (fun ls hl => ?_)
  exact w_X_X0_takeFrom__12_4_122 C hr 3000 t_8 ((0 : Int32)) _ _ _ hf hP hS (lv_sub hl [1, 2, 0] rfl)
set_option maxRecDepth 20000 in
theorem c_X_X0_takeFrom__12_4 {l : Launch} {D : va_G} {ca : Nat → ClassId} {a : Nat → Nat} {t : fw_S}  {u : fw_S} (hf : f_X_X0_takeFrom__12_4 t  = some u) : MC (WX ca a) D (tyv ca) l yX0_takeFrom (.code yX0_takeFrom prog_2_method_2_code 4 none :: lw_gd) rm_X_X0_takeFrom__12_4 [.ref (a 12), .ref (a 4)] none t u := by
  refine fw_met (okX ca a) (by decide +kernel) rfl rfl (Nat.le_of_ble_eq_true rfl) ?_
  intro p e s m args below meth c A Q ls C hr hk hP hS hl hQ
  exact w_X_X0_takeFrom__12_4_0 C (fun _ => fw_rv C hr hk hQ) hf hP hS (lv_sub hl [0, 1] rfl)
/-! ReactiveSheet.Watching.takeFrom(LReactiveSheet.Watching;)V ['x.keptWatching', 'x.watching'] -/
abbrev rm_X_X9_takeFrom__13_8 : Room := { frames := 1, cells := 0, slots := 0, locals := 100 }
def b_X_X9_takeFrom__13_8_0  (t : fw_S)  : Option fw_S := fb_g (¬ ((0 : Int32)) < 0 ∧ ¬ ((0 : Int32)) < 0 ∧ ¬ ((8 : Int32)) < 0 ∧ ((0 : Int32)).toNatClampNeg + ((8 : Int32)).toNatClampNeg ≤ 8 ∧ ((0 : Int32)).toNatClampNeg + ((8 : Int32)).toNatClampNeg ≤ 8) (fb_l (up_F t 40 (va_cpy (st_F t 24) (st_F t 40) ((0 : Int32)).toNatClampNeg ((0 : Int32)).toNatClampNeg ((8 : Int32)).toNatClampNeg)) fun t_1 => (fb_g (¬ ((0 : Int32)) < 0 ∧ ¬ ((0 : Int32)) < 0 ∧ ¬ ((8 : Int32)) < 0 ∧ ((0 : Int32)).toNatClampNeg + ((8 : Int32)).toNatClampNeg ≤ 8 ∧ ((0 : Int32)).toNatClampNeg + ((8 : Int32)).toNatClampNeg ≤ 8) (fb_l (up_F t_1 41 (va_cpy (st_F t_1 25) (st_F t_1 41) ((0 : Int32)).toNatClampNeg ((0 : Int32)).toNatClampNeg ((8 : Int32)).toNatClampNeg)) fun t_2 => (fb_g (¬ ((0 : Int32)) < 0 ∧ ¬ ((0 : Int32)) < 0 ∧ ¬ ((8 : Int32)) < 0 ∧ ((0 : Int32)).toNatClampNeg + ((8 : Int32)).toNatClampNeg ≤ 8 ∧ ((0 : Int32)).toNatClampNeg + ((8 : Int32)).toNatClampNeg ≤ 8) (fb_l (up_G t_2 13 (va_cpy (st_G t_2 7) (st_G t_2 13) ((0 : Int32)).toNatClampNeg ((0 : Int32)).toNatClampNeg ((8 : Int32)).toNatClampNeg)) fun t_3 => (fb_l (up_I t_3 13 (st_I t_3 9)) fun t_4 => (fb_l (up_J t_4 13 (st_J t_4 10)) fun t_5 => (fb_g (¬ ((0 : Int32)) < 0 ∧ ¬ ((0 : Int32)) < 0 ∧ ¬ ((60 : Int32)) < 0 ∧ ((0 : Int32)).toNatClampNeg + ((60 : Int32)).toNatClampNeg ≤ 60 ∧ ((0 : Int32)).toNatClampNeg + ((60 : Int32)).toNatClampNeg ≤ 60) (fb_l (up_F t_5 42 (va_cpy (st_F t_5 26) (st_F t_5 42) ((0 : Int32)).toNatClampNeg ((0 : Int32)).toNatClampNeg ((60 : Int32)).toNatClampNeg)) fun t_6 => (fb_g (¬ ((0 : Int32)) < 0 ∧ ¬ ((0 : Int32)) < 0 ∧ ¬ ((60 : Int32)) < 0 ∧ ((0 : Int32)).toNatClampNeg + ((60 : Int32)).toNatClampNeg ≤ 60 ∧ ((0 : Int32)).toNatClampNeg + ((60 : Int32)).toNatClampNeg ≤ 60) (fb_l (up_F t_6 43 (va_cpy (st_F t_6 27) (st_F t_6 43) ((0 : Int32)).toNatClampNeg ((0 : Int32)).toNatClampNeg ((60 : Int32)).toNatClampNeg)) fun t_7 => (fb_g (¬ ((0 : Int32)) < 0 ∧ ¬ ((0 : Int32)) < 0 ∧ ¬ ((60 : Int32)) < 0 ∧ ((0 : Int32)).toNatClampNeg + ((60 : Int32)).toNatClampNeg ≤ 60 ∧ ((0 : Int32)).toNatClampNeg + ((60 : Int32)).toNatClampNeg ≤ 60) (fb_l (up_F t_7 44 (va_cpy (st_F t_7 28) (st_F t_7 44) ((0 : Int32)).toNatClampNeg ((0 : Int32)).toNatClampNeg ((60 : Int32)).toNatClampNeg)) fun t_8 => (fb_g (¬ ((0 : Int32)) < 0 ∧ ¬ ((0 : Int32)) < 0 ∧ ¬ ((60 : Int32)) < 0 ∧ ((0 : Int32)).toNatClampNeg + ((60 : Int32)).toNatClampNeg ≤ 60 ∧ ((0 : Int32)).toNatClampNeg + ((60 : Int32)).toNatClampNeg ≤ 60) (fb_l (up_G t_8 14 (va_cpy (st_G t_8 8) (st_G t_8 14) ((0 : Int32)).toNatClampNeg ((0 : Int32)).toNatClampNeg ((60 : Int32)).toNatClampNeg)) fun t_9 => (fb_g (¬ ((0 : Int32)) < 0 ∧ ¬ ((0 : Int32)) < 0 ∧ ¬ ((60 : Int32)) < 0 ∧ ((0 : Int32)).toNatClampNeg + ((60 : Int32)).toNatClampNeg ≤ 60 ∧ ((0 : Int32)).toNatClampNeg + ((60 : Int32)).toNatClampNeg ≤ 60) (fb_l (up_G t_9 15 (va_cpy (st_G t_9 9) (st_G t_9 15) ((0 : Int32)).toNatClampNeg ((0 : Int32)).toNatClampNeg ((60 : Int32)).toNatClampNeg)) fun t_10 => (fb_l (up_I t_10 14 (st_I t_10 10)) fun t_11 => (fb_l (up_I t_11 15 (st_I t_11 11)) fun t_12 => (some t_12))))))))))))))))))))
def f_X_X9_takeFrom__13_8 (t : fw_S)  : Option fw_S := b_X_X9_takeFrom__13_8_0 t 
set_option maxRecDepth 20000 in
theorem w_X_X9_takeFrom__13_8_0 {p : Program} {l : Launch} {e : Env} {s : State} {m : MethodId} {args : Array Value} {below : List Frame} {meth : Method} {c : Code} {A : Nat → Prop} {Q : State → Prop} {D : va_G} {ca : Nat → ClassId} {a : Nat → Nat} {u : fw_S}  (C : CX (WX ca a) D (tyv ca) p s m args c A prog_11_method_2_code 2 RX9) (hr : True → RX (WX ca a) D p l e rm_X_X9_takeFrom__13_8 s m args below meth c A prog_11_method_2_code Q .return_ [] u) {t : fw_S}  {H : Heap} {locs : List Loc} {ls : Array Slot} (hf : b_X_X9_takeFrom__13_8_0  t  = some u) (hP : va_P D classes (WX ca a t) H) (hS : va_S A s.heap H locs) (hl : lv_has ls 2 [(0, .ref (a 13)), (1, .ref (a 8))]) : W p l e rm_X_X9_takeFrom__13_8 s m args below meth c H locs 0 0 Q (F0 m 0 ls []) := by
  obtain ⟨hx, hb, hml, hown, hts, hN, hK, hD, hA⟩ := id C
  have hf : (fb_g (¬ ((0 : Int32)) < 0 ∧ ¬ ((0 : Int32)) < 0 ∧ ¬ ((8 : Int32)) < 0 ∧ ((0 : Int32)).toNatClampNeg + ((8 : Int32)).toNatClampNeg ≤ 8 ∧ ((0 : Int32)).toNatClampNeg + ((8 : Int32)).toNatClampNeg ≤ 8) (fb_l (up_F t 40 (va_cpy (st_F t 24) (st_F t 40) ((0 : Int32)).toNatClampNeg ((0 : Int32)).toNatClampNeg ((8 : Int32)).toNatClampNeg)) fun t_1 => (fb_g (¬ ((0 : Int32)) < 0 ∧ ¬ ((0 : Int32)) < 0 ∧ ¬ ((8 : Int32)) < 0 ∧ ((0 : Int32)).toNatClampNeg + ((8 : Int32)).toNatClampNeg ≤ 8 ∧ ((0 : Int32)).toNatClampNeg + ((8 : Int32)).toNatClampNeg ≤ 8) (fb_l (up_F t_1 41 (va_cpy (st_F t_1 25) (st_F t_1 41) ((0 : Int32)).toNatClampNeg ((0 : Int32)).toNatClampNeg ((8 : Int32)).toNatClampNeg)) fun t_2 => (fb_g (¬ ((0 : Int32)) < 0 ∧ ¬ ((0 : Int32)) < 0 ∧ ¬ ((8 : Int32)) < 0 ∧ ((0 : Int32)).toNatClampNeg + ((8 : Int32)).toNatClampNeg ≤ 8 ∧ ((0 : Int32)).toNatClampNeg + ((8 : Int32)).toNatClampNeg ≤ 8) (fb_l (up_G t_2 13 (va_cpy (st_G t_2 7) (st_G t_2 13) ((0 : Int32)).toNatClampNeg ((0 : Int32)).toNatClampNeg ((8 : Int32)).toNatClampNeg)) fun t_3 => (fb_l (up_I t_3 13 (st_I t_3 9)) fun t_4 => (fb_l (up_J t_4 13 (st_J t_4 10)) fun t_5 => (fb_g (¬ ((0 : Int32)) < 0 ∧ ¬ ((0 : Int32)) < 0 ∧ ¬ ((60 : Int32)) < 0 ∧ ((0 : Int32)).toNatClampNeg + ((60 : Int32)).toNatClampNeg ≤ 60 ∧ ((0 : Int32)).toNatClampNeg + ((60 : Int32)).toNatClampNeg ≤ 60) (fb_l (up_F t_5 42 (va_cpy (st_F t_5 26) (st_F t_5 42) ((0 : Int32)).toNatClampNeg ((0 : Int32)).toNatClampNeg ((60 : Int32)).toNatClampNeg)) fun t_6 => (fb_g (¬ ((0 : Int32)) < 0 ∧ ¬ ((0 : Int32)) < 0 ∧ ¬ ((60 : Int32)) < 0 ∧ ((0 : Int32)).toNatClampNeg + ((60 : Int32)).toNatClampNeg ≤ 60 ∧ ((0 : Int32)).toNatClampNeg + ((60 : Int32)).toNatClampNeg ≤ 60) (fb_l (up_F t_6 43 (va_cpy (st_F t_6 27) (st_F t_6 43) ((0 : Int32)).toNatClampNeg ((0 : Int32)).toNatClampNeg ((60 : Int32)).toNatClampNeg)) fun t_7 => (fb_g (¬ ((0 : Int32)) < 0 ∧ ¬ ((0 : Int32)) < 0 ∧ ¬ ((60 : Int32)) < 0 ∧ ((0 : Int32)).toNatClampNeg + ((60 : Int32)).toNatClampNeg ≤ 60 ∧ ((0 : Int32)).toNatClampNeg + ((60 : Int32)).toNatClampNeg ≤ 60) (fb_l (up_F t_7 44 (va_cpy (st_F t_7 28) (st_F t_7 44) ((0 : Int32)).toNatClampNeg ((0 : Int32)).toNatClampNeg ((60 : Int32)).toNatClampNeg)) fun t_8 => (fb_g (¬ ((0 : Int32)) < 0 ∧ ¬ ((0 : Int32)) < 0 ∧ ¬ ((60 : Int32)) < 0 ∧ ((0 : Int32)).toNatClampNeg + ((60 : Int32)).toNatClampNeg ≤ 60 ∧ ((0 : Int32)).toNatClampNeg + ((60 : Int32)).toNatClampNeg ≤ 60) (fb_l (up_G t_8 14 (va_cpy (st_G t_8 8) (st_G t_8 14) ((0 : Int32)).toNatClampNeg ((0 : Int32)).toNatClampNeg ((60 : Int32)).toNatClampNeg)) fun t_9 => (fb_g (¬ ((0 : Int32)) < 0 ∧ ¬ ((0 : Int32)) < 0 ∧ ¬ ((60 : Int32)) < 0 ∧ ((0 : Int32)).toNatClampNeg + ((60 : Int32)).toNatClampNeg ≤ 60 ∧ ((0 : Int32)).toNatClampNeg + ((60 : Int32)).toNatClampNeg ≤ 60) (fb_l (up_G t_9 15 (va_cpy (st_G t_9 9) (st_G t_9 15) ((0 : Int32)).toNatClampNeg ((0 : Int32)).toNatClampNeg ((60 : Int32)).toNatClampNeg)) fun t_10 => (fb_l (up_I t_10 14 (st_I t_10 10)) fun t_11 => (fb_l (up_I t_11 15 (st_I t_11 11)) fun t_12 => (some t_12))))))))))))))))))))) = some u := hf
  refine lv_aload_n hx hb dX9_takeFrom_0 rfl (lv_at hl 1 rfl) ?_
  refine va_get (D := D) (ci := 9) (v := .ref (a 49)) (C := RX9) (T := TX9) (N := 12) hx hb hts inX9 hown hK hP 8 (heX_8 ca a t) rfl 0 (by decide) (hts _ kw_276) (fun _ h9 => h9) rfl dX9_takeFrom_1 ?_
  refine lv_iconst (v := 0) hx hb dX9_takeFrom_4 (by decide) ?_
  refine lv_aload_n hx hb dX9_takeFrom_5 rfl (lv_at hl 0 rfl) ?_
  refine va_get (D := D) (ci := 9) (v := .ref (a 72)) (C := RX9) (T := TX9) (N := 12) hx hb hts inX9 hown hK hP 13 (heX_13 ca a t) rfl 0 (by decide) (hts _ kw_276) (fun _ h9 => h9) rfl dX9_takeFrom_6 ?_
  refine lv_iconst (v := 0) hx hb dX9_takeFrom_9 (by decide) ?_
  refine lv_bipush (v := 8) hx hb dX9_takeFrom_10 (by decide) ?_
  obtain ⟨⟨h1_12, h2_12, h3_12, h4_12, h5_12⟩, hf⟩ := fb_if hf
  refine va_copyi hx hb (hml.trans hl.1.symm) hown (hts _ kw_1180) (hts _ kw_424) (hts _ kw_423) (hts _ kw_103) hK hP (hD t) hS 49 72 0 0 (haX_49 ca a t) (haX_72 ca a t) rfl rfl rfl h1_12 h2_12 h3_12 h4_12 h5_12 (fun _ _ => rfl) (Nat.le_of_ble_eq_true rfl) (Nat.le_of_ble_eq_true rfl) dX9_takeFrom_12 (fun H locs hP _ hS => ?_)
  rw [saX_72] at hP
  obtain ⟨t_1, e_12, hf⟩ := fb_ls hf
  rw [← e_12] at hP
  refine lv_aload_n hx hb dX9_takeFrom_15 rfl (lv_at hl 1 rfl) ?_
  refine va_get (D := D) (ci := 9) (v := .ref (a 50)) (C := RX9) (T := TX9) (N := 12) hx hb hts inX9 hown hK hP 8 (heX_8 ca a t_1) rfl 1 (by decide) (hts _ kw_277) (fun _ h9 => h9) rfl dX9_takeFrom_16 ?_
  refine lv_iconst (v := 0) hx hb dX9_takeFrom_19 (by decide) ?_
  refine lv_aload_n hx hb dX9_takeFrom_20 rfl (lv_at hl 0 rfl) ?_
  refine va_get (D := D) (ci := 9) (v := .ref (a 73)) (C := RX9) (T := TX9) (N := 12) hx hb hts inX9 hown hK hP 13 (heX_13 ca a t_1) rfl 1 (by decide) (hts _ kw_277) (fun _ h9 => h9) rfl dX9_takeFrom_21 ?_
  refine lv_iconst (v := 0) hx hb dX9_takeFrom_24 (by decide) ?_
  refine lv_bipush (v := 8) hx hb dX9_takeFrom_25 (by decide) ?_
  obtain ⟨⟨h1_27, h2_27, h3_27, h4_27, h5_27⟩, hf⟩ := fb_if hf
  refine va_copyi hx hb (hml.trans hl.1.symm) hown (hts _ kw_1180) (hts _ kw_424) (hts _ kw_423) (hts _ kw_103) hK hP (hD t_1) hS 50 73 0 0 (haX_50 ca a t_1) (haX_73 ca a t_1) rfl rfl rfl h1_27 h2_27 h3_27 h4_27 h5_27 (fun _ _ => rfl) (Nat.le_of_ble_eq_true rfl) (Nat.le_of_ble_eq_true rfl) dX9_takeFrom_27 (fun H locs hP _ hS => ?_)
  rw [saX_73] at hP
  obtain ⟨t_2, e_27, hf⟩ := fb_ls hf
  rw [← e_27] at hP
  refine lv_aload_n hx hb dX9_takeFrom_30 rfl (lv_at hl 1 rfl) ?_
  refine va_get (D := D) (ci := 9) (v := .ref (a 51)) (C := RX9) (T := TX9) (N := 12) hx hb hts inX9 hown hK hP 8 (heX_8 ca a t_2) rfl 2 (by decide) (hts _ kw_278) (fun _ h9 => h9) rfl dX9_takeFrom_31 ?_
  refine lv_iconst (v := 0) hx hb dX9_takeFrom_34 (by decide) ?_
  refine lv_aload_n hx hb dX9_takeFrom_35 rfl (lv_at hl 0 rfl) ?_
  refine va_get (D := D) (ci := 9) (v := .ref (a 74)) (C := RX9) (T := TX9) (N := 12) hx hb hts inX9 hown hK hP 13 (heX_13 ca a t_2) rfl 2 (by decide) (hts _ kw_278) (fun _ h9 => h9) rfl dX9_takeFrom_36 ?_
  refine lv_iconst (v := 0) hx hb dX9_takeFrom_39 (by decide) ?_
  refine lv_bipush (v := 8) hx hb dX9_takeFrom_40 (by decide) ?_
  obtain ⟨⟨h1_42, h2_42, h3_42, h4_42, h5_42⟩, hf⟩ := fb_if hf
  refine va_copyl hx hb (hml.trans hl.1.symm) hown (hts _ kw_1180) (hts _ kw_424) (hts _ kw_423) (hts _ kw_103) hK hP (hD t_2) hS 51 74 1 1 (haX_51 ca a t_2) (haX_74 ca a t_2) rfl rfl rfl h1_42 h2_42 h3_42 h4_42 h5_42 (fun _ _ => rfl) (Nat.le_of_ble_eq_true rfl) (Nat.le_of_ble_eq_true rfl) dX9_takeFrom_42 (fun H locs hP _ hS => ?_)
  rw [saX_74] at hP
  obtain ⟨t_3, e_42, hf⟩ := fb_ls hf
  rw [← e_42] at hP
  refine lv_aload_n hx hb dX9_takeFrom_45 rfl (lv_at hl 0 rfl) ?_
  refine lv_aload_n hx hb dX9_takeFrom_46 rfl (lv_at hl 1 rfl) ?_
  refine va_get (D := D) (ci := 9) (v := .int (st_I t_3 9)) (C := RX9) (T := TX9) (N := 12) hx hb hts inX9 hown hK hP 8 (heX_8 ca a t_3) rfl 3 (by decide) (hts _ kw_279) (fun _ h9 => h9) rfl dX9_takeFrom_47 ?_
  refine va_put (D := D) (ci := 9) (v := .int (st_I t_3 9)) (ty := .int) (C := RX9) (T := TX9) (N := 12) hx hb hts inX9 tyX9 tyX9_ok nmX9 hown hK hP (hD t_3) hS 13 (heX_13 ca a t_3) rfl 3 (by decide) (hts _ kw_279) (fun _ h9 => h9) rfl (by decide +kernel) rfl rfl (Nat.le_of_ble_eq_true rfl) dX9_takeFrom_50 (fun H locs hP _ hS => ?_)
  rw [suX_13_3] at hP
  obtain ⟨t_4, e_50, hf⟩ := fb_ls hf
  rw [← e_50] at hP
  refine lv_aload_n hx hb dX9_takeFrom_53 rfl (lv_at hl 0 rfl) ?_
  refine lv_aload_n hx hb dX9_takeFrom_54 rfl (lv_at hl 1 rfl) ?_
  refine va_get (D := D) (ci := 9) (v := .long (st_J t_4 10)) (C := RX9) (T := TX9) (N := 12) hx hb hts inX9 hown hK hP 8 (heX_8 ca a t_4) rfl 4 (by decide) (hts _ kw_280) (fun _ h9 => h9) rfl dX9_takeFrom_55 ?_
  refine va_put (D := D) (ci := 9) (v := .long (st_J t_4 10)) (ty := .long) (C := RX9) (T := TX9) (N := 12) hx hb hts inX9 tyX9 tyX9_ok nmX9 hown hK hP (hD t_4) hS 13 (heX_13 ca a t_4) rfl 4 (by decide) (hts _ kw_280) (fun _ h9 => h9) rfl (by decide +kernel) rfl rfl (Nat.le_of_ble_eq_true rfl) dX9_takeFrom_58 (fun H locs hP _ hS => ?_)
  rw [suX_13_4] at hP
  obtain ⟨t_5, e_58, hf⟩ := fb_ls hf
  rw [← e_58] at hP
  refine lv_aload_n hx hb dX9_takeFrom_61 rfl (lv_at hl 1 rfl) ?_
  refine va_get (D := D) (ci := 9) (v := .ref (a 52)) (C := RX9) (T := TX9) (N := 12) hx hb hts inX9 hown hK hP 8 (heX_8 ca a t_5) rfl 5 (by decide) (hts _ kw_281) (fun _ h9 => h9) rfl dX9_takeFrom_62 ?_
  refine lv_iconst (v := 0) hx hb dX9_takeFrom_65 (by decide) ?_
  refine lv_aload_n hx hb dX9_takeFrom_66 rfl (lv_at hl 0 rfl) ?_
  refine va_get (D := D) (ci := 9) (v := .ref (a 75)) (C := RX9) (T := TX9) (N := 12) hx hb hts inX9 hown hK hP 13 (heX_13 ca a t_5) rfl 5 (by decide) (hts _ kw_281) (fun _ h9 => h9) rfl dX9_takeFrom_67 ?_
  refine lv_iconst (v := 0) hx hb dX9_takeFrom_70 (by decide) ?_
  refine lv_bipush (v := 60) hx hb dX9_takeFrom_71 (by decide) ?_
  obtain ⟨⟨h1_73, h2_73, h3_73, h4_73, h5_73⟩, hf⟩ := fb_if hf
  refine va_copyi hx hb (hml.trans hl.1.symm) hown (hts _ kw_1180) (hts _ kw_424) (hts _ kw_423) (hts _ kw_103) hK hP (hD t_5) hS 52 75 0 0 (haX_52 ca a t_5) (haX_75 ca a t_5) rfl rfl rfl h1_73 h2_73 h3_73 h4_73 h5_73 (fun _ _ => rfl) (Nat.le_of_ble_eq_true rfl) (Nat.le_of_ble_eq_true rfl) dX9_takeFrom_73 (fun H locs hP _ hS => ?_)
  rw [saX_75] at hP
  obtain ⟨t_6, e_73, hf⟩ := fb_ls hf
  rw [← e_73] at hP
  refine lv_aload_n hx hb dX9_takeFrom_76 rfl (lv_at hl 1 rfl) ?_
  refine va_get (D := D) (ci := 9) (v := .ref (a 53)) (C := RX9) (T := TX9) (N := 12) hx hb hts inX9 hown hK hP 8 (heX_8 ca a t_6) rfl 6 (by decide) (hts _ kw_282) (fun _ h9 => h9) rfl dX9_takeFrom_77 ?_
  refine lv_iconst (v := 0) hx hb dX9_takeFrom_80 (by decide) ?_
  refine lv_aload_n hx hb dX9_takeFrom_81 rfl (lv_at hl 0 rfl) ?_
  refine va_get (D := D) (ci := 9) (v := .ref (a 76)) (C := RX9) (T := TX9) (N := 12) hx hb hts inX9 hown hK hP 13 (heX_13 ca a t_6) rfl 6 (by decide) (hts _ kw_282) (fun _ h9 => h9) rfl dX9_takeFrom_82 ?_
  refine lv_iconst (v := 0) hx hb dX9_takeFrom_85 (by decide) ?_
  refine lv_bipush (v := 60) hx hb dX9_takeFrom_86 (by decide) ?_
  obtain ⟨⟨h1_88, h2_88, h3_88, h4_88, h5_88⟩, hf⟩ := fb_if hf
  refine va_copyi hx hb (hml.trans hl.1.symm) hown (hts _ kw_1180) (hts _ kw_424) (hts _ kw_423) (hts _ kw_103) hK hP (hD t_6) hS 53 76 0 0 (haX_53 ca a t_6) (haX_76 ca a t_6) rfl rfl rfl h1_88 h2_88 h3_88 h4_88 h5_88 (fun _ _ => rfl) (Nat.le_of_ble_eq_true rfl) (Nat.le_of_ble_eq_true rfl) dX9_takeFrom_88 (fun H locs hP _ hS => ?_)
  rw [saX_76] at hP
  obtain ⟨t_7, e_88, hf⟩ := fb_ls hf
  rw [← e_88] at hP
  refine lv_aload_n hx hb dX9_takeFrom_91 rfl (lv_at hl 1 rfl) ?_
  refine va_get (D := D) (ci := 9) (v := .ref (a 54)) (C := RX9) (T := TX9) (N := 12) hx hb hts inX9 hown hK hP 8 (heX_8 ca a t_7) rfl 7 (by decide) (hts _ kw_283) (fun _ h9 => h9) rfl dX9_takeFrom_92 ?_
  refine lv_iconst (v := 0) hx hb dX9_takeFrom_95 (by decide) ?_
  refine lv_aload_n hx hb dX9_takeFrom_96 rfl (lv_at hl 0 rfl) ?_
  refine va_get (D := D) (ci := 9) (v := .ref (a 77)) (C := RX9) (T := TX9) (N := 12) hx hb hts inX9 hown hK hP 13 (heX_13 ca a t_7) rfl 7 (by decide) (hts _ kw_283) (fun _ h9 => h9) rfl dX9_takeFrom_97 ?_
  refine lv_iconst (v := 0) hx hb dX9_takeFrom_100 (by decide) ?_
  refine lv_bipush (v := 60) hx hb dX9_takeFrom_101 (by decide) ?_
  obtain ⟨⟨h1_103, h2_103, h3_103, h4_103, h5_103⟩, hf⟩ := fb_if hf
  refine va_copyi hx hb (hml.trans hl.1.symm) hown (hts _ kw_1180) (hts _ kw_424) (hts _ kw_423) (hts _ kw_103) hK hP (hD t_7) hS 54 77 0 0 (haX_54 ca a t_7) (haX_77 ca a t_7) rfl rfl rfl h1_103 h2_103 h3_103 h4_103 h5_103 (fun _ _ => rfl) (Nat.le_of_ble_eq_true rfl) (Nat.le_of_ble_eq_true rfl) dX9_takeFrom_103 (fun H locs hP _ hS => ?_)
  rw [saX_77] at hP
  obtain ⟨t_8, e_103, hf⟩ := fb_ls hf
  rw [← e_103] at hP
  refine lv_aload_n hx hb dX9_takeFrom_106 rfl (lv_at hl 1 rfl) ?_
  refine va_get (D := D) (ci := 9) (v := .ref (a 55)) (C := RX9) (T := TX9) (N := 12) hx hb hts inX9 hown hK hP 8 (heX_8 ca a t_8) rfl 8 (by decide) (hts _ kw_284) (fun _ h9 => h9) rfl dX9_takeFrom_107 ?_
  refine lv_iconst (v := 0) hx hb dX9_takeFrom_110 (by decide) ?_
  refine lv_aload_n hx hb dX9_takeFrom_111 rfl (lv_at hl 0 rfl) ?_
  refine va_get (D := D) (ci := 9) (v := .ref (a 78)) (C := RX9) (T := TX9) (N := 12) hx hb hts inX9 hown hK hP 13 (heX_13 ca a t_8) rfl 8 (by decide) (hts _ kw_284) (fun _ h9 => h9) rfl dX9_takeFrom_112 ?_
  refine lv_iconst (v := 0) hx hb dX9_takeFrom_115 (by decide) ?_
  refine lv_bipush (v := 60) hx hb dX9_takeFrom_116 (by decide) ?_
  obtain ⟨⟨h1_118, h2_118, h3_118, h4_118, h5_118⟩, hf⟩ := fb_if hf
  refine va_copyl hx hb (hml.trans hl.1.symm) hown (hts _ kw_1180) (hts _ kw_424) (hts _ kw_423) (hts _ kw_103) hK hP (hD t_8) hS 55 78 1 1 (haX_55 ca a t_8) (haX_78 ca a t_8) rfl rfl rfl h1_118 h2_118 h3_118 h4_118 h5_118 (fun _ _ => rfl) (Nat.le_of_ble_eq_true rfl) (Nat.le_of_ble_eq_true rfl) dX9_takeFrom_118 (fun H locs hP _ hS => ?_)
  rw [saX_78] at hP
  obtain ⟨t_9, e_118, hf⟩ := fb_ls hf
  rw [← e_118] at hP
  refine lv_aload_n hx hb dX9_takeFrom_121 rfl (lv_at hl 1 rfl) ?_
  refine va_get (D := D) (ci := 9) (v := .ref (a 56)) (C := RX9) (T := TX9) (N := 12) hx hb hts inX9 hown hK hP 8 (heX_8 ca a t_9) rfl 9 (by decide) (hts _ kw_285) (fun _ h9 => h9) rfl dX9_takeFrom_122 ?_
  refine lv_iconst (v := 0) hx hb dX9_takeFrom_125 (by decide) ?_
  refine lv_aload_n hx hb dX9_takeFrom_126 rfl (lv_at hl 0 rfl) ?_
  refine va_get (D := D) (ci := 9) (v := .ref (a 79)) (C := RX9) (T := TX9) (N := 12) hx hb hts inX9 hown hK hP 13 (heX_13 ca a t_9) rfl 9 (by decide) (hts _ kw_285) (fun _ h9 => h9) rfl dX9_takeFrom_127 ?_
  refine lv_iconst (v := 0) hx hb dX9_takeFrom_130 (by decide) ?_
  refine lv_bipush (v := 60) hx hb dX9_takeFrom_131 (by decide) ?_
  obtain ⟨⟨h1_133, h2_133, h3_133, h4_133, h5_133⟩, hf⟩ := fb_if hf
  refine va_copyl hx hb (hml.trans hl.1.symm) hown (hts _ kw_1180) (hts _ kw_424) (hts _ kw_423) (hts _ kw_103) hK hP (hD t_9) hS 56 79 1 1 (haX_56 ca a t_9) (haX_79 ca a t_9) rfl rfl rfl h1_133 h2_133 h3_133 h4_133 h5_133 (fun _ _ => rfl) (Nat.le_of_ble_eq_true rfl) (Nat.le_of_ble_eq_true rfl) dX9_takeFrom_133 (fun H locs hP _ hS => ?_)
  rw [saX_79] at hP
  obtain ⟨t_10, e_133, hf⟩ := fb_ls hf
  rw [← e_133] at hP
  refine lv_aload_n hx hb dX9_takeFrom_136 rfl (lv_at hl 0 rfl) ?_
  refine lv_aload_n hx hb dX9_takeFrom_137 rfl (lv_at hl 1 rfl) ?_
  refine va_get (D := D) (ci := 9) (v := .int (st_I t_10 10)) (C := RX9) (T := TX9) (N := 12) hx hb hts inX9 hown hK hP 8 (heX_8 ca a t_10) rfl 10 (by decide) (hts _ kw_286) (fun _ h9 => h9) rfl dX9_takeFrom_138 ?_
  refine va_put (D := D) (ci := 9) (v := .int (st_I t_10 10)) (ty := .int) (C := RX9) (T := TX9) (N := 12) hx hb hts inX9 tyX9 tyX9_ok nmX9 hown hK hP (hD t_10) hS 13 (heX_13 ca a t_10) rfl 10 (by decide) (hts _ kw_286) (fun _ h9 => h9) rfl (by decide +kernel) rfl rfl (Nat.le_of_ble_eq_true rfl) dX9_takeFrom_141 (fun H locs hP _ hS => ?_)
  rw [suX_13_10] at hP
  obtain ⟨t_11, e_141, hf⟩ := fb_ls hf
  rw [← e_141] at hP
  refine lv_aload_n hx hb dX9_takeFrom_144 rfl (lv_at hl 0 rfl) ?_
  refine lv_aload_n hx hb dX9_takeFrom_145 rfl (lv_at hl 1 rfl) ?_
  refine va_get (D := D) (ci := 9) (v := .int (st_I t_11 11)) (C := RX9) (T := TX9) (N := 12) hx hb hts inX9 hown hK hP 8 (heX_8 ca a t_11) rfl 11 (by decide) (hts _ kw_287) (fun _ h9 => h9) rfl dX9_takeFrom_146 ?_
  refine va_put (D := D) (ci := 9) (v := .int (st_I t_11 11)) (ty := .int) (C := RX9) (T := TX9) (N := 12) hx hb hts inX9 tyX9 tyX9_ok nmX9 hown hK hP (hD t_11) hS 13 (heX_13 ca a t_11) rfl 11 (by decide) (hts _ kw_287) (fun _ h9 => h9) rfl (by decide +kernel) rfl rfl (Nat.le_of_ble_eq_true rfl) dX9_takeFrom_149 (fun H locs hP _ hS => ?_)
  rw [suX_13_11] at hP
  obtain ⟨t_12, e_149, hf⟩ := fb_ls hf
  rw [← e_149] at hP
  have e_152 := fb_ev hf
  subst e_152
  exact hr trivial _ _ _ _ hP hS dX9_takeFrom_152
set_option maxRecDepth 20000 in
theorem c_X_X9_takeFrom__13_8 {l : Launch} {D : va_G} {ca : Nat → ClassId} {a : Nat → Nat} {t : fw_S}  {u : fw_S} (hf : f_X_X9_takeFrom__13_8 t  = some u) : MC (WX ca a) D (tyv ca) l yX9_takeFrom (.code yX9_takeFrom prog_11_method_2_code 2 none :: lw_gd) rm_X_X9_takeFrom__13_8 [.ref (a 13), .ref (a 8)] none t u := by
  refine fw_met (okX ca a) (by decide +kernel) rfl rfl (Nat.le_of_ble_eq_true rfl) ?_
  intro p e s m args below meth c A Q ls C hr hk hP hS hl hQ
  exact w_X_X9_takeFrom__13_8_0 C (fun _ => fw_rv C hr hk hQ) hf hP hS (lv_sub hl [0, 1] rfl)
/-! ReactiveSheet.Cells.countOf(I)I ['x.keptCells'] -/
abbrev rm_X_X0_countOf__12 : Room := { frames := 0, cells := 0, slots := 0, locals := 0 }
def b_X_X0_countOf__12_29  (t : fw_S) (x2 : Int32) : Option (Int32 × fw_S) := some (x2, t)
def b_X_X0_countOf__12_23 (k4 : fw_S → Int32 → Int32 → Int32 → Option (Int32 × fw_S)) (t : fw_S) (x1 : Int32) (x2 : Int32) (x3 : Int32) : Option (Int32 × fw_S) := k4 t x1 x2 (x3 + 1)
def b_X_X0_countOf__12_20 (k4 : fw_S → Int32 → Int32 → Int32 → Option (Int32 × fw_S)) (t : fw_S) (x1 : Int32) (x2 : Int32) (x3 : Int32) : Option (Int32 × fw_S) := b_X_X0_countOf__12_23 k4 t x1 (x2 + 1) x3
def b_X_X0_countOf__12_10 (k4 : fw_S → Int32 → Int32 → Int32 → Option (Int32 × fw_S)) (t : fw_S) (x1 : Int32) (x2 : Int32) (x3 : Int32) : Option (Int32 × fw_S) := fb_g (¬ (x3 < 0 ∨ 32 ≤ x3.toNatClampNeg)) (if (st_F t 33 x3.toNatClampNeg) = x1 then b_X_X0_countOf__12_20 k4 t x1 x2 x3 else b_X_X0_countOf__12_23 k4 t x1 x2 x3)
def b_X_X0_countOf__12_4  : Nat → (fw_S → Int32 → Int32 → Int32 → Option (Int32 × fw_S))
  | 0 => fun _ _ _ _ => none
  | n + 1 => fun t x1 x2 x3 => if ((32 : Int32)) ≤ x3 then b_X_X0_countOf__12_29 t x2 else b_X_X0_countOf__12_10 (b_X_X0_countOf__12_4 n) t x1 x2 x3
def b_X_X0_countOf__12_0  (t : fw_S) (x1 : Int32) : Option (Int32 × fw_S) := b_X_X0_countOf__12_4 3000 t x1 ((0 : Int32)) ((0 : Int32))
def f_X_X0_countOf__12 (t : fw_S) (x1 : Int32) : Option (Int32 × fw_S) := b_X_X0_countOf__12_0 t x1
set_option maxRecDepth 20000 in
theorem w_X_X0_countOf__12_29 {p : Program} {l : Launch} {e : Env} {s : State} {m : MethodId} {args : Array Value} {below : List Frame} {meth : Method} {c : Code} {A : Nat → Prop} {Q : State → Prop} {D : va_G} {ca : Nat → ClassId} {a : Nat → Nat} {u : fw_S} {r : Int32}  (C : CX (WX ca a) D (tyv ca) p s m args c A prog_2_method_28_code 4 RX0) (hr : True → RX (WX ca a) D p l e rm_X_X0_countOf__12 s m args below meth c A prog_2_method_28_code Q .ireturn [.int r] u) {t : fw_S} {x2 : Int32} {H : Heap} {locs : List Loc} {ls : Array Slot} (hf : b_X_X0_countOf__12_29  t x2 = some (r, u)) (hP : va_P D classes (WX ca a t) H) (hS : va_S A s.heap H locs) (hl : lv_has ls 4 [(2, .int x2)]) : W p l e rm_X_X0_countOf__12 s m args below meth c H locs 0 0 Q (F0 m 29 ls []) := by
  obtain ⟨hx, hb, hml, hown, hts, hN, hK, hD, hA⟩ := id C
  have hf : (some (x2, t)) = some (r, u) := hf
  refine lv_iload_n hx hb dX0_countOf_29 rfl (lv_at hl 0 rfl) ?_
  obtain ⟨e_30, e2_30⟩ := fb_e hf
  subst e_30; subst e2_30
  exact hr trivial _ _ _ _ hP hS dX0_countOf_30
set_option maxRecDepth 20000 in
theorem w_X_X0_countOf__12_23 {p : Program} {l : Launch} {e : Env} {s : State} {m : MethodId} {args : Array Value} {below : List Frame} {meth : Method} {c : Code} {A : Nat → Prop} {Q : State → Prop} {D : va_G} {ca : Nat → ClassId} {a : Nat → Nat} {u : fw_S} {r : Int32} {k4 : fw_S → Int32 → Int32 → Int32 → Option (Int32 × fw_S)} (C : CX (WX ca a) D (tyv ca) p s m args c A prog_2_method_28_code 4 RX0) (hr : True → RX (WX ca a) D p l e rm_X_X0_countOf__12 s m args below meth c A prog_2_method_28_code Q .ireturn [.int r] u) (hk4 : ∀ (t : fw_S) (x1 : Int32) (x2 : Int32) (x3 : Int32) (H : Heap) (locs : List Loc) (ls : Array Slot), k4 t x1 x2 x3 = some (r, u) → va_P D classes (WX ca a t) H → va_S A s.heap H locs → lv_has ls 4 [(0, .ref (a 12)), (1, .int x1), (2, .int x2), (3, .int x3)] → W p l e rm_X_X0_countOf__12 s m args below meth c H locs 0 0 Q (F0 m 4 ls [])) {t : fw_S} {x1 : Int32} {x2 : Int32} {x3 : Int32} {H : Heap} {locs : List Loc} {ls : Array Slot} (hf : b_X_X0_countOf__12_23 k4 t x1 x2 x3 = some (r, u)) (hP : va_P D classes (WX ca a t) H) (hS : va_S A s.heap H locs) (hl : lv_has ls 4 [(0, .ref (a 12)), (1, .int x1), (2, .int x2), (3, .int x3)]) : W p l e rm_X_X0_countOf__12 s m args below meth c H locs 0 0 Q (F0 m 23 ls []) := by
  obtain ⟨hx, hb, hml, hown, hts, hN, hK, hD, hA⟩ := id C
  have hf : (k4 t x1 x2 (x3 + 1)) = some (r, u) := hf
  refine lv_iinc (v := x3 + 1) (lv' := [(3, .int (x3 + 1)), (0, .ref (a 12)), (1, .int x1), (2, .int x2)]) hx hb dX0_countOf_23 hl (k := 3) rfl rfl (by decide) rfl (fun ls hl => ?_)
  refine lv_goto (tgt := 4) hx hb dX0_countOf_26 (by decide) ?_
  exact hk4 t x1 x2 (x3 + 1) _ _ _ hf hP hS (lv_sub hl [1, 2, 3, 0] rfl)
set_option maxRecDepth 20000 in
theorem w_X_X0_countOf__12_20 {p : Program} {l : Launch} {e : Env} {s : State} {m : MethodId} {args : Array Value} {below : List Frame} {meth : Method} {c : Code} {A : Nat → Prop} {Q : State → Prop} {D : va_G} {ca : Nat → ClassId} {a : Nat → Nat} {u : fw_S} {r : Int32} {k4 : fw_S → Int32 → Int32 → Int32 → Option (Int32 × fw_S)} (C : CX (WX ca a) D (tyv ca) p s m args c A prog_2_method_28_code 4 RX0) (hr : True → RX (WX ca a) D p l e rm_X_X0_countOf__12 s m args below meth c A prog_2_method_28_code Q .ireturn [.int r] u) (hk4 : ∀ (t : fw_S) (x1 : Int32) (x2 : Int32) (x3 : Int32) (H : Heap) (locs : List Loc) (ls : Array Slot), k4 t x1 x2 x3 = some (r, u) → va_P D classes (WX ca a t) H → va_S A s.heap H locs → lv_has ls 4 [(0, .ref (a 12)), (1, .int x1), (2, .int x2), (3, .int x3)] → W p l e rm_X_X0_countOf__12 s m args below meth c H locs 0 0 Q (F0 m 4 ls [])) {t : fw_S} {x1 : Int32} {x2 : Int32} {x3 : Int32} {H : Heap} {locs : List Loc} {ls : Array Slot} (hf : b_X_X0_countOf__12_20 k4 t x1 x2 x3 = some (r, u)) (hP : va_P D classes (WX ca a t) H) (hS : va_S A s.heap H locs) (hl : lv_has ls 4 [(0, .ref (a 12)), (1, .int x1), (2, .int x2), (3, .int x3)]) : W p l e rm_X_X0_countOf__12 s m args below meth c H locs 0 0 Q (F0 m 20 ls []) := by
  obtain ⟨hx, hb, hml, hown, hts, hN, hK, hD, hA⟩ := id C
  have hf : (b_X_X0_countOf__12_23 k4 t x1 (x2 + 1) x3) = some (r, u) := hf
  refine lv_iinc (v := x2 + 1) (lv' := [(2, .int (x2 + 1)), (0, .ref (a 12)), (1, .int x1), (3, .int x3)]) hx hb dX0_countOf_20 hl (k := 2) rfl rfl (by decide) rfl (fun ls hl => ?_)
  exact w_X_X0_countOf__12_23 C hr hk4 hf hP hS (lv_sub hl [1, 2, 0, 3] rfl)
set_option maxRecDepth 20000 in
theorem w_X_X0_countOf__12_10 {p : Program} {l : Launch} {e : Env} {s : State} {m : MethodId} {args : Array Value} {below : List Frame} {meth : Method} {c : Code} {A : Nat → Prop} {Q : State → Prop} {D : va_G} {ca : Nat → ClassId} {a : Nat → Nat} {u : fw_S} {r : Int32} {k4 : fw_S → Int32 → Int32 → Int32 → Option (Int32 × fw_S)} (C : CX (WX ca a) D (tyv ca) p s m args c A prog_2_method_28_code 4 RX0) (hr : True → RX (WX ca a) D p l e rm_X_X0_countOf__12 s m args below meth c A prog_2_method_28_code Q .ireturn [.int r] u) (hk4 : ∀ (t : fw_S) (x1 : Int32) (x2 : Int32) (x3 : Int32) (H : Heap) (locs : List Loc) (ls : Array Slot), k4 t x1 x2 x3 = some (r, u) → va_P D classes (WX ca a t) H → va_S A s.heap H locs → lv_has ls 4 [(0, .ref (a 12)), (1, .int x1), (2, .int x2), (3, .int x3)] → W p l e rm_X_X0_countOf__12 s m args below meth c H locs 0 0 Q (F0 m 4 ls [])) {t : fw_S} {x1 : Int32} {x2 : Int32} {x3 : Int32} {H : Heap} {locs : List Loc} {ls : Array Slot} (hf : b_X_X0_countOf__12_10 k4 t x1 x2 x3 = some (r, u)) (hP : va_P D classes (WX ca a t) H) (hS : va_S A s.heap H locs) (hl : lv_has ls 4 [(0, .ref (a 12)), (1, .int x1), (2, .int x2), (3, .int x3)]) : W p l e rm_X_X0_countOf__12 s m args below meth c H locs 0 0 Q (F0 m 10 ls []) := by
  obtain ⟨hx, hb, hml, hown, hts, hN, hK, hD, hA⟩ := id C
  have hf : (fb_g (¬ (x3 < 0 ∨ 32 ≤ x3.toNatClampNeg)) (if (st_F t 33 x3.toNatClampNeg) = x1 then b_X_X0_countOf__12_20 k4 t x1 x2 x3 else b_X_X0_countOf__12_23 k4 t x1 x2 x3)) = some (r, u) := hf
  refine lv_aload_n hx hb dX0_countOf_10 rfl (lv_at hl 0 rfl) ?_
  refine va_get (D := D) (ci := 0) (v := .ref (a 62)) (C := RX0) (T := TX0) (N := 12) hx hb hts inX0 hown hK hP 12 (heX_12 ca a t) rfl 0 (by decide) (hts _ kw_187) (fun _ h9 => h9) rfl dX0_countOf_11 ?_
  refine lv_iload_n hx hb dX0_countOf_14 rfl (lv_at hl 3 rfl) ?_
  obtain ⟨h_15, hf⟩ := fb_if hf
  refine va_iald hx hb hK hP 62 0 (haX_62 ca a t) rfl h_15 dX0_countOf_15 ?_
  refine lv_iload_n hx hb dX0_countOf_16 rfl (lv_at hl 1 rfl) ?_
  refine lv_icmp_ne (tgt := 23) hx hb dX0_countOf_17 (by decide) (fun h_17 => ?_) (fun h_17 => ?_)
  · have hf := fb_f h_17 hf
    exact w_X_X0_countOf__12_23 C hr hk4 hf hP hS (lv_sub hl [0, 1, 2, 3] rfl)
  · have hf := fb_t h_17 hf
    exact w_X_X0_countOf__12_20 C hr hk4 hf hP hS (lv_sub hl [0, 1, 2, 3] rfl)
set_option maxRecDepth 20000 in
theorem w_X_X0_countOf__12_4 {p : Program} {l : Launch} {e : Env} {s : State} {m : MethodId} {args : Array Value} {below : List Frame} {meth : Method} {c : Code} {A : Nat → Prop} {Q : State → Prop} {D : va_G} {ca : Nat → ClassId} {a : Nat → Nat} {u : fw_S} {r : Int32}  (C : CX (WX ca a) D (tyv ca) p s m args c A prog_2_method_28_code 4 RX0) (hr : True → RX (WX ca a) D p l e rm_X_X0_countOf__12 s m args below meth c A prog_2_method_28_code Q .ireturn [.int r] u) : ∀ (n : Nat) (t : fw_S) (x1 : Int32) (x2 : Int32) (x3 : Int32) (H : Heap) (locs : List Loc) (ls : Array Slot), b_X_X0_countOf__12_4  n t x1 x2 x3 = some (r, u) → va_P D classes (WX ca a t) H → va_S A s.heap H locs → lv_has ls 4 [(0, .ref (a 12)), (1, .int x1), (2, .int x2), (3, .int x3)] → W p l e rm_X_X0_countOf__12 s m args below meth c H locs 0 0 Q (F0 m 4 ls []) := by
  obtain ⟨hx, hb, hml, hown, hts, hN, hK, hD, hA⟩ := id C
  intro n
  induction n with
  | zero => intro t x1 x2 x3 H locs ls hf; cases hf
  | succ n hk4 =>
    intro t x1 x2 x3 H locs ls hf hP hS hl
    have hf : (if ((32 : Int32)) ≤ x3 then b_X_X0_countOf__12_29 t x2 else b_X_X0_countOf__12_10 (b_X_X0_countOf__12_4 n) t x1 x2 x3) = some (r, u) := hf
    refine lv_iload_n hx hb dX0_countOf_4 rfl (lv_at hl 3 rfl) ?_
    refine lv_bipush (v := 32) hx hb dX0_countOf_5 (by decide) ?_
    refine lv_icmp_ge (tgt := 29) hx hb dX0_countOf_7 (by decide) (fun h_7 => ?_) (fun h_7 => ?_)
    · have hf := fb_t h_7 hf
      exact w_X_X0_countOf__12_29 C hr hf hP hS (lv_sub hl [2] rfl)
    · have hf := fb_f h_7 hf
      exact w_X_X0_countOf__12_10 C hr hk4 hf hP hS (lv_sub hl [0, 1, 2, 3] rfl)
set_option maxRecDepth 20000 in
theorem w_X_X0_countOf__12_0 {p : Program} {l : Launch} {e : Env} {s : State} {m : MethodId} {args : Array Value} {below : List Frame} {meth : Method} {c : Code} {A : Nat → Prop} {Q : State → Prop} {D : va_G} {ca : Nat → ClassId} {a : Nat → Nat} {u : fw_S} {r : Int32}  (C : CX (WX ca a) D (tyv ca) p s m args c A prog_2_method_28_code 4 RX0) (hr : True → RX (WX ca a) D p l e rm_X_X0_countOf__12 s m args below meth c A prog_2_method_28_code Q .ireturn [.int r] u) {t : fw_S} {x1 : Int32} {H : Heap} {locs : List Loc} {ls : Array Slot} (hf : b_X_X0_countOf__12_0  t x1 = some (r, u)) (hP : va_P D classes (WX ca a t) H) (hS : va_S A s.heap H locs) (hl : lv_has ls 4 [(0, .ref (a 12)), (1, .int x1)]) : W p l e rm_X_X0_countOf__12 s m args below meth c H locs 0 0 Q (F0 m 0 ls []) := by
  obtain ⟨hx, hb, hml, hown, hts, hN, hK, hD, hA⟩ := id C
  have hf : (b_X_X0_countOf__12_4 3000 t x1 ((0 : Int32)) ((0 : Int32))) = some (r, u) := hf
  refine lv_iconst (v := 0) hx hb dX0_countOf_0 (by decide) ?_
  refine lv_istore_n (lv' := [(2, .int ((0 : Int32))), (0, .ref (a 12)), (1, .int x1)]) hx hb dX0_countOf_1 rfl hl (by decide) rfl (fun ls hl => ?_)
  refine lv_iconst (v := 0) hx hb dX0_countOf_2 (by decide) ?_
  refine lv_istore_n (lv' := [(3, .int ((0 : Int32))), (2, .int ((0 : Int32))), (0, .ref (a 12)), (1, .int x1)]) hx hb dX0_countOf_3 rfl hl (by decide) rfl (fun ls hl => ?_)
  exact w_X_X0_countOf__12_4 C hr 3000 t x1 ((0 : Int32)) ((0 : Int32)) _ _ _ hf hP hS (lv_sub hl [2, 3, 1, 0] rfl)
set_option maxRecDepth 20000 in
theorem c_X_X0_countOf__12 {l : Launch} {D : va_G} {ca : Nat → ClassId} {a : Nat → Nat} {t : fw_S} {x1 : Int32} {u : fw_S} {r : Int32} (hf : f_X_X0_countOf__12 t x1 = some (r, u)) : MC (WX ca a) D (tyv ca) l yX0_countOf (.code yX0_countOf prog_2_method_28_code 4 (some .int) :: lw_gd) rm_X_X0_countOf__12 [.ref (a 12), .int x1] (some (.int r)) t u := by
  refine fw_met (okX ca a) (by decide +kernel) rfl rfl (Nat.le_of_ble_eq_true rfl) ?_
  intro p e s m args below meth c A Q ls C hr hk hP hS hl hQ
  exact w_X_X0_countOf__12_0 C (fun _ => fw_ri C hr hk hQ) hf hP hS (lv_sub hl [0, 1] rfl)
/-! ReactiveSheet.Cells.present()I ['x.keptCells'] -/
abbrev rm_X_X0_present__12 : Room := { frames := 1, cells := 0, slots := 0, locals := 23 }
def b_X_X0_present__12_0  (t : fw_S)  : Option (Int32 × fw_S) := fb_b (f_X_X0_countOf__12 t ((0 : Int32))) fun v_2 t_1 => (some (((32 : Int32)) - v_2, t_1))
def f_X_X0_present__12 (t : fw_S)  : Option (Int32 × fw_S) := b_X_X0_present__12_0 t 
set_option maxRecDepth 20000 in
theorem w_X_X0_present__12_0 {p : Program} {l : Launch} {e : Env} {s : State} {m : MethodId} {args : Array Value} {below : List Frame} {meth : Method} {c : Code} {A : Nat → Prop} {Q : State → Prop} {D : va_G} {ca : Nat → ClassId} {a : Nat → Nat} {u : fw_S} {r : Int32}  (C : CX (WX ca a) D (tyv ca) p s m args c A prog_2_method_29_code 1 RX0) (hr : True → RX (WX ca a) D p l e rm_X_X0_present__12 s m args below meth c A prog_2_method_29_code Q .ireturn [.int r] u) {t : fw_S}  {H : Heap} {locs : List Loc} {ls : Array Slot} (hf : b_X_X0_present__12_0  t  = some (r, u)) (hP : va_P D classes (WX ca a t) H) (hS : va_S A s.heap H locs) (hl : lv_has ls 1 [(0, .ref (a 12))]) : W p l e rm_X_X0_present__12 s m args below meth c H locs 0 0 Q (F0 m 0 ls []) := by
  obtain ⟨hx, hb, hml, hown, hts, hN, hK, hD, hA⟩ := id C
  have hf : (fb_b (f_X_X0_countOf__12 t ((0 : Int32))) fun v_2 t_1 => (some (((32 : Int32)) - v_2, t_1))) = some (r, u) := hf
  refine lv_bipush (v := 32) hx hb dX0_present_0 (by decide) ?_
  refine lv_aload_n hx hb dX0_present_2 rfl (lv_at hl 0 rfl) ?_
  refine lv_iconst (v := 0) hx hb dX0_present_3 (by decide) ?_
  obtain ⟨v_2, t_1, g_4, hf⟩ := fb_bs hf
  refine fw_V1 (As := [.int ((0 : Int32))]) (rest := [.int ((32 : Int32))]) (n := 1) (q0 := 12) C (c_X_X0_countOf__12 (l := l) (D := D) (ca := ca) (a := a) g_4) kw_908 kw_909 kw_96 kw_911 kw_910 hP hS hl (heX_12 ca a t) rfl rfl rfl (by decide) (by decide +kernel) ⟨Nat.le_of_ble_eq_true rfl, Nat.le_of_ble_eq_true rfl⟩ rfl rfl (Nat.le_of_ble_eq_true rfl) dX0_present_4 (fun H locs hP hS => ?_)
  refine W.eq (g2 := F0 m 7 ls [.int v_2, .int ((32 : Int32))]) rfl ?_
  refine lv_isub hx hb dX0_present_7 ?_
  obtain ⟨e_8, e2_8⟩ := fb_e hf
  subst e_8; subst e2_8
  exact hr trivial _ _ _ _ hP hS dX0_present_8
set_option maxRecDepth 20000 in
theorem c_X_X0_present__12 {l : Launch} {D : va_G} {ca : Nat → ClassId} {a : Nat → Nat} {t : fw_S}  {u : fw_S} {r : Int32} (hf : f_X_X0_present__12 t  = some (r, u)) : MC (WX ca a) D (tyv ca) l yX0_present (.code yX0_present prog_2_method_29_code 1 (some .int) :: lw_gd) rm_X_X0_present__12 [.ref (a 12)] (some (.int r)) t u := by
  refine fw_met (okX ca a) (by decide +kernel) rfl rfl (Nat.le_of_ble_eq_true rfl) ?_
  intro p e s m args below meth c A Q ls C hr hk hP hS hl hQ
  exact w_X_X0_present__12_0 C (fun _ => fw_ri C hr hk hQ) hf hP hS (lv_sub hl [0] rfl)
/-! ReactiveSheet.image()I ['x'] -/
abbrev rm_X_X10_image__0 : Room := { frames := 3, cells := 0, slots := 0, locals := 123 }
def b_X_X10_image__0_10  (t : fw_S)  : Option (Int32 × fw_S) := fb_v (f_X_X1_now__3 t) fun t_1 => (fb_v (f_X_X0_takeFrom__12_4 t_1) fun t_2 => (fb_v (f_X_X9_takeFrom__13_8 t_2) fun t_3 => (fb_g (((1 : Int32)) = 0 ∨ ((1 : Int32)) = 1) (fb_l (up_I t_3 1 ((1 : Int32))) fun t_4 => (fb_b (f_X_X0_present__12 t_4) fun v_6 t_5 => (some (v_6, t_5)))))))
def b_X_X10_image__0_7  (t : fw_S)  : Option (Int32 × fw_S) := some ((-3 : Int32), t)
def b_X_X10_image__0_0  (t : fw_S)  : Option (Int32 × fw_S) := if (st_I t 0) = 0 then b_X_X10_image__0_10 t else b_X_X10_image__0_7 t
def f_X_X10_image__0 (t : fw_S)  : Option (Int32 × fw_S) := b_X_X10_image__0_0 t 
set_option maxRecDepth 20000 in
theorem w_X_X10_image__0_10 {p : Program} {l : Launch} {e : Env} {s : State} {m : MethodId} {args : Array Value} {below : List Frame} {meth : Method} {c : Code} {A : Nat → Prop} {Q : State → Prop} {D : va_G} {ca : Nat → ClassId} {a : Nat → Nat} {u : fw_S} {r : Int32}  (C : CX (WX ca a) D (tyv ca) p s m args c A prog_1_method_36_code 1 RX10) (hr : True → RX (WX ca a) D p l e rm_X_X10_image__0 s m args below meth c A prog_1_method_36_code Q .ireturn [.int r] u) {t : fw_S}  {H : Heap} {locs : List Loc} {ls : Array Slot} (hf : b_X_X10_image__0_10  t  = some (r, u)) (hP : va_P D classes (WX ca a t) H) (hS : va_S A s.heap H locs) (hl : lv_has ls 1 [(0, .ref (a 0))]) : W p l e rm_X_X10_image__0 s m args below meth c H locs 0 0 Q (F0 m 10 ls []) := by
  obtain ⟨hx, hb, hml, hown, hts, hN, hK, hD, hA⟩ := id C
  have hf : (fb_v (f_X_X1_now__3 t) fun t_1 => (fb_v (f_X_X0_takeFrom__12_4 t_1) fun t_2 => (fb_v (f_X_X9_takeFrom__13_8 t_2) fun t_3 => (fb_g (((1 : Int32)) = 0 ∨ ((1 : Int32)) = 1) (fb_l (up_I t_3 1 ((1 : Int32))) fun t_4 => (fb_b (f_X_X0_present__12 t_4) fun v_6 t_5 => (some (v_6, t_5)))))))) = some (r, u) := hf
  refine lv_aload_n hx hb dX10_image_10 rfl (lv_at hl 0 rfl) ?_
  refine va_get (D := D) (ci := 10) (v := .ref (a 12)) (C := RX10) (T := TX10) (N := 13) hx hb hts inX10 hown hK hP 0 (heX_0 ca a t) rfl 9 (by decide) (hts _ kw_363) (fun _ h9 => h9) rfl dX10_image_11 ?_
  refine lv_aload_n hx hb dX10_image_14 rfl (lv_at hl 0 rfl) ?_
  refine va_get (D := D) (ci := 10) (v := .ref (a 3)) (C := RX10) (T := TX10) (N := 13) hx hb hts inX10 hown hK hP 0 (heX_0 ca a t) rfl 2 (by decide) (hts _ kw_356) (fun _ h9 => h9) rfl dX10_image_15 ?_
  obtain ⟨t_1, g_18, hf⟩ := fb_vs hf
  refine fw_V1 (As := []) (rest := [.ref (a 12)]) (n := 0) (q0 := 3) C (c_X_X1_now__3 (l := l) (D := D) (ca := ca) (a := a) g_18) kw_626 kw_627 kw_95 kw_629 kw_628 hP hS hl (heX_3 ca a t) rfl rfl rfl (by decide) (by decide +kernel) ⟨Nat.le_of_ble_eq_true rfl, Nat.le_of_ble_eq_true rfl⟩ rfl rfl (Nat.le_of_ble_eq_true rfl) dX10_image_18 (fun H locs hP hS => ?_)
  refine W.eq (g2 := F0 m 21 ls [.ref (a 4), .ref (a 12)]) rfl ?_
  obtain ⟨t_2, g_21, hf⟩ := fb_vs hf
  refine fw_V1 (As := [.ref (a 4)]) (rest := []) (n := 1) (q0 := 12) C (c_X_X0_takeFrom__12_4 (l := l) (D := D) (ca := ca) (a := a) g_21) kw_1175 kw_419 kw_96 kw_421 kw_420 hP hS hl (heX_12 ca a t_1) rfl rfl rfl (by decide) (by decide +kernel) ⟨Nat.le_of_ble_eq_true rfl, Nat.le_of_ble_eq_true rfl⟩ rfl rfl (Nat.le_of_ble_eq_true rfl) dX10_image_21 (fun H locs hP hS => ?_)
  refine W.eq (g2 := F0 m 24 ls []) rfl ?_
  refine lv_aload_n hx hb dX10_image_24 rfl (lv_at hl 0 rfl) ?_
  refine va_get (D := D) (ci := 10) (v := .ref (a 13)) (C := RX10) (T := TX10) (N := 13) hx hb hts inX10 hown hK hP 0 (heX_0 ca a t_2) rfl 10 (by decide) (hts _ kw_364) (fun _ h9 => h9) rfl dX10_image_25 ?_
  refine lv_aload_n hx hb dX10_image_28 rfl (lv_at hl 0 rfl) ?_
  refine va_get (D := D) (ci := 10) (v := .ref (a 8)) (C := RX10) (T := TX10) (N := 13) hx hb hts inX10 hown hK hP 0 (heX_0 ca a t_2) rfl 5 (by decide) (hts _ kw_359) (fun _ h9 => h9) rfl dX10_image_29 ?_
  obtain ⟨t_3, g_32, hf⟩ := fb_vs hf
  refine fw_V1 (As := [.ref (a 8)]) (rest := []) (n := 1) (q0 := 13) C (c_X_X9_takeFrom__13_8 (l := l) (D := D) (ca := ca) (a := a) g_32) kw_1176 kw_1177 kw_98 kw_1179 kw_1178 hP hS hl (heX_13 ca a t_2) rfl rfl rfl (by decide) (by decide +kernel) ⟨Nat.le_of_ble_eq_true rfl, Nat.le_of_ble_eq_true rfl⟩ rfl rfl (Nat.le_of_ble_eq_true rfl) dX10_image_32 (fun H locs hP hS => ?_)
  refine W.eq (g2 := F0 m 35 ls []) rfl ?_
  refine lv_aload_n hx hb dX10_image_35 rfl (lv_at hl 0 rfl) ?_
  refine lv_iconst (v := 1) hx hb dX10_image_36 (by decide) ?_
  obtain ⟨h_37, hf⟩ := fb_if hf
  refine va_put (D := D) (ci := 10) (v := .int ((1 : Int32))) (ty := .boolean) (C := RX10) (T := TX10) (N := 13) hx hb hts inX10 tyX10 tyX10_ok nmX10 hown hK hP (hD t_3) hS 0 (heX_0 ca a t_3) rfl 12 (by decide) (hts _ kw_366) (fun _ h9 => h9) rfl (by decide +kernel) (fb_z h_37).1 (fb_z h_37).2 (Nat.le_of_ble_eq_true rfl) dX10_image_37 (fun H locs hP _ hS => ?_)
  rw [suX_0_12] at hP
  obtain ⟨t_4, e_37, hf⟩ := fb_ls hf
  rw [← e_37] at hP
  refine lv_aload_n hx hb dX10_image_40 rfl (lv_at hl 0 rfl) ?_
  refine va_get (D := D) (ci := 10) (v := .ref (a 12)) (C := RX10) (T := TX10) (N := 13) hx hb hts inX10 hown hK hP 0 (heX_0 ca a t_4) rfl 9 (by decide) (hts _ kw_363) (fun _ h9 => h9) rfl dX10_image_41 ?_
  obtain ⟨v_6, t_5, g_44, hf⟩ := fb_bs hf
  refine fw_V1 (As := []) (rest := []) (n := 0) (q0 := 12) C (c_X_X0_present__12 (l := l) (D := D) (ca := ca) (a := a) g_44) kw_1181 kw_905 kw_96 kw_907 kw_906 hP hS hl (heX_12 ca a t_4) rfl rfl rfl (by decide) (by decide +kernel) ⟨Nat.le_of_ble_eq_true rfl, Nat.le_of_ble_eq_true rfl⟩ rfl rfl (Nat.le_of_ble_eq_true rfl) dX10_image_44 (fun H locs hP hS => ?_)
  refine W.eq (g2 := F0 m 47 ls [.int v_6]) rfl ?_
  obtain ⟨e_47, e2_47⟩ := fb_e hf
  subst e_47; subst e2_47
  exact hr trivial _ _ _ _ hP hS dX10_image_47
set_option maxRecDepth 20000 in
theorem w_X_X10_image__0_7 {p : Program} {l : Launch} {e : Env} {s : State} {m : MethodId} {args : Array Value} {below : List Frame} {meth : Method} {c : Code} {A : Nat → Prop} {Q : State → Prop} {D : va_G} {ca : Nat → ClassId} {a : Nat → Nat} {u : fw_S} {r : Int32}  (C : CX (WX ca a) D (tyv ca) p s m args c A prog_1_method_36_code 1 RX10) (hr : True → RX (WX ca a) D p l e rm_X_X10_image__0 s m args below meth c A prog_1_method_36_code Q .ireturn [.int r] u) {t : fw_S}  {H : Heap} {locs : List Loc} {ls : Array Slot} (hf : b_X_X10_image__0_7  t  = some (r, u)) (hP : va_P D classes (WX ca a t) H) (hS : va_S A s.heap H locs) (hl : lv_has ls 1 []) : W p l e rm_X_X10_image__0 s m args below meth c H locs 0 0 Q (F0 m 7 ls []) := by
  obtain ⟨hx, hb, hml, hown, hts, hN, hK, hD, hA⟩ := id C
  have hf : (some ((-3 : Int32), t)) = some (r, u) := hf
  refine lv_bipush (v := (-3)) hx hb dX10_image_7 (by decide) ?_
  obtain ⟨e_9, e2_9⟩ := fb_e hf
  subst e_9; subst e2_9
  exact hr trivial _ _ _ _ hP hS dX10_image_9
set_option maxRecDepth 20000 in
theorem w_X_X10_image__0_0 {p : Program} {l : Launch} {e : Env} {s : State} {m : MethodId} {args : Array Value} {below : List Frame} {meth : Method} {c : Code} {A : Nat → Prop} {Q : State → Prop} {D : va_G} {ca : Nat → ClassId} {a : Nat → Nat} {u : fw_S} {r : Int32}  (C : CX (WX ca a) D (tyv ca) p s m args c A prog_1_method_36_code 1 RX10) (hr : True → RX (WX ca a) D p l e rm_X_X10_image__0 s m args below meth c A prog_1_method_36_code Q .ireturn [.int r] u) {t : fw_S}  {H : Heap} {locs : List Loc} {ls : Array Slot} (hf : b_X_X10_image__0_0  t  = some (r, u)) (hP : va_P D classes (WX ca a t) H) (hS : va_S A s.heap H locs) (hl : lv_has ls 1 [(0, .ref (a 0))]) : W p l e rm_X_X10_image__0 s m args below meth c H locs 0 0 Q (F0 m 0 ls []) := by
  obtain ⟨hx, hb, hml, hown, hts, hN, hK, hD, hA⟩ := id C
  have hf : (if (st_I t 0) = 0 then b_X_X10_image__0_10 t else b_X_X10_image__0_7 t) = some (r, u) := hf
  refine lv_aload_n hx hb dX10_image_0 rfl (lv_at hl 0 rfl) ?_
  refine va_get (D := D) (ci := 10) (v := .int (st_I t 0)) (C := RX10) (T := TX10) (N := 13) hx hb hts inX10 hown hK hP 0 (heX_0 ca a t) rfl 11 (by decide) (hts _ kw_365) (fun _ h9 => h9) rfl dX10_image_1 ?_
  refine lv_if_eq (tgt := 10) hx hb dX10_image_4 (by decide) (fun h_4 => ?_) (fun h_4 => ?_)
  · have hf := fb_t h_4 hf
    exact w_X_X10_image__0_10 C hr hf hP hS (lv_sub hl [0] rfl)
  · have hf := fb_f h_4 hf
    exact w_X_X10_image__0_7 C hr hf hP hS (lv_sub hl [] rfl)
set_option maxRecDepth 20000 in
theorem c_X_X10_image__0 {l : Launch} {D : va_G} {ca : Nat → ClassId} {a : Nat → Nat} {t : fw_S}  {u : fw_S} {r : Int32} (hf : f_X_X10_image__0 t  = some (r, u)) : MC (WX ca a) D (tyv ca) l yX10_image (.code yX10_image prog_1_method_36_code 1 (some .int) :: lw_gd) rm_X_X10_image__0 [.ref (a 0)] (some (.int r)) t u := by
  refine fw_met (okX ca a) (by decide +kernel) rfl rfl (Nat.le_of_ble_eq_true rfl) ?_
  intro p e s m args below meth c A Q ls C hr hk hP hS hl hQ
  exact w_X_X10_image__0_0 C (fun _ => fw_ri C hr hk hQ) hf hP hS (lv_sub hl [0] rfl)
