theorem d_Mo_determinant_0 : decode b_Mo_determinant 0 = .ok (.aload_n 0, 1) := by decide +kernel
theorem d_Mo_determinant_1 : decode b_Mo_determinant 1 = .ok (.getfield 57, 3) := by decide +kernel
theorem d_Mo_determinant_4 : decode b_Mo_determinant 4 = .ok (.iconst (0), 1) := by decide +kernel
theorem d_Mo_determinant_5 : decode b_Mo_determinant 5 = .ok (.laload, 1) := by decide +kernel
theorem d_Mo_determinant_6 : decode b_Mo_determinant 6 = .ok (.aload_n 0, 1) := by decide +kernel
theorem d_Mo_determinant_7 : decode b_Mo_determinant 7 = .ok (.getfield 57, 3) := by decide +kernel
theorem d_Mo_determinant_10 : decode b_Mo_determinant 10 = .ok (.iconst (4), 1) := by decide +kernel
theorem d_Mo_determinant_11 : decode b_Mo_determinant 11 = .ok (.laload, 1) := by decide +kernel
theorem d_Mo_determinant_12 : decode b_Mo_determinant 12 = .ok (.aload_n 0, 1) := by decide +kernel
theorem d_Mo_determinant_13 : decode b_Mo_determinant 13 = .ok (.getfield 57, 3) := by decide +kernel
theorem d_Mo_determinant_16 : decode b_Mo_determinant 16 = .ok (.bipush (8), 2) := by decide +kernel
theorem d_Mo_determinant_18 : decode b_Mo_determinant 18 = .ok (.laload, 1) := by decide +kernel
theorem d_Mo_determinant_19 : decode b_Mo_determinant 19 = .ok (.lmul, 1) := by decide +kernel
theorem d_Mo_determinant_20 : decode b_Mo_determinant 20 = .ok (.aload_n 0, 1) := by decide +kernel
theorem d_Mo_determinant_21 : decode b_Mo_determinant 21 = .ok (.getfield 57, 3) := by decide +kernel
theorem d_Mo_determinant_24 : decode b_Mo_determinant 24 = .ok (.iconst (5), 1) := by decide +kernel
theorem d_Mo_determinant_25 : decode b_Mo_determinant 25 = .ok (.laload, 1) := by decide +kernel
theorem d_Mo_determinant_26 : decode b_Mo_determinant 26 = .ok (.aload_n 0, 1) := by decide +kernel
theorem d_Mo_determinant_27 : decode b_Mo_determinant 27 = .ok (.getfield 57, 3) := by decide +kernel
theorem d_Mo_determinant_30 : decode b_Mo_determinant 30 = .ok (.bipush (7), 2) := by decide +kernel
theorem d_Mo_determinant_32 : decode b_Mo_determinant 32 = .ok (.laload, 1) := by decide +kernel
theorem d_Mo_determinant_33 : decode b_Mo_determinant 33 = .ok (.lmul, 1) := by decide +kernel
theorem d_Mo_determinant_34 : decode b_Mo_determinant 34 = .ok (.lsub, 1) := by decide +kernel
theorem d_Mo_determinant_35 : decode b_Mo_determinant 35 = .ok (.lmul, 1) := by decide +kernel
theorem d_Mo_determinant_36 : decode b_Mo_determinant 36 = .ok (.lstore_n 1, 1) := by decide +kernel
theorem d_Mo_determinant_37 : decode b_Mo_determinant 37 = .ok (.aload_n 0, 1) := by decide +kernel
theorem d_Mo_determinant_38 : decode b_Mo_determinant 38 = .ok (.getfield 57, 3) := by decide +kernel
theorem d_Mo_determinant_41 : decode b_Mo_determinant 41 = .ok (.iconst (1), 1) := by decide +kernel
theorem d_Mo_determinant_42 : decode b_Mo_determinant 42 = .ok (.laload, 1) := by decide +kernel
theorem d_Mo_determinant_43 : decode b_Mo_determinant 43 = .ok (.aload_n 0, 1) := by decide +kernel
theorem d_Mo_determinant_44 : decode b_Mo_determinant 44 = .ok (.getfield 57, 3) := by decide +kernel
theorem d_Mo_determinant_47 : decode b_Mo_determinant 47 = .ok (.iconst (5), 1) := by decide +kernel
theorem d_Mo_determinant_48 : decode b_Mo_determinant 48 = .ok (.laload, 1) := by decide +kernel
theorem d_Mo_determinant_49 : decode b_Mo_determinant 49 = .ok (.aload_n 0, 1) := by decide +kernel
theorem d_Mo_determinant_50 : decode b_Mo_determinant 50 = .ok (.getfield 57, 3) := by decide +kernel
theorem d_Mo_determinant_53 : decode b_Mo_determinant 53 = .ok (.bipush (6), 2) := by decide +kernel
theorem d_Mo_determinant_55 : decode b_Mo_determinant 55 = .ok (.laload, 1) := by decide +kernel
theorem d_Mo_determinant_56 : decode b_Mo_determinant 56 = .ok (.lmul, 1) := by decide +kernel
theorem d_Mo_determinant_57 : decode b_Mo_determinant 57 = .ok (.aload_n 0, 1) := by decide +kernel
theorem d_Mo_determinant_58 : decode b_Mo_determinant 58 = .ok (.getfield 57, 3) := by decide +kernel
theorem d_Mo_determinant_61 : decode b_Mo_determinant 61 = .ok (.iconst (3), 1) := by decide +kernel
theorem d_Mo_determinant_62 : decode b_Mo_determinant 62 = .ok (.laload, 1) := by decide +kernel
theorem d_Mo_determinant_63 : decode b_Mo_determinant 63 = .ok (.aload_n 0, 1) := by decide +kernel
theorem d_Mo_determinant_64 : decode b_Mo_determinant 64 = .ok (.getfield 57, 3) := by decide +kernel
theorem d_Mo_determinant_67 : decode b_Mo_determinant 67 = .ok (.bipush (8), 2) := by decide +kernel
theorem d_Mo_determinant_69 : decode b_Mo_determinant 69 = .ok (.laload, 1) := by decide +kernel
theorem d_Mo_determinant_70 : decode b_Mo_determinant 70 = .ok (.lmul, 1) := by decide +kernel
theorem d_Mo_determinant_71 : decode b_Mo_determinant 71 = .ok (.lsub, 1) := by decide +kernel
theorem d_Mo_determinant_72 : decode b_Mo_determinant 72 = .ok (.lmul, 1) := by decide +kernel
theorem d_Mo_determinant_73 : decode b_Mo_determinant 73 = .ok (.lstore_n 3, 1) := by decide +kernel
theorem d_Mo_determinant_74 : decode b_Mo_determinant 74 = .ok (.lload_n 1, 1) := by decide +kernel
theorem d_Mo_determinant_75 : decode b_Mo_determinant 75 = .ok (.lload_n 3, 1) := by decide +kernel
theorem d_Mo_determinant_76 : decode b_Mo_determinant 76 = .ok (.ladd, 1) := by decide +kernel
theorem d_Mo_determinant_77 : decode b_Mo_determinant 77 = .ok (.aload_n 0, 1) := by decide +kernel
theorem d_Mo_determinant_78 : decode b_Mo_determinant 78 = .ok (.getfield 57, 3) := by decide +kernel
theorem d_Mo_determinant_81 : decode b_Mo_determinant 81 = .ok (.iconst (2), 1) := by decide +kernel
theorem d_Mo_determinant_82 : decode b_Mo_determinant 82 = .ok (.laload, 1) := by decide +kernel
theorem d_Mo_determinant_83 : decode b_Mo_determinant 83 = .ok (.aload_n 0, 1) := by decide +kernel
theorem d_Mo_determinant_84 : decode b_Mo_determinant 84 = .ok (.getfield 57, 3) := by decide +kernel
theorem d_Mo_determinant_87 : decode b_Mo_determinant 87 = .ok (.iconst (3), 1) := by decide +kernel
theorem d_Mo_determinant_88 : decode b_Mo_determinant 88 = .ok (.laload, 1) := by decide +kernel
theorem d_Mo_determinant_89 : decode b_Mo_determinant 89 = .ok (.aload_n 0, 1) := by decide +kernel
theorem d_Mo_determinant_90 : decode b_Mo_determinant 90 = .ok (.getfield 57, 3) := by decide +kernel
theorem d_Mo_determinant_93 : decode b_Mo_determinant 93 = .ok (.bipush (7), 2) := by decide +kernel
theorem d_Mo_determinant_95 : decode b_Mo_determinant 95 = .ok (.laload, 1) := by decide +kernel
theorem d_Mo_determinant_96 : decode b_Mo_determinant 96 = .ok (.lmul, 1) := by decide +kernel
theorem d_Mo_determinant_97 : decode b_Mo_determinant 97 = .ok (.aload_n 0, 1) := by decide +kernel
theorem d_Mo_determinant_98 : decode b_Mo_determinant 98 = .ok (.getfield 57, 3) := by decide +kernel
theorem d_Mo_determinant_101 : decode b_Mo_determinant 101 = .ok (.iconst (4), 1) := by decide +kernel
theorem d_Mo_determinant_102 : decode b_Mo_determinant 102 = .ok (.laload, 1) := by decide +kernel
theorem d_Mo_determinant_103 : decode b_Mo_determinant 103 = .ok (.aload_n 0, 1) := by decide +kernel
theorem d_Mo_determinant_104 : decode b_Mo_determinant 104 = .ok (.getfield 57, 3) := by decide +kernel
theorem d_Mo_determinant_107 : decode b_Mo_determinant 107 = .ok (.bipush (6), 2) := by decide +kernel
theorem d_Mo_determinant_109 : decode b_Mo_determinant 109 = .ok (.laload, 1) := by decide +kernel
theorem d_Mo_determinant_110 : decode b_Mo_determinant 110 = .ok (.lmul, 1) := by decide +kernel
theorem d_Mo_determinant_111 : decode b_Mo_determinant 111 = .ok (.lsub, 1) := by decide +kernel
theorem d_Mo_determinant_112 : decode b_Mo_determinant 112 = .ok (.lmul, 1) := by decide +kernel
theorem d_Mo_determinant_113 : decode b_Mo_determinant 113 = .ok (.ladd, 1) := by decide +kernel
theorem d_Mo_determinant_114 : decode b_Mo_determinant 114 = .ok (.lreturn, 1) := by decide +kernel
theorem d_Mo_point_0 : decode b_Mo_point 0 = .ok (.iload_n 0, 1) := by decide +kernel
theorem d_Mo_point_1 : decode b_Mo_point 1 = .ok (.ifCond .ne (9), 3) := by decide +kernel
theorem d_Mo_point_4 : decode b_Mo_point 4 = .ok (.sipush (31595), 3) := by decide +kernel
theorem d_Mo_point_7 : decode b_Mo_point 7 = .ok (.goto (16), 3) := by decide +kernel
theorem d_Mo_point_10 : decode b_Mo_point 10 = .ok (.iload_n 0, 1) := by decide +kernel
theorem d_Mo_point_11 : decode b_Mo_point 11 = .ok (.iconst (1), 1) := by decide +kernel
theorem d_Mo_point_12 : decode b_Mo_point 12 = .ok (.if_icmp .ne (8), 3) := by decide +kernel
theorem d_Mo_point_15 : decode b_Mo_point 15 = .ok (.ldc 98, 2) := by decide +kernel
theorem d_Mo_point_17 : decode b_Mo_point 17 = .ok (.goto (6), 3) := by decide +kernel
theorem d_Mo_point_20 : decode b_Mo_point 20 = .ok (.sipush (27030), 3) := by decide +kernel
theorem d_Mo_point_23 : decode b_Mo_point 23 = .ok (.ireturn, 1) := by decide +kernel
theorem d_Mo_white_0 : decode b_Mo_white 0 = .ok (.aload_n 0, 1) := by decide +kernel
theorem d_Mo_white_1 : decode b_Mo_white 1 = .ok (.iload_n 1, 1) := by decide +kernel
theorem d_Mo_white_2 : decode b_Mo_white 2 = .ok (.bipush (12), 2) := by decide +kernel
theorem d_Mo_white_4 : decode b_Mo_white 4 = .ok (.invokevirtual 88, 3) := by decide +kernel
theorem d_Mo_white_7 : decode b_Mo_white 7 = .ok (.istore_n 3, 1) := by decide +kernel
theorem d_Mo_white_8 : decode b_Mo_white 8 = .ok (.iload_n 3, 1) := by decide +kernel
theorem d_Mo_white_9 : decode b_Mo_white 9 = .ok (.ifCond .ge (10), 3) := by decide +kernel
theorem d_Mo_white_12 : decode b_Mo_white 12 = .ok (.iload_n 2, 1) := by decide +kernel
theorem d_Mo_white_13 : decode b_Mo_white 13 = .ok (.invokestatic 91, 3) := by decide +kernel
theorem d_Mo_white_16 : decode b_Mo_white 16 = .ok (.goto (15), 3) := by decide +kernel
theorem d_Mo_white_19 : decode b_Mo_white 19 = .ok (.aload_n 0, 1) := by decide +kernel
theorem d_Mo_white_20 : decode b_Mo_white 20 = .ok (.iload_n 1, 1) := by decide +kernel
theorem d_Mo_white_21 : decode b_Mo_white 21 = .ok (.iload_n 3, 1) := by decide +kernel
theorem d_Mo_white_22 : decode b_Mo_white 22 = .ok (.iconst (2), 1) := by decide +kernel
theorem d_Mo_white_23 : decode b_Mo_white 23 = .ok (.iadd, 1) := by decide +kernel
theorem d_Mo_white_24 : decode b_Mo_white 24 = .ok (.iconst (2), 1) := by decide +kernel
theorem d_Mo_white_25 : decode b_Mo_white 25 = .ok (.iload_n 2, 1) := by decide +kernel
theorem d_Mo_white_26 : decode b_Mo_white 26 = .ok (.imul, 1) := by decide +kernel
theorem d_Mo_white_27 : decode b_Mo_white 27 = .ok (.iadd, 1) := by decide +kernel
theorem d_Mo_white_28 : decode b_Mo_white 28 = .ok (.invokevirtual 95, 3) := by decide +kernel
theorem d_Mo_white_31 : decode b_Mo_white 31 = .ok (.ireturn, 1) := by decide +kernel
theorem d_Mo_otherWhite_0 : decode b_Mo_otherWhite 0 = .ok (.iconst (0), 1) := by decide +kernel
theorem d_Mo_otherWhite_1 : decode b_Mo_otherWhite 1 = .ok (.istore_n 3, 1) := by decide +kernel
theorem d_Mo_otherWhite_2 : decode b_Mo_otherWhite 2 = .ok (.iconst (0), 1) := by decide +kernel
theorem d_Mo_otherWhite_3 : decode b_Mo_otherWhite 3 = .ok (.istore 4, 2) := by decide +kernel
theorem d_Mo_otherWhite_5 : decode b_Mo_otherWhite 5 = .ok (.iload 4, 2) := by decide +kernel
theorem d_Mo_otherWhite_7 : decode b_Mo_otherWhite 7 = .ok (.iconst (3), 1) := by decide +kernel
theorem d_Mo_otherWhite_8 : decode b_Mo_otherWhite 8 = .ok (.if_icmp .ge (36), 3) := by decide +kernel
theorem d_Mo_otherWhite_11 : decode b_Mo_otherWhite 11 = .ok (.iload_n 3, 1) := by decide +kernel
theorem d_Mo_otherWhite_12 : decode b_Mo_otherWhite 12 = .ok (.ifCond .ne (20), 3) := by decide +kernel
theorem d_Mo_otherWhite_15 : decode b_Mo_otherWhite 15 = .ok (.aload_n 0, 1) := by decide +kernel
theorem d_Mo_otherWhite_16 : decode b_Mo_otherWhite 16 = .ok (.iload_n 1, 1) := by decide +kernel
theorem d_Mo_otherWhite_17 : decode b_Mo_otherWhite 17 = .ok (.iload 4, 2) := by decide +kernel
theorem d_Mo_otherWhite_19 : decode b_Mo_otherWhite 19 = .ok (.invokevirtual 177, 3) := by decide +kernel
theorem d_Mo_otherWhite_22 : decode b_Mo_otherWhite 22 = .ok (.aload_n 0, 1) := by decide +kernel
theorem d_Mo_otherWhite_23 : decode b_Mo_otherWhite 23 = .ok (.iload_n 2, 1) := by decide +kernel
theorem d_Mo_otherWhite_24 : decode b_Mo_otherWhite 24 = .ok (.iload 4, 2) := by decide +kernel
theorem d_Mo_otherWhite_26 : decode b_Mo_otherWhite 26 = .ok (.invokevirtual 177, 3) := by decide +kernel
theorem d_Mo_otherWhite_29 : decode b_Mo_otherWhite 29 = .ok (.if_icmp .eq (7), 3) := by decide +kernel
theorem d_Mo_otherWhite_32 : decode b_Mo_otherWhite 32 = .ok (.iconst (1), 1) := by decide +kernel
theorem d_Mo_otherWhite_33 : decode b_Mo_otherWhite 33 = .ok (.goto (4), 3) := by decide +kernel
theorem d_Mo_otherWhite_36 : decode b_Mo_otherWhite 36 = .ok (.iconst (0), 1) := by decide +kernel
theorem d_Mo_otherWhite_37 : decode b_Mo_otherWhite 37 = .ok (.istore_n 3, 1) := by decide +kernel
theorem d_Mo_otherWhite_38 : decode b_Mo_otherWhite 38 = .ok (.iinc 4 (1), 3) := by decide +kernel
theorem d_Mo_otherWhite_41 : decode b_Mo_otherWhite 41 = .ok (.goto (-36), 3) := by decide +kernel
theorem d_Mo_otherWhite_44 : decode b_Mo_otherWhite 44 = .ok (.iload_n 3, 1) := by decide +kernel
theorem d_Mo_otherWhite_45 : decode b_Mo_otherWhite 45 = .ok (.ireturn, 1) := by decide +kernel
theorem d_Mo_plain_0 : decode b_Mo_plain 0 = .ok (.aload_n 0, 1) := by decide +kernel
theorem d_Mo_plain_1 : decode b_Mo_plain 1 = .ok (.iload_n 1, 1) := by decide +kernel
theorem d_Mo_plain_2 : decode b_Mo_plain 2 = .ok (.iload_n 2, 1) := by decide +kernel
theorem d_Mo_plain_3 : decode b_Mo_plain 3 = .ok (.invokevirtual 88, 3) := by decide +kernel
theorem d_Mo_plain_6 : decode b_Mo_plain 6 = .ok (.istore_n 3, 1) := by decide +kernel
theorem d_Mo_plain_7 : decode b_Mo_plain 7 = .ok (.aload_n 0, 1) := by decide +kernel
theorem d_Mo_plain_8 : decode b_Mo_plain 8 = .ok (.iload_n 1, 1) := by decide +kernel
theorem d_Mo_plain_9 : decode b_Mo_plain 9 = .ok (.iload_n 3, 1) := by decide +kernel
theorem d_Mo_plain_10 : decode b_Mo_plain 10 = .ok (.invokevirtual 79, 3) := by decide +kernel
theorem d_Mo_plain_13 : decode b_Mo_plain 13 = .ok (.iconst (1), 1) := by decide +kernel
theorem d_Mo_plain_14 : decode b_Mo_plain 14 = .ok (.if_icmp .ne (18), 3) := by decide +kernel
theorem d_Mo_plain_17 : decode b_Mo_plain 17 = .ok (.aload_n 0, 1) := by decide +kernel
theorem d_Mo_plain_18 : decode b_Mo_plain 18 = .ok (.iload_n 1, 1) := by decide +kernel
theorem d_Mo_plain_19 : decode b_Mo_plain 19 = .ok (.iload_n 3, 1) := by decide +kernel
theorem d_Mo_plain_20 : decode b_Mo_plain 20 = .ok (.iconst (1), 1) := by decide +kernel
theorem d_Mo_plain_21 : decode b_Mo_plain 21 = .ok (.iadd, 1) := by decide +kernel
theorem d_Mo_plain_22 : decode b_Mo_plain 22 = .ok (.invokevirtual 79, 3) := by decide +kernel
theorem d_Mo_plain_25 : decode b_Mo_plain 25 = .ok (.ifCond .ne (7), 3) := by decide +kernel
theorem d_Mo_plain_28 : decode b_Mo_plain 28 = .ok (.iconst (1), 1) := by decide +kernel
theorem d_Mo_plain_29 : decode b_Mo_plain 29 = .ok (.goto (4), 3) := by decide +kernel
theorem d_Mo_plain_32 : decode b_Mo_plain 32 = .ok (.iconst (0), 1) := by decide +kernel
theorem d_Mo_plain_33 : decode b_Mo_plain 33 = .ok (.ireturn, 1) := by decide +kernel
theorem d_Mo_put_0 : decode b_Mo_put 0 = .ok (.aload_n 0, 1) := by decide +kernel
theorem d_Mo_put_1 : decode b_Mo_put 1 = .ok (.getfield 36, 3) := by decide +kernel
theorem d_Mo_put_4 : decode b_Mo_put 4 = .ok (.aload_n 0, 1) := by decide +kernel
theorem d_Mo_put_5 : decode b_Mo_put 5 = .ok (.getfield 141, 3) := by decide +kernel
theorem d_Mo_put_8 : decode b_Mo_put 8 = .ok (.iload_n 1, 1) := by decide +kernel
theorem d_Mo_put_9 : decode b_Mo_put 9 = .ok (.iastore, 1) := by decide +kernel
theorem d_Mo_put_10 : decode b_Mo_put 10 = .ok (.aload_n 0, 1) := by decide +kernel
theorem d_Mo_put_11 : decode b_Mo_put 11 = .ok (.getfield 39, 3) := by decide +kernel
theorem d_Mo_put_14 : decode b_Mo_put 14 = .ok (.aload_n 0, 1) := by decide +kernel
theorem d_Mo_put_15 : decode b_Mo_put 15 = .ok (.getfield 141, 3) := by decide +kernel
theorem d_Mo_put_18 : decode b_Mo_put 18 = .ok (.iload_n 2, 1) := by decide +kernel
theorem d_Mo_put_19 : decode b_Mo_put 19 = .ok (.iastore, 1) := by decide +kernel
theorem d_Mo_put_20 : decode b_Mo_put 20 = .ok (.aload_n 0, 1) := by decide +kernel
theorem d_Mo_put_21 : decode b_Mo_put 21 = .ok (.getfield 42, 3) := by decide +kernel
theorem d_Mo_put_24 : decode b_Mo_put 24 = .ok (.aload_n 0, 1) := by decide +kernel
theorem d_Mo_put_25 : decode b_Mo_put 25 = .ok (.getfield 141, 3) := by decide +kernel
theorem d_Mo_put_28 : decode b_Mo_put 28 = .ok (.iload_n 3, 1) := by decide +kernel
theorem d_Mo_put_29 : decode b_Mo_put 29 = .ok (.iastore, 1) := by decide +kernel
theorem d_Mo_put_30 : decode b_Mo_put 30 = .ok (.aload_n 0, 1) := by decide +kernel
theorem d_Mo_put_31 : decode b_Mo_put 31 = .ok (.getfield 45, 3) := by decide +kernel
theorem d_Mo_put_34 : decode b_Mo_put 34 = .ok (.aload_n 0, 1) := by decide +kernel
theorem d_Mo_put_35 : decode b_Mo_put 35 = .ok (.getfield 141, 3) := by decide +kernel
theorem d_Mo_put_38 : decode b_Mo_put 38 = .ok (.iload 4, 2) := by decide +kernel
theorem d_Mo_put_40 : decode b_Mo_put 40 = .ok (.iastore, 1) := by decide +kernel
theorem d_Mo_put_41 : decode b_Mo_put 41 = .ok (.aload_n 0, 1) := by decide +kernel
theorem d_Mo_put_42 : decode b_Mo_put 42 = .ok (.dup, 1) := by decide +kernel
theorem d_Mo_put_43 : decode b_Mo_put 43 = .ok (.getfield 141, 3) := by decide +kernel
theorem d_Mo_put_46 : decode b_Mo_put 46 = .ok (.iconst (1), 1) := by decide +kernel
theorem d_Mo_put_47 : decode b_Mo_put 47 = .ok (.iadd, 1) := by decide +kernel
theorem d_Mo_put_48 : decode b_Mo_put 48 = .ok (.putfield 141, 3) := by decide +kernel
theorem d_Mo_put_51 : decode b_Mo_put 51 = .ok (.return_, 1) := by decide +kernel
theorem d_Mo_putCurves_0 : decode b_Mo_putCurves 0 = .ok (.aload_n 0, 1) := by decide +kernel
theorem d_Mo_putCurves_1 : decode b_Mo_putCurves 1 = .ok (.iload_n 2, 1) := by decide +kernel
theorem d_Mo_putCurves_2 : decode b_Mo_putCurves 2 = .ok (.invokevirtual 144, 3) := by decide +kernel
theorem d_Mo_putCurves_5 : decode b_Mo_putCurves 5 = .ok (.ifCond .eq (12), 3) := by decide +kernel
theorem d_Mo_putCurves_8 : decode b_Mo_putCurves 8 = .ok (.aload_n 0, 1) := by decide +kernel
theorem d_Mo_putCurves_9 : decode b_Mo_putCurves 9 = .ok (.iload_n 2, 1) := by decide +kernel
theorem d_Mo_putCurves_10 : decode b_Mo_putCurves 10 = .ok (.iconst (1), 1) := by decide +kernel
theorem d_Mo_putCurves_11 : decode b_Mo_putCurves 11 = .ok (.invokevirtual 147, 3) := by decide +kernel
theorem d_Mo_putCurves_14 : decode b_Mo_putCurves 14 = .ok (.goto (35), 3) := by decide +kernel
theorem d_Mo_putCurves_17 : decode b_Mo_putCurves 17 = .ok (.aload_n 0, 1) := by decide +kernel
theorem d_Mo_putCurves_18 : decode b_Mo_putCurves 18 = .ok (.iload_n 2, 1) := by decide +kernel
theorem d_Mo_putCurves_19 : decode b_Mo_putCurves 19 = .ok (.iconst (2), 1) := by decide +kernel
theorem d_Mo_putCurves_20 : decode b_Mo_putCurves 20 = .ok (.invokevirtual 147, 3) := by decide +kernel
theorem d_Mo_putCurves_23 : decode b_Mo_putCurves 23 = .ok (.ifCond .eq (25), 3) := by decide +kernel
theorem d_Mo_putCurves_26 : decode b_Mo_putCurves 26 = .ok (.aload_n 0, 1) := by decide +kernel
theorem d_Mo_putCurves_27 : decode b_Mo_putCurves 27 = .ok (.iload_n 2, 1) := by decide +kernel
theorem d_Mo_putCurves_28 : decode b_Mo_putCurves 28 = .ok (.iconst (3), 1) := by decide +kernel
theorem d_Mo_putCurves_29 : decode b_Mo_putCurves 29 = .ok (.invokevirtual 147, 3) := by decide +kernel
theorem d_Mo_putCurves_32 : decode b_Mo_putCurves 32 = .ok (.ifCond .eq (16), 3) := by decide +kernel
theorem d_Mo_putCurves_35 : decode b_Mo_putCurves 35 = .ok (.aload_n 0, 1) := by decide +kernel
theorem d_Mo_putCurves_36 : decode b_Mo_putCurves 36 = .ok (.iload_n 2, 1) := by decide +kernel
theorem d_Mo_putCurves_37 : decode b_Mo_putCurves 37 = .ok (.iconst (4), 1) := by decide +kernel
theorem d_Mo_putCurves_38 : decode b_Mo_putCurves 38 = .ok (.invokevirtual 147, 3) := by decide +kernel
theorem d_Mo_putCurves_41 : decode b_Mo_putCurves 41 = .ok (.ifCond .eq (7), 3) := by decide +kernel
theorem d_Mo_putCurves_44 : decode b_Mo_putCurves 44 = .ok (.iconst (1), 1) := by decide +kernel
theorem d_Mo_putCurves_45 : decode b_Mo_putCurves 45 = .ok (.goto (4), 3) := by decide +kernel
theorem d_Mo_putCurves_48 : decode b_Mo_putCurves 48 = .ok (.iconst (0), 1) := by decide +kernel
theorem d_Mo_putCurves_49 : decode b_Mo_putCurves 49 = .ok (.istore_n 3, 1) := by decide +kernel
theorem d_Mo_putCurves_50 : decode b_Mo_putCurves 50 = .ok (.iload_n 3, 1) := by decide +kernel
theorem d_Mo_putCurves_51 : decode b_Mo_putCurves 51 = .ok (.ifCond .ne (11), 3) := by decide +kernel
theorem d_Mo_putCurves_54 : decode b_Mo_putCurves 54 = .ok (.aload_n 0, 1) := by decide +kernel
theorem d_Mo_putCurves_55 : decode b_Mo_putCurves 55 = .ok (.iload_n 1, 1) := by decide +kernel
theorem d_Mo_putCurves_56 : decode b_Mo_putCurves 56 = .ok (.iload_n 2, 1) := by decide +kernel
theorem d_Mo_putCurves_57 : decode b_Mo_putCurves 57 = .ok (.iconst (0), 1) := by decide +kernel
theorem d_Mo_putCurves_58 : decode b_Mo_putCurves 58 = .ok (.iconst (0), 1) := by decide +kernel
theorem d_Mo_putCurves_59 : decode b_Mo_putCurves 59 = .ok (.invokevirtual 150, 3) := by decide +kernel
theorem d_Mo_putCurves_62 : decode b_Mo_putCurves 62 = .ok (.return_, 1) := by decide +kernel
theorem d_Mo_putMatrix_0 : decode b_Mo_putMatrix 0 = .ok (.aload_n 0, 1) := by decide +kernel
theorem d_Mo_putMatrix_1 : decode b_Mo_putMatrix 1 = .ok (.iload_n 2, 1) := by decide +kernel
theorem d_Mo_putMatrix_2 : decode b_Mo_putMatrix 2 = .ok (.invokevirtual 154, 3) := by decide +kernel
theorem d_Mo_putMatrix_5 : decode b_Mo_putMatrix 5 = .ok (.iconst (1), 1) := by decide +kernel
theorem d_Mo_putMatrix_6 : decode b_Mo_putMatrix 6 = .ok (.istore_n 3, 1) := by decide +kernel
theorem d_Mo_putMatrix_7 : decode b_Mo_putMatrix 7 = .ok (.iconst (0), 1) := by decide +kernel
theorem d_Mo_putMatrix_8 : decode b_Mo_putMatrix 8 = .ok (.istore 4, 2) := by decide +kernel
theorem d_Mo_putMatrix_10 : decode b_Mo_putMatrix 10 = .ok (.iload 4, 2) := by decide +kernel
theorem d_Mo_putMatrix_12 : decode b_Mo_putMatrix 12 = .ok (.bipush (9), 2) := by decide +kernel
theorem d_Mo_putMatrix_14 : decode b_Mo_putMatrix 14 = .ok (.if_icmp .ge (44), 3) := by decide +kernel
theorem d_Mo_putMatrix_17 : decode b_Mo_putMatrix 17 = .ok (.iload_n 3, 1) := by decide +kernel
theorem d_Mo_putMatrix_18 : decode b_Mo_putMatrix 18 = .ok (.ifCond .eq (32), 3) := by decide +kernel
theorem d_Mo_putMatrix_21 : decode b_Mo_putMatrix 21 = .ok (.aload_n 0, 1) := by decide +kernel
theorem d_Mo_putMatrix_22 : decode b_Mo_putMatrix 22 = .ok (.getfield 57, 3) := by decide +kernel
theorem d_Mo_putMatrix_25 : decode b_Mo_putMatrix 25 = .ok (.iload 4, 2) := by decide +kernel
theorem d_Mo_putMatrix_27 : decode b_Mo_putMatrix 27 = .ok (.laload, 1) := by decide +kernel
theorem d_Mo_putMatrix_28 : decode b_Mo_putMatrix 28 = .ok (.iload 4, 2) := by decide +kernel
theorem d_Mo_putMatrix_30 : decode b_Mo_putMatrix 30 = .ok (.iconst (4), 1) := by decide +kernel
theorem d_Mo_putMatrix_31 : decode b_Mo_putMatrix 31 = .ok (.irem, 1) := by decide +kernel
theorem d_Mo_putMatrix_32 : decode b_Mo_putMatrix 32 = .ok (.ifCond .ne (9), 3) := by decide +kernel
theorem d_Mo_putMatrix_35 : decode b_Mo_putMatrix 35 = .ok (.ldc2_w 158, 3) := by decide +kernel
theorem d_Mo_putMatrix_38 : decode b_Mo_putMatrix 38 = .ok (.goto (4), 3) := by decide +kernel
theorem d_Mo_putMatrix_41 : decode b_Mo_putMatrix 41 = .ok (.lconst 0, 1) := by decide +kernel
theorem d_Mo_putMatrix_42 : decode b_Mo_putMatrix 42 = .ok (.lcmp, 1) := by decide +kernel
theorem d_Mo_putMatrix_43 : decode b_Mo_putMatrix 43 = .ok (.ifCond .ne (7), 3) := by decide +kernel
theorem d_Mo_putMatrix_46 : decode b_Mo_putMatrix 46 = .ok (.iconst (1), 1) := by decide +kernel
theorem d_Mo_putMatrix_47 : decode b_Mo_putMatrix 47 = .ok (.goto (4), 3) := by decide +kernel
theorem d_Mo_putMatrix_50 : decode b_Mo_putMatrix 50 = .ok (.iconst (0), 1) := by decide +kernel
theorem d_Mo_putMatrix_51 : decode b_Mo_putMatrix 51 = .ok (.istore_n 3, 1) := by decide +kernel
theorem d_Mo_putMatrix_52 : decode b_Mo_putMatrix 52 = .ok (.iinc 4 (1), 3) := by decide +kernel
theorem d_Mo_putMatrix_55 : decode b_Mo_putMatrix 55 = .ok (.goto (-45), 3) := by decide +kernel
theorem d_Mo_putMatrix_58 : decode b_Mo_putMatrix 58 = .ok (.iload_n 3, 1) := by decide +kernel
theorem d_Mo_putMatrix_59 : decode b_Mo_putMatrix 59 = .ok (.ifCond .ne (11), 3) := by decide +kernel
theorem d_Mo_putMatrix_62 : decode b_Mo_putMatrix 62 = .ok (.aload_n 0, 1) := by decide +kernel
theorem d_Mo_putMatrix_63 : decode b_Mo_putMatrix 63 = .ok (.iload_n 1, 1) := by decide +kernel
theorem d_Mo_putMatrix_64 : decode b_Mo_putMatrix 64 = .ok (.iload_n 2, 1) := by decide +kernel
theorem d_Mo_putMatrix_65 : decode b_Mo_putMatrix 65 = .ok (.iconst (0), 1) := by decide +kernel
theorem d_Mo_putMatrix_66 : decode b_Mo_putMatrix 66 = .ok (.iconst (0), 1) := by decide +kernel
theorem d_Mo_putMatrix_67 : decode b_Mo_putMatrix 67 = .ok (.invokevirtual 150, 3) := by decide +kernel
theorem d_Mo_putMatrix_70 : decode b_Mo_putMatrix 70 = .ok (.return_, 1) := by decide +kernel
theorem d_Mo_forth_0 : decode b_Mo_forth 0 = .ok (.aload_n 0, 1) := by decide +kernel
theorem d_Mo_forth_1 : decode b_Mo_forth 1 = .ok (.iload_n 1, 1) := by decide +kernel
theorem d_Mo_forth_2 : decode b_Mo_forth 2 = .ok (.bipush (6), 2) := by decide +kernel
theorem d_Mo_forth_4 : decode b_Mo_forth 4 = .ok (.iload_n 2, 1) := by decide +kernel
theorem d_Mo_forth_5 : decode b_Mo_forth 5 = .ok (.invokevirtual 161, 3) := by decide +kernel
theorem d_Mo_forth_8 : decode b_Mo_forth 8 = .ok (.istore_n 3, 1) := by decide +kernel
theorem d_Mo_forth_9 : decode b_Mo_forth 9 = .ok (.aload_n 0, 1) := by decide +kernel
theorem d_Mo_forth_10 : decode b_Mo_forth 10 = .ok (.iload_n 1, 1) := by decide +kernel
theorem d_Mo_forth_11 : decode b_Mo_forth 11 = .ok (.invokevirtual 144, 3) := by decide +kernel
theorem d_Mo_forth_14 : decode b_Mo_forth 14 = .ok (.ifCond .eq (20), 3) := by decide +kernel
theorem d_Mo_forth_17 : decode b_Mo_forth 17 = .ok (.aload_n 0, 1) := by decide +kernel
theorem d_Mo_forth_18 : decode b_Mo_forth 18 = .ok (.iconst (1), 1) := by decide +kernel
theorem d_Mo_forth_19 : decode b_Mo_forth 19 = .ok (.iload_n 1, 1) := by decide +kernel
theorem d_Mo_forth_20 : decode b_Mo_forth 20 = .ok (.invokevirtual 164, 3) := by decide +kernel
theorem d_Mo_forth_23 : decode b_Mo_forth 23 = .ok (.aload_n 0, 1) := by decide +kernel
theorem d_Mo_forth_24 : decode b_Mo_forth 24 = .ok (.iconst (4), 1) := by decide +kernel
theorem d_Mo_forth_25 : decode b_Mo_forth 25 = .ok (.iload_n 1, 1) := by decide +kernel
theorem d_Mo_forth_26 : decode b_Mo_forth 26 = .ok (.iconst (0), 1) := by decide +kernel
theorem d_Mo_forth_27 : decode b_Mo_forth 27 = .ok (.iconst (0), 1) := by decide +kernel
theorem d_Mo_forth_28 : decode b_Mo_forth 28 = .ok (.invokevirtual 150, 3) := by decide +kernel
theorem d_Mo_forth_31 : decode b_Mo_forth 31 = .ok (.goto (30), 3) := by decide +kernel
theorem d_Mo_forth_34 : decode b_Mo_forth 34 = .ok (.iload_n 3, 1) := by decide +kernel
theorem d_Mo_forth_35 : decode b_Mo_forth 35 = .ok (.ifCond .le (14), 3) := by decide +kernel
theorem d_Mo_forth_38 : decode b_Mo_forth 38 = .ok (.aload_n 0, 1) := by decide +kernel
theorem d_Mo_forth_39 : decode b_Mo_forth 39 = .ok (.iconst (3), 1) := by decide +kernel
theorem d_Mo_forth_40 : decode b_Mo_forth 40 = .ok (.iload_n 1, 1) := by decide +kernel
theorem d_Mo_forth_41 : decode b_Mo_forth 41 = .ok (.iload_n 3, 1) := by decide +kernel
theorem d_Mo_forth_42 : decode b_Mo_forth 42 = .ok (.iconst (0), 1) := by decide +kernel
theorem d_Mo_forth_43 : decode b_Mo_forth 43 = .ok (.invokevirtual 150, 3) := by decide +kernel
theorem d_Mo_forth_46 : decode b_Mo_forth 46 = .ok (.goto (15), 3) := by decide +kernel
theorem d_Mo_forth_49 : decode b_Mo_forth 49 = .ok (.aload_n 0, 1) := by decide +kernel
theorem d_Mo_forth_50 : decode b_Mo_forth 50 = .ok (.iconst (1), 1) := by decide +kernel
theorem d_Mo_forth_51 : decode b_Mo_forth 51 = .ok (.iload_n 1, 1) := by decide +kernel
theorem d_Mo_forth_52 : decode b_Mo_forth 52 = .ok (.invokevirtual 164, 3) := by decide +kernel
theorem d_Mo_forth_55 : decode b_Mo_forth 55 = .ok (.aload_n 0, 1) := by decide +kernel
theorem d_Mo_forth_56 : decode b_Mo_forth 56 = .ok (.iconst (2), 1) := by decide +kernel
theorem d_Mo_forth_57 : decode b_Mo_forth 57 = .ok (.iload_n 1, 1) := by decide +kernel
theorem d_Mo_forth_58 : decode b_Mo_forth 58 = .ok (.invokevirtual 168, 3) := by decide +kernel
theorem d_Mo_forth_61 : decode b_Mo_forth 61 = .ok (.return_, 1) := by decide +kernel
