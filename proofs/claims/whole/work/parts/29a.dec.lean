theorem d_Mo_toLab_0 : decode b_Mo_toLab 0 = .ok (.aload_n 0, 1) := by decide +kernel
theorem d_Mo_toLab_1 : decode b_Mo_toLab 1 = .ok (.getfield 54, 3) := by decide +kernel
theorem d_Mo_toLab_4 : decode b_Mo_toLab 4 = .ok (.iconst (0), 1) := by decide +kernel
theorem d_Mo_toLab_5 : decode b_Mo_toLab 5 = .ok (.laload, 1) := by decide +kernel
theorem d_Mo_toLab_6 : decode b_Mo_toLab 6 = .ok (.ldc2_w 272, 3) := by decide +kernel
theorem d_Mo_toLab_9 : decode b_Mo_toLab 9 = .ok (.invokestatic 274, 3) := by decide +kernel
theorem d_Mo_toLab_12 : decode b_Mo_toLab 12 = .ok (.lstore_n 1, 1) := by decide +kernel
theorem d_Mo_toLab_13 : decode b_Mo_toLab 13 = .ok (.aload_n 0, 1) := by decide +kernel
theorem d_Mo_toLab_14 : decode b_Mo_toLab 14 = .ok (.getfield 54, 3) := by decide +kernel
theorem d_Mo_toLab_17 : decode b_Mo_toLab 17 = .ok (.iconst (1), 1) := by decide +kernel
theorem d_Mo_toLab_18 : decode b_Mo_toLab 18 = .ok (.laload, 1) := by decide +kernel
theorem d_Mo_toLab_19 : decode b_Mo_toLab 19 = .ok (.ldc2_w 131, 3) := by decide +kernel
theorem d_Mo_toLab_22 : decode b_Mo_toLab 22 = .ok (.invokestatic 274, 3) := by decide +kernel
theorem d_Mo_toLab_25 : decode b_Mo_toLab 25 = .ok (.lstore_n 3, 1) := by decide +kernel
theorem d_Mo_toLab_26 : decode b_Mo_toLab 26 = .ok (.aload_n 0, 1) := by decide +kernel
theorem d_Mo_toLab_27 : decode b_Mo_toLab 27 = .ok (.getfield 54, 3) := by decide +kernel
theorem d_Mo_toLab_30 : decode b_Mo_toLab 30 = .ok (.iconst (2), 1) := by decide +kernel
theorem d_Mo_toLab_31 : decode b_Mo_toLab 31 = .ok (.laload, 1) := by decide +kernel
theorem d_Mo_toLab_32 : decode b_Mo_toLab 32 = .ok (.ldc2_w 277, 3) := by decide +kernel
theorem d_Mo_toLab_35 : decode b_Mo_toLab 35 = .ok (.invokestatic 274, 3) := by decide +kernel
theorem d_Mo_toLab_38 : decode b_Mo_toLab 38 = .ok (.lstore 5, 2) := by decide +kernel
theorem d_Mo_toLab_40 : decode b_Mo_toLab 40 = .ok (.aload_n 0, 1) := by decide +kernel
theorem d_Mo_toLab_41 : decode b_Mo_toLab 41 = .ok (.getfield 51, 3) := by decide +kernel
theorem d_Mo_toLab_44 : decode b_Mo_toLab 44 = .ok (.iconst (0), 1) := by decide +kernel
theorem d_Mo_toLab_45 : decode b_Mo_toLab 45 = .ok (.ldc2_w 279, 3) := by decide +kernel
theorem d_Mo_toLab_48 : decode b_Mo_toLab 48 = .ok (.lload_n 3, 1) := by decide +kernel
theorem d_Mo_toLab_49 : decode b_Mo_toLab 49 = .ok (.lmul, 1) := by decide +kernel
theorem d_Mo_toLab_50 : decode b_Mo_toLab 50 = .ok (.ldc2_w 281, 3) := by decide +kernel
theorem d_Mo_toLab_53 : decode b_Mo_toLab 53 = .ok (.lsub, 1) := by decide +kernel
theorem d_Mo_toLab_54 : decode b_Mo_toLab 54 = .ok (.ldc2_w 112, 3) := by decide +kernel
theorem d_Mo_toLab_57 : decode b_Mo_toLab 57 = .ok (.lmul, 1) := by decide +kernel
theorem d_Mo_toLab_58 : decode b_Mo_toLab 58 = .ok (.ldc2_w 283, 3) := by decide +kernel
theorem d_Mo_toLab_61 : decode b_Mo_toLab 61 = .ok (.invokestatic 124, 3) := by decide +kernel
theorem d_Mo_toLab_64 : decode b_Mo_toLab 64 = .ok (.lastore, 1) := by decide +kernel
theorem d_Mo_toLab_65 : decode b_Mo_toLab 65 = .ok (.aload_n 0, 1) := by decide +kernel
theorem d_Mo_toLab_66 : decode b_Mo_toLab 66 = .ok (.getfield 51, 3) := by decide +kernel
theorem d_Mo_toLab_69 : decode b_Mo_toLab 69 = .ok (.iconst (1), 1) := by decide +kernel
theorem d_Mo_toLab_70 : decode b_Mo_toLab 70 = .ok (.ldc2_w 258, 3) := by decide +kernel
theorem d_Mo_toLab_73 : decode b_Mo_toLab 73 = .ok (.ldc2_w 285, 3) := by decide +kernel
theorem d_Mo_toLab_76 : decode b_Mo_toLab 76 = .ok (.lload_n 1, 1) := by decide +kernel
theorem d_Mo_toLab_77 : decode b_Mo_toLab 77 = .ok (.lload_n 3, 1) := by decide +kernel
theorem d_Mo_toLab_78 : decode b_Mo_toLab 78 = .ok (.lsub, 1) := by decide +kernel
theorem d_Mo_toLab_79 : decode b_Mo_toLab 79 = .ok (.lmul, 1) := by decide +kernel
theorem d_Mo_toLab_80 : decode b_Mo_toLab 80 = .ok (.ldc2_w 268, 3) := by decide +kernel
theorem d_Mo_toLab_83 : decode b_Mo_toLab 83 = .ok (.invokestatic 114, 3) := by decide +kernel
theorem d_Mo_toLab_86 : decode b_Mo_toLab 86 = .ok (.ladd, 1) := by decide +kernel
theorem d_Mo_toLab_87 : decode b_Mo_toLab 87 = .ok (.invokestatic 118, 3) := by decide +kernel
theorem d_Mo_toLab_90 : decode b_Mo_toLab 90 = .ok (.lastore, 1) := by decide +kernel
theorem d_Mo_toLab_91 : decode b_Mo_toLab 91 = .ok (.aload_n 0, 1) := by decide +kernel
theorem d_Mo_toLab_92 : decode b_Mo_toLab 92 = .ok (.getfield 51, 3) := by decide +kernel
theorem d_Mo_toLab_95 : decode b_Mo_toLab 95 = .ok (.iconst (2), 1) := by decide +kernel
theorem d_Mo_toLab_96 : decode b_Mo_toLab 96 = .ok (.ldc2_w 258, 3) := by decide +kernel
theorem d_Mo_toLab_99 : decode b_Mo_toLab 99 = .ok (.ldc2_w 287, 3) := by decide +kernel
theorem d_Mo_toLab_102 : decode b_Mo_toLab 102 = .ok (.lload_n 3, 1) := by decide +kernel
theorem d_Mo_toLab_103 : decode b_Mo_toLab 103 = .ok (.lload 5, 2) := by decide +kernel
theorem d_Mo_toLab_105 : decode b_Mo_toLab 105 = .ok (.lsub, 1) := by decide +kernel
theorem d_Mo_toLab_106 : decode b_Mo_toLab 106 = .ok (.lmul, 1) := by decide +kernel
theorem d_Mo_toLab_107 : decode b_Mo_toLab 107 = .ok (.ldc2_w 268, 3) := by decide +kernel
theorem d_Mo_toLab_110 : decode b_Mo_toLab 110 = .ok (.invokestatic 114, 3) := by decide +kernel
theorem d_Mo_toLab_113 : decode b_Mo_toLab 113 = .ok (.ladd, 1) := by decide +kernel
theorem d_Mo_toLab_114 : decode b_Mo_toLab 114 = .ok (.invokestatic 118, 3) := by decide +kernel
theorem d_Mo_toLab_117 : decode b_Mo_toLab 117 = .ok (.lastore, 1) := by decide +kernel
theorem d_Mo_toLab_118 : decode b_Mo_toLab 118 = .ok (.return_, 1) := by decide +kernel
theorem d_Mo_cube_0 : decode b_Mo_cube 0 = .ok (.lload_n 0, 1) := by decide +kernel
theorem d_Mo_cube_1 : decode b_Mo_cube 1 = .ok (.ldc2_w 289, 3) := by decide +kernel
theorem d_Mo_cube_4 : decode b_Mo_cube 4 = .ok (.lcmp, 1) := by decide +kernel
theorem d_Mo_cube_5 : decode b_Mo_cube 5 = .ok (.ifCond .le (17), 3) := by decide +kernel
theorem d_Mo_cube_8 : decode b_Mo_cube 8 = .ok (.lload_n 0, 1) := by decide +kernel
theorem d_Mo_cube_9 : decode b_Mo_cube 9 = .ok (.lload_n 0, 1) := by decide +kernel
theorem d_Mo_cube_10 : decode b_Mo_cube 10 = .ok (.lmul, 1) := by decide +kernel
theorem d_Mo_cube_11 : decode b_Mo_cube 11 = .ok (.lload_n 0, 1) := by decide +kernel
theorem d_Mo_cube_12 : decode b_Mo_cube 12 = .ok (.lmul, 1) := by decide +kernel
theorem d_Mo_cube_13 : decode b_Mo_cube 13 = .ok (.ldc2_w 270, 3) := by decide +kernel
theorem d_Mo_cube_16 : decode b_Mo_cube 16 = .ok (.invokestatic 114, 3) := by decide +kernel
theorem d_Mo_cube_19 : decode b_Mo_cube 19 = .ok (.goto (18), 3) := by decide +kernel
theorem d_Mo_cube_22 : decode b_Mo_cube 22 = .ok (.lload_n 0, 1) := by decide +kernel
theorem d_Mo_cube_23 : decode b_Mo_cube 23 = .ok (.ldc2_w 266, 3) := by decide +kernel
theorem d_Mo_cube_26 : decode b_Mo_cube 26 = .ok (.lsub, 1) := by decide +kernel
theorem d_Mo_cube_27 : decode b_Mo_cube 27 = .ok (.ldc2_w 264, 3) := by decide +kernel
theorem d_Mo_cube_30 : decode b_Mo_cube 30 = .ok (.lmul, 1) := by decide +kernel
theorem d_Mo_cube_31 : decode b_Mo_cube 31 = .ok (.ldc2_w 262, 3) := by decide +kernel
theorem d_Mo_cube_34 : decode b_Mo_cube 34 = .ok (.invokestatic 114, 3) := by decide +kernel
theorem d_Mo_cube_37 : decode b_Mo_cube 37 = .ok (.lreturn, 1) := by decide +kernel
theorem d_Mo_toXyz_0 : decode b_Mo_toXyz 0 = .ok (.ldc2_w 291, 3) := by decide +kernel
theorem d_Mo_toXyz_3 : decode b_Mo_toXyz 3 = .ok (.aload_n 0, 1) := by decide +kernel
theorem d_Mo_toXyz_4 : decode b_Mo_toXyz 4 = .ok (.getfield 54, 3) := by decide +kernel
theorem d_Mo_toXyz_7 : decode b_Mo_toXyz 7 = .ok (.iconst (0), 1) := by decide +kernel
theorem d_Mo_toXyz_8 : decode b_Mo_toXyz 8 = .ok (.laload, 1) := by decide +kernel
theorem d_Mo_toXyz_9 : decode b_Mo_toXyz 9 = .ok (.lmul, 1) := by decide +kernel
theorem d_Mo_toXyz_10 : decode b_Mo_toXyz 10 = .ok (.ldc2_w 293, 3) := by decide +kernel
theorem d_Mo_toXyz_13 : decode b_Mo_toXyz 13 = .ok (.ladd, 1) := by decide +kernel
theorem d_Mo_toXyz_14 : decode b_Mo_toXyz 14 = .ok (.ldc2_w 268, 3) := by decide +kernel
theorem d_Mo_toXyz_17 : decode b_Mo_toXyz 17 = .ok (.lmul, 1) := by decide +kernel
theorem d_Mo_toXyz_18 : decode b_Mo_toXyz 18 = .ok (.ldc2_w 295, 3) := by decide +kernel
theorem d_Mo_toXyz_21 : decode b_Mo_toXyz 21 = .ok (.invokestatic 114, 3) := by decide +kernel
theorem d_Mo_toXyz_24 : decode b_Mo_toXyz 24 = .ok (.lstore_n 1, 1) := by decide +kernel
theorem d_Mo_toXyz_25 : decode b_Mo_toXyz 25 = .ok (.lload_n 1, 1) := by decide +kernel
theorem d_Mo_toXyz_26 : decode b_Mo_toXyz 26 = .ok (.aload_n 0, 1) := by decide +kernel
theorem d_Mo_toXyz_27 : decode b_Mo_toXyz 27 = .ok (.getfield 54, 3) := by decide +kernel
theorem d_Mo_toXyz_30 : decode b_Mo_toXyz 30 = .ok (.iconst (1), 1) := by decide +kernel
theorem d_Mo_toXyz_31 : decode b_Mo_toXyz 31 = .ok (.laload, 1) := by decide +kernel
theorem d_Mo_toXyz_32 : decode b_Mo_toXyz 32 = .ok (.ldc2_w 258, 3) := by decide +kernel
theorem d_Mo_toXyz_35 : decode b_Mo_toXyz 35 = .ok (.lsub, 1) := by decide +kernel
theorem d_Mo_toXyz_36 : decode b_Mo_toXyz 36 = .ok (.ldc2_w 268, 3) := by decide +kernel
theorem d_Mo_toXyz_39 : decode b_Mo_toXyz 39 = .ok (.lmul, 1) := by decide +kernel
theorem d_Mo_toXyz_40 : decode b_Mo_toXyz 40 = .ok (.ldc2_w 285, 3) := by decide +kernel
theorem d_Mo_toXyz_43 : decode b_Mo_toXyz 43 = .ok (.invokestatic 114, 3) := by decide +kernel
theorem d_Mo_toXyz_46 : decode b_Mo_toXyz 46 = .ok (.ladd, 1) := by decide +kernel
theorem d_Mo_toXyz_47 : decode b_Mo_toXyz 47 = .ok (.lstore_n 3, 1) := by decide +kernel
theorem d_Mo_toXyz_48 : decode b_Mo_toXyz 48 = .ok (.lload_n 1, 1) := by decide +kernel
theorem d_Mo_toXyz_49 : decode b_Mo_toXyz 49 = .ok (.aload_n 0, 1) := by decide +kernel
theorem d_Mo_toXyz_50 : decode b_Mo_toXyz 50 = .ok (.getfield 54, 3) := by decide +kernel
theorem d_Mo_toXyz_53 : decode b_Mo_toXyz 53 = .ok (.iconst (2), 1) := by decide +kernel
theorem d_Mo_toXyz_54 : decode b_Mo_toXyz 54 = .ok (.laload, 1) := by decide +kernel
theorem d_Mo_toXyz_55 : decode b_Mo_toXyz 55 = .ok (.ldc2_w 258, 3) := by decide +kernel
theorem d_Mo_toXyz_58 : decode b_Mo_toXyz 58 = .ok (.lsub, 1) := by decide +kernel
theorem d_Mo_toXyz_59 : decode b_Mo_toXyz 59 = .ok (.ldc2_w 268, 3) := by decide +kernel
theorem d_Mo_toXyz_62 : decode b_Mo_toXyz 62 = .ok (.lmul, 1) := by decide +kernel
theorem d_Mo_toXyz_63 : decode b_Mo_toXyz 63 = .ok (.ldc2_w 287, 3) := by decide +kernel
theorem d_Mo_toXyz_66 : decode b_Mo_toXyz 66 = .ok (.invokestatic 114, 3) := by decide +kernel
theorem d_Mo_toXyz_69 : decode b_Mo_toXyz 69 = .ok (.lsub, 1) := by decide +kernel
theorem d_Mo_toXyz_70 : decode b_Mo_toXyz 70 = .ok (.lstore 5, 2) := by decide +kernel
theorem d_Mo_toXyz_72 : decode b_Mo_toXyz 72 = .ok (.lload_n 3, 1) := by decide +kernel
theorem d_Mo_toXyz_73 : decode b_Mo_toXyz 73 = .ok (.invokestatic 297, 3) := by decide +kernel
theorem d_Mo_toXyz_76 : decode b_Mo_toXyz 76 = .ok (.lstore 7, 2) := by decide +kernel
theorem d_Mo_toXyz_78 : decode b_Mo_toXyz 78 = .ok (.lload 5, 2) := by decide +kernel
theorem d_Mo_toXyz_80 : decode b_Mo_toXyz 80 = .ok (.invokestatic 297, 3) := by decide +kernel
theorem d_Mo_toXyz_83 : decode b_Mo_toXyz 83 = .ok (.lstore 9, 2) := by decide +kernel
theorem d_Mo_toXyz_85 : decode b_Mo_toXyz 85 = .ok (.aload_n 0, 1) := by decide +kernel
theorem d_Mo_toXyz_86 : decode b_Mo_toXyz 86 = .ok (.getfield 51, 3) := by decide +kernel
theorem d_Mo_toXyz_89 : decode b_Mo_toXyz 89 = .ok (.iconst (0), 1) := by decide +kernel
theorem d_Mo_toXyz_90 : decode b_Mo_toXyz 90 = .ok (.ldc2_w 272, 3) := by decide +kernel
theorem d_Mo_toXyz_93 : decode b_Mo_toXyz 93 = .ok (.lload 7, 2) := by decide +kernel
theorem d_Mo_toXyz_95 : decode b_Mo_toXyz 95 = .ok (.lmul, 1) := by decide +kernel
theorem d_Mo_toXyz_96 : decode b_Mo_toXyz 96 = .ok (.ldc2_w 131, 3) := by decide +kernel
theorem d_Mo_toXyz_99 : decode b_Mo_toXyz 99 = .ok (.invokestatic 124, 3) := by decide +kernel
theorem d_Mo_toXyz_102 : decode b_Mo_toXyz 102 = .ok (.lastore, 1) := by decide +kernel
theorem d_Mo_toXyz_103 : decode b_Mo_toXyz 103 = .ok (.aload_n 0, 1) := by decide +kernel
theorem d_Mo_toXyz_104 : decode b_Mo_toXyz 104 = .ok (.getfield 51, 3) := by decide +kernel
theorem d_Mo_toXyz_107 : decode b_Mo_toXyz 107 = .ok (.iconst (1), 1) := by decide +kernel
theorem d_Mo_toXyz_108 : decode b_Mo_toXyz 108 = .ok (.lload_n 1, 1) := by decide +kernel
theorem d_Mo_toXyz_109 : decode b_Mo_toXyz 109 = .ok (.invokestatic 297, 3) := by decide +kernel
theorem d_Mo_toXyz_112 : decode b_Mo_toXyz 112 = .ok (.invokestatic 118, 3) := by decide +kernel
theorem d_Mo_toXyz_115 : decode b_Mo_toXyz 115 = .ok (.lastore, 1) := by decide +kernel
theorem d_Mo_toXyz_116 : decode b_Mo_toXyz 116 = .ok (.aload_n 0, 1) := by decide +kernel
theorem d_Mo_toXyz_117 : decode b_Mo_toXyz 117 = .ok (.getfield 51, 3) := by decide +kernel
theorem d_Mo_toXyz_120 : decode b_Mo_toXyz 120 = .ok (.iconst (2), 1) := by decide +kernel
theorem d_Mo_toXyz_121 : decode b_Mo_toXyz 121 = .ok (.ldc2_w 277, 3) := by decide +kernel
theorem d_Mo_toXyz_124 : decode b_Mo_toXyz 124 = .ok (.lload 9, 2) := by decide +kernel
theorem d_Mo_toXyz_126 : decode b_Mo_toXyz 126 = .ok (.lmul, 1) := by decide +kernel
theorem d_Mo_toXyz_127 : decode b_Mo_toXyz 127 = .ok (.ldc2_w 131, 3) := by decide +kernel
theorem d_Mo_toXyz_130 : decode b_Mo_toXyz 130 = .ok (.invokestatic 124, 3) := by decide +kernel
theorem d_Mo_toXyz_133 : decode b_Mo_toXyz 133 = .ok (.lastore, 1) := by decide +kernel
theorem d_Mo_toXyz_134 : decode b_Mo_toXyz 134 = .ok (.return_, 1) := by decide +kernel
theorem d_Mo_gather_0 : decode b_Mo_gather 0 = .ok (.aload_n 0, 1) := by decide +kernel
theorem d_Mo_gather_1 : decode b_Mo_gather 1 = .ok (.getfield 51, 3) := by decide +kernel
theorem d_Mo_gather_4 : decode b_Mo_gather 4 = .ok (.iconst (0), 1) := by decide +kernel
theorem d_Mo_gather_5 : decode b_Mo_gather 5 = .ok (.aload_n 0, 1) := by decide +kernel
theorem d_Mo_gather_6 : decode b_Mo_gather 6 = .ok (.iload_n 1, 1) := by decide +kernel
theorem d_Mo_gather_7 : decode b_Mo_gather 7 = .ok (.invokevirtual 85, 3) := by decide +kernel
theorem d_Mo_gather_10 : decode b_Mo_gather 10 = .ok (.ifCond .eq (12), 3) := by decide +kernel
theorem d_Mo_gather_13 : decode b_Mo_gather 13 = .ok (.aload_n 0, 1) := by decide +kernel
theorem d_Mo_gather_14 : decode b_Mo_gather 14 = .ok (.getfield 54, 3) := by decide +kernel
theorem d_Mo_gather_17 : decode b_Mo_gather 17 = .ok (.iconst (0), 1) := by decide +kernel
theorem d_Mo_gather_18 : decode b_Mo_gather 18 = .ok (.laload, 1) := by decide +kernel
theorem d_Mo_gather_19 : decode b_Mo_gather 19 = .ok (.goto (19), 3) := by decide +kernel
theorem d_Mo_gather_22 : decode b_Mo_gather 22 = .ok (.ldc2_w 112, 3) := by decide +kernel
theorem d_Mo_gather_25 : decode b_Mo_gather 25 = .ok (.aload_n 0, 1) := by decide +kernel
theorem d_Mo_gather_26 : decode b_Mo_gather 26 = .ok (.getfield 54, 3) := by decide +kernel
theorem d_Mo_gather_29 : decode b_Mo_gather 29 = .ok (.iconst (1), 1) := by decide +kernel
theorem d_Mo_gather_30 : decode b_Mo_gather 30 = .ok (.laload, 1) := by decide +kernel
theorem d_Mo_gather_31 : decode b_Mo_gather 31 = .ok (.lmul, 1) := by decide +kernel
theorem d_Mo_gather_32 : decode b_Mo_gather 32 = .ok (.ldc2_w 131, 3) := by decide +kernel
theorem d_Mo_gather_35 : decode b_Mo_gather 35 = .ok (.invokestatic 124, 3) := by decide +kernel
theorem d_Mo_gather_38 : decode b_Mo_gather 38 = .ok (.lastore, 1) := by decide +kernel
theorem d_Mo_gather_39 : decode b_Mo_gather 39 = .ok (.aload_n 0, 1) := by decide +kernel
theorem d_Mo_gather_40 : decode b_Mo_gather 40 = .ok (.getfield 51, 3) := by decide +kernel
theorem d_Mo_gather_43 : decode b_Mo_gather 43 = .ok (.iconst (1), 1) := by decide +kernel
theorem d_Mo_gather_44 : decode b_Mo_gather 44 = .ok (.lconst 0, 1) := by decide +kernel
theorem d_Mo_gather_45 : decode b_Mo_gather 45 = .ok (.lastore, 1) := by decide +kernel
theorem d_Mo_gather_46 : decode b_Mo_gather 46 = .ok (.aload_n 0, 1) := by decide +kernel
theorem d_Mo_gather_47 : decode b_Mo_gather 47 = .ok (.getfield 51, 3) := by decide +kernel
theorem d_Mo_gather_50 : decode b_Mo_gather 50 = .ok (.iconst (2), 1) := by decide +kernel
theorem d_Mo_gather_51 : decode b_Mo_gather 51 = .ok (.lconst 0, 1) := by decide +kernel
theorem d_Mo_gather_52 : decode b_Mo_gather 52 = .ok (.lastore, 1) := by decide +kernel
theorem d_Mo_gather_53 : decode b_Mo_gather 53 = .ok (.return_, 1) := by decide +kernel
theorem d_Mo_matrixBack_0 : decode b_Mo_matrixBack 0 = .ok (.aload_n 0, 1) := by decide +kernel
theorem d_Mo_matrixBack_1 : decode b_Mo_matrixBack 1 = .ok (.iload_n 1, 1) := by decide +kernel
theorem d_Mo_matrixBack_2 : decode b_Mo_matrixBack 2 = .ok (.invokevirtual 154, 3) := by decide +kernel
theorem d_Mo_matrixBack_5 : decode b_Mo_matrixBack 5 = .ok (.aload_n 0, 1) := by decide +kernel
theorem d_Mo_matrixBack_6 : decode b_Mo_matrixBack 6 = .ok (.invokevirtual 183, 3) := by decide +kernel
theorem d_Mo_matrixBack_9 : decode b_Mo_matrixBack 9 = .ok (.lstore_n 2, 1) := by decide +kernel
theorem d_Mo_matrixBack_10 : decode b_Mo_matrixBack 10 = .ok (.iconst (0), 1) := by decide +kernel
theorem d_Mo_matrixBack_11 : decode b_Mo_matrixBack 11 = .ok (.istore 4, 2) := by decide +kernel
theorem d_Mo_matrixBack_13 : decode b_Mo_matrixBack 13 = .ok (.iload 4, 2) := by decide +kernel
theorem d_Mo_matrixBack_15 : decode b_Mo_matrixBack 15 = .ok (.iconst (3), 1) := by decide +kernel
theorem d_Mo_matrixBack_16 : decode b_Mo_matrixBack 16 = .ok (.if_icmp .ge (88), 3) := by decide +kernel
theorem d_Mo_matrixBack_19 : decode b_Mo_matrixBack 19 = .ok (.aload_n 0, 1) := by decide +kernel
theorem d_Mo_matrixBack_20 : decode b_Mo_matrixBack 20 = .ok (.iload_n 1, 1) := by decide +kernel
theorem d_Mo_matrixBack_21 : decode b_Mo_matrixBack 21 = .ok (.invokevirtual 154, 3) := by decide +kernel
theorem d_Mo_matrixBack_24 : decode b_Mo_matrixBack 24 = .ok (.iconst (0), 1) := by decide +kernel
theorem d_Mo_matrixBack_25 : decode b_Mo_matrixBack 25 = .ok (.istore 5, 2) := by decide +kernel
theorem d_Mo_matrixBack_27 : decode b_Mo_matrixBack 27 = .ok (.iload 5, 2) := by decide +kernel
theorem d_Mo_matrixBack_29 : decode b_Mo_matrixBack 29 = .ok (.iconst (3), 1) := by decide +kernel
theorem d_Mo_matrixBack_30 : decode b_Mo_matrixBack 30 = .ok (.if_icmp .ge (28), 3) := by decide +kernel
theorem d_Mo_matrixBack_33 : decode b_Mo_matrixBack 33 = .ok (.aload_n 0, 1) := by decide +kernel
theorem d_Mo_matrixBack_34 : decode b_Mo_matrixBack 34 = .ok (.getfield 57, 3) := by decide +kernel
theorem d_Mo_matrixBack_37 : decode b_Mo_matrixBack 37 = .ok (.iconst (3), 1) := by decide +kernel
theorem d_Mo_matrixBack_38 : decode b_Mo_matrixBack 38 = .ok (.iload 5, 2) := by decide +kernel
theorem d_Mo_matrixBack_40 : decode b_Mo_matrixBack 40 = .ok (.imul, 1) := by decide +kernel
theorem d_Mo_matrixBack_41 : decode b_Mo_matrixBack 41 = .ok (.iload 4, 2) := by decide +kernel
theorem d_Mo_matrixBack_43 : decode b_Mo_matrixBack 43 = .ok (.iadd, 1) := by decide +kernel
theorem d_Mo_matrixBack_44 : decode b_Mo_matrixBack 44 = .ok (.aload_n 0, 1) := by decide +kernel
theorem d_Mo_matrixBack_45 : decode b_Mo_matrixBack 45 = .ok (.getfield 54, 3) := by decide +kernel
theorem d_Mo_matrixBack_48 : decode b_Mo_matrixBack 48 = .ok (.iload 5, 2) := by decide +kernel
theorem d_Mo_matrixBack_50 : decode b_Mo_matrixBack 50 = .ok (.laload, 1) := by decide +kernel
theorem d_Mo_matrixBack_51 : decode b_Mo_matrixBack 51 = .ok (.lastore, 1) := by decide +kernel
theorem d_Mo_matrixBack_52 : decode b_Mo_matrixBack 52 = .ok (.iinc 5 (1), 3) := by decide +kernel
theorem d_Mo_matrixBack_55 : decode b_Mo_matrixBack 55 = .ok (.goto (-28), 3) := by decide +kernel
theorem d_Mo_matrixBack_58 : decode b_Mo_matrixBack 58 = .ok (.ldc2_w 158, 3) := by decide +kernel
theorem d_Mo_matrixBack_61 : decode b_Mo_matrixBack 61 = .ok (.aload_n 0, 1) := by decide +kernel
theorem d_Mo_matrixBack_62 : decode b_Mo_matrixBack 62 = .ok (.invokevirtual 183, 3) := by decide +kernel
theorem d_Mo_matrixBack_65 : decode b_Mo_matrixBack 65 = .ok (.lmul, 1) := by decide +kernel
theorem d_Mo_matrixBack_66 : decode b_Mo_matrixBack 66 = .ok (.lstore 5, 2) := by decide +kernel
theorem d_Mo_matrixBack_68 : decode b_Mo_matrixBack 68 = .ok (.aload_n 0, 1) := by decide +kernel
theorem d_Mo_matrixBack_69 : decode b_Mo_matrixBack 69 = .ok (.getfield 51, 3) := by decide +kernel
theorem d_Mo_matrixBack_72 : decode b_Mo_matrixBack 72 = .ok (.iload 4, 2) := by decide +kernel
theorem d_Mo_matrixBack_74 : decode b_Mo_matrixBack 74 = .ok (.lload_n 2, 1) := by decide +kernel
theorem d_Mo_matrixBack_75 : decode b_Mo_matrixBack 75 = .ok (.lconst 0, 1) := by decide +kernel
theorem d_Mo_matrixBack_76 : decode b_Mo_matrixBack 76 = .ok (.lcmp, 1) := by decide +kernel
theorem d_Mo_matrixBack_77 : decode b_Mo_matrixBack 77 = .ok (.ifCond .ge (14), 3) := by decide +kernel
theorem d_Mo_matrixBack_80 : decode b_Mo_matrixBack 80 = .ok (.lload 5, 2) := by decide +kernel
theorem d_Mo_matrixBack_82 : decode b_Mo_matrixBack 82 = .ok (.lneg, 1) := by decide +kernel
theorem d_Mo_matrixBack_83 : decode b_Mo_matrixBack 83 = .ok (.lload_n 2, 1) := by decide +kernel
theorem d_Mo_matrixBack_84 : decode b_Mo_matrixBack 84 = .ok (.lneg, 1) := by decide +kernel
theorem d_Mo_matrixBack_85 : decode b_Mo_matrixBack 85 = .ok (.invokestatic 124, 3) := by decide +kernel
theorem d_Mo_matrixBack_88 : decode b_Mo_matrixBack 88 = .ok (.goto (9), 3) := by decide +kernel
theorem d_Mo_matrixBack_91 : decode b_Mo_matrixBack 91 = .ok (.lload 5, 2) := by decide +kernel
theorem d_Mo_matrixBack_93 : decode b_Mo_matrixBack 93 = .ok (.lload_n 2, 1) := by decide +kernel
theorem d_Mo_matrixBack_94 : decode b_Mo_matrixBack 94 = .ok (.invokestatic 124, 3) := by decide +kernel
theorem d_Mo_matrixBack_97 : decode b_Mo_matrixBack 97 = .ok (.lastore, 1) := by decide +kernel
theorem d_Mo_matrixBack_98 : decode b_Mo_matrixBack 98 = .ok (.iinc 4 (1), 3) := by decide +kernel
theorem d_Mo_matrixBack_101 : decode b_Mo_matrixBack 101 = .ok (.goto (-88), 3) := by decide +kernel
theorem d_Mo_matrixBack_104 : decode b_Mo_matrixBack 104 = .ok (.return_, 1) := by decide +kernel
