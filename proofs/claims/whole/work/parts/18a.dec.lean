theorem d_LabXyz_turnToLab_0 : decode b_LabXyz_turnToLab 0 = .ok (.aload_n 0, 1) := by decide +kernel
theorem d_LabXyz_turnToLab_1 : decode b_LabXyz_turnToLab 1 = .ok (.iconst (0), 1) := by decide +kernel
theorem d_LabXyz_turnToLab_2 : decode b_LabXyz_turnToLab 2 = .ok (.iaload, 1) := by decide +kernel
theorem d_LabXyz_turnToLab_3 : decode b_LabXyz_turnToLab 3 = .ok (.i2l, 1) := by decide +kernel
theorem d_LabXyz_turnToLab_4 : decode b_LabXyz_turnToLab 4 = .ok (.getstatic 22, 3) := by decide +kernel
theorem d_LabXyz_turnToLab_7 : decode b_LabXyz_turnToLab 7 = .ok (.iconst (0), 1) := by decide +kernel
theorem d_LabXyz_turnToLab_8 : decode b_LabXyz_turnToLab 8 = .ok (.iaload, 1) := by decide +kernel
theorem d_LabXyz_turnToLab_9 : decode b_LabXyz_turnToLab 9 = .ok (.i2l, 1) := by decide +kernel
theorem d_LabXyz_turnToLab_10 : decode b_LabXyz_turnToLab 10 = .ok (.invokestatic 26, 3) := by decide +kernel
theorem d_LabXyz_turnToLab_13 : decode b_LabXyz_turnToLab 13 = .ok (.lstore_n 1, 1) := by decide +kernel
theorem d_LabXyz_turnToLab_14 : decode b_LabXyz_turnToLab 14 = .ok (.aload_n 0, 1) := by decide +kernel
theorem d_LabXyz_turnToLab_15 : decode b_LabXyz_turnToLab 15 = .ok (.iconst (1), 1) := by decide +kernel
theorem d_LabXyz_turnToLab_16 : decode b_LabXyz_turnToLab 16 = .ok (.iaload, 1) := by decide +kernel
theorem d_LabXyz_turnToLab_17 : decode b_LabXyz_turnToLab 17 = .ok (.i2l, 1) := by decide +kernel
theorem d_LabXyz_turnToLab_18 : decode b_LabXyz_turnToLab 18 = .ok (.getstatic 22, 3) := by decide +kernel
theorem d_LabXyz_turnToLab_21 : decode b_LabXyz_turnToLab 21 = .ok (.iconst (1), 1) := by decide +kernel
theorem d_LabXyz_turnToLab_22 : decode b_LabXyz_turnToLab 22 = .ok (.iaload, 1) := by decide +kernel
theorem d_LabXyz_turnToLab_23 : decode b_LabXyz_turnToLab 23 = .ok (.i2l, 1) := by decide +kernel
theorem d_LabXyz_turnToLab_24 : decode b_LabXyz_turnToLab 24 = .ok (.invokestatic 26, 3) := by decide +kernel
theorem d_LabXyz_turnToLab_27 : decode b_LabXyz_turnToLab 27 = .ok (.lstore_n 3, 1) := by decide +kernel
theorem d_LabXyz_turnToLab_28 : decode b_LabXyz_turnToLab 28 = .ok (.aload_n 0, 1) := by decide +kernel
theorem d_LabXyz_turnToLab_29 : decode b_LabXyz_turnToLab 29 = .ok (.iconst (2), 1) := by decide +kernel
theorem d_LabXyz_turnToLab_30 : decode b_LabXyz_turnToLab 30 = .ok (.iaload, 1) := by decide +kernel
theorem d_LabXyz_turnToLab_31 : decode b_LabXyz_turnToLab 31 = .ok (.i2l, 1) := by decide +kernel
theorem d_LabXyz_turnToLab_32 : decode b_LabXyz_turnToLab 32 = .ok (.getstatic 22, 3) := by decide +kernel
theorem d_LabXyz_turnToLab_35 : decode b_LabXyz_turnToLab 35 = .ok (.iconst (2), 1) := by decide +kernel
theorem d_LabXyz_turnToLab_36 : decode b_LabXyz_turnToLab 36 = .ok (.iaload, 1) := by decide +kernel
theorem d_LabXyz_turnToLab_37 : decode b_LabXyz_turnToLab 37 = .ok (.i2l, 1) := by decide +kernel
theorem d_LabXyz_turnToLab_38 : decode b_LabXyz_turnToLab 38 = .ok (.invokestatic 26, 3) := by decide +kernel
theorem d_LabXyz_turnToLab_41 : decode b_LabXyz_turnToLab 41 = .ok (.lstore 5, 2) := by decide +kernel
theorem d_LabXyz_turnToLab_43 : decode b_LabXyz_turnToLab 43 = .ok (.aload_n 0, 1) := by decide +kernel
theorem d_LabXyz_turnToLab_44 : decode b_LabXyz_turnToLab 44 = .ok (.iconst (0), 1) := by decide +kernel
theorem d_LabXyz_turnToLab_45 : decode b_LabXyz_turnToLab 45 = .ok (.ldc2_w 30, 3) := by decide +kernel
theorem d_LabXyz_turnToLab_48 : decode b_LabXyz_turnToLab 48 = .ok (.lload_n 3, 1) := by decide +kernel
theorem d_LabXyz_turnToLab_49 : decode b_LabXyz_turnToLab 49 = .ok (.lmul, 1) := by decide +kernel
theorem d_LabXyz_turnToLab_50 : decode b_LabXyz_turnToLab 50 = .ok (.ldc2_w 32, 3) := by decide +kernel
theorem d_LabXyz_turnToLab_53 : decode b_LabXyz_turnToLab 53 = .ok (.lsub, 1) := by decide +kernel
theorem d_LabXyz_turnToLab_54 : decode b_LabXyz_turnToLab 54 = .ok (.ldc2_w 34, 3) := by decide +kernel
theorem d_LabXyz_turnToLab_57 : decode b_LabXyz_turnToLab 57 = .ok (.lmul, 1) := by decide +kernel
theorem d_LabXyz_turnToLab_58 : decode b_LabXyz_turnToLab 58 = .ok (.ldc2_w 36, 3) := by decide +kernel
theorem d_LabXyz_turnToLab_61 : decode b_LabXyz_turnToLab 61 = .ok (.invokestatic 38, 3) := by decide +kernel
theorem d_LabXyz_turnToLab_64 : decode b_LabXyz_turnToLab 64 = .ok (.invokestatic 41, 3) := by decide +kernel
theorem d_LabXyz_turnToLab_67 : decode b_LabXyz_turnToLab 67 = .ok (.iastore, 1) := by decide +kernel
theorem d_LabXyz_turnToLab_68 : decode b_LabXyz_turnToLab 68 = .ok (.aload_n 0, 1) := by decide +kernel
theorem d_LabXyz_turnToLab_69 : decode b_LabXyz_turnToLab 69 = .ok (.iconst (1), 1) := by decide +kernel
theorem d_LabXyz_turnToLab_70 : decode b_LabXyz_turnToLab 70 = .ok (.ldc2_w 45, 3) := by decide +kernel
theorem d_LabXyz_turnToLab_73 : decode b_LabXyz_turnToLab 73 = .ok (.ldc2_w 47, 3) := by decide +kernel
theorem d_LabXyz_turnToLab_76 : decode b_LabXyz_turnToLab 76 = .ok (.lload_n 1, 1) := by decide +kernel
theorem d_LabXyz_turnToLab_77 : decode b_LabXyz_turnToLab 77 = .ok (.lload_n 3, 1) := by decide +kernel
theorem d_LabXyz_turnToLab_78 : decode b_LabXyz_turnToLab 78 = .ok (.lsub, 1) := by decide +kernel
theorem d_LabXyz_turnToLab_79 : decode b_LabXyz_turnToLab 79 = .ok (.lmul, 1) := by decide +kernel
theorem d_LabXyz_turnToLab_80 : decode b_LabXyz_turnToLab 80 = .ok (.ldc2_w 49, 3) := by decide +kernel
theorem d_LabXyz_turnToLab_83 : decode b_LabXyz_turnToLab 83 = .ok (.invokestatic 38, 3) := by decide +kernel
theorem d_LabXyz_turnToLab_86 : decode b_LabXyz_turnToLab 86 = .ok (.ladd, 1) := by decide +kernel
theorem d_LabXyz_turnToLab_87 : decode b_LabXyz_turnToLab 87 = .ok (.invokestatic 41, 3) := by decide +kernel
theorem d_LabXyz_turnToLab_90 : decode b_LabXyz_turnToLab 90 = .ok (.iastore, 1) := by decide +kernel
theorem d_LabXyz_turnToLab_91 : decode b_LabXyz_turnToLab 91 = .ok (.aload_n 0, 1) := by decide +kernel
theorem d_LabXyz_turnToLab_92 : decode b_LabXyz_turnToLab 92 = .ok (.iconst (2), 1) := by decide +kernel
theorem d_LabXyz_turnToLab_93 : decode b_LabXyz_turnToLab 93 = .ok (.ldc2_w 45, 3) := by decide +kernel
theorem d_LabXyz_turnToLab_96 : decode b_LabXyz_turnToLab 96 = .ok (.ldc2_w 51, 3) := by decide +kernel
theorem d_LabXyz_turnToLab_99 : decode b_LabXyz_turnToLab 99 = .ok (.lload_n 3, 1) := by decide +kernel
theorem d_LabXyz_turnToLab_100 : decode b_LabXyz_turnToLab 100 = .ok (.lload 5, 2) := by decide +kernel
theorem d_LabXyz_turnToLab_102 : decode b_LabXyz_turnToLab 102 = .ok (.lsub, 1) := by decide +kernel
theorem d_LabXyz_turnToLab_103 : decode b_LabXyz_turnToLab 103 = .ok (.lmul, 1) := by decide +kernel
theorem d_LabXyz_turnToLab_104 : decode b_LabXyz_turnToLab 104 = .ok (.ldc2_w 49, 3) := by decide +kernel
theorem d_LabXyz_turnToLab_107 : decode b_LabXyz_turnToLab 107 = .ok (.invokestatic 38, 3) := by decide +kernel
theorem d_LabXyz_turnToLab_110 : decode b_LabXyz_turnToLab 110 = .ok (.ladd, 1) := by decide +kernel
theorem d_LabXyz_turnToLab_111 : decode b_LabXyz_turnToLab 111 = .ok (.invokestatic 41, 3) := by decide +kernel
theorem d_LabXyz_turnToLab_114 : decode b_LabXyz_turnToLab 114 = .ok (.iastore, 1) := by decide +kernel
theorem d_LabXyz_turnToLab_115 : decode b_LabXyz_turnToLab 115 = .ok (.return_, 1) := by decide +kernel
theorem d_LabXyz_cubeOf_0 : decode b_LabXyz_cubeOf 0 = .ok (.lload_n 0, 1) := by decide +kernel
theorem d_LabXyz_cubeOf_1 : decode b_LabXyz_cubeOf 1 = .ok (.ldc2_w 79, 3) := by decide +kernel
theorem d_LabXyz_cubeOf_4 : decode b_LabXyz_cubeOf 4 = .ok (.lcmp, 1) := by decide +kernel
theorem d_LabXyz_cubeOf_5 : decode b_LabXyz_cubeOf 5 = .ok (.ifCond .le (17), 3) := by decide +kernel
theorem d_LabXyz_cubeOf_8 : decode b_LabXyz_cubeOf 8 = .ok (.lload_n 0, 1) := by decide +kernel
theorem d_LabXyz_cubeOf_9 : decode b_LabXyz_cubeOf 9 = .ok (.lload_n 0, 1) := by decide +kernel
theorem d_LabXyz_cubeOf_10 : decode b_LabXyz_cubeOf 10 = .ok (.lmul, 1) := by decide +kernel
theorem d_LabXyz_cubeOf_11 : decode b_LabXyz_cubeOf 11 = .ok (.lload_n 0, 1) := by decide +kernel
theorem d_LabXyz_cubeOf_12 : decode b_LabXyz_cubeOf 12 = .ok (.lmul, 1) := by decide +kernel
theorem d_LabXyz_cubeOf_13 : decode b_LabXyz_cubeOf 13 = .ok (.ldc2_w 57, 3) := by decide +kernel
theorem d_LabXyz_cubeOf_16 : decode b_LabXyz_cubeOf 16 = .ok (.invokestatic 38, 3) := by decide +kernel
theorem d_LabXyz_cubeOf_19 : decode b_LabXyz_cubeOf 19 = .ok (.goto (18), 3) := by decide +kernel
theorem d_LabXyz_cubeOf_22 : decode b_LabXyz_cubeOf 22 = .ok (.lload_n 0, 1) := by decide +kernel
theorem d_LabXyz_cubeOf_23 : decode b_LabXyz_cubeOf 23 = .ok (.ldc2_w 67, 3) := by decide +kernel
theorem d_LabXyz_cubeOf_26 : decode b_LabXyz_cubeOf 26 = .ok (.lsub, 1) := by decide +kernel
theorem d_LabXyz_cubeOf_27 : decode b_LabXyz_cubeOf 27 = .ok (.ldc2_w 65, 3) := by decide +kernel
theorem d_LabXyz_cubeOf_30 : decode b_LabXyz_cubeOf 30 = .ok (.lmul, 1) := by decide +kernel
theorem d_LabXyz_cubeOf_31 : decode b_LabXyz_cubeOf 31 = .ok (.ldc2_w 63, 3) := by decide +kernel
theorem d_LabXyz_cubeOf_34 : decode b_LabXyz_cubeOf 34 = .ok (.invokestatic 38, 3) := by decide +kernel
theorem d_LabXyz_cubeOf_37 : decode b_LabXyz_cubeOf 37 = .ok (.lreturn, 1) := by decide +kernel
theorem d_LabXyz_turnToXyz_0 : decode b_LabXyz_turnToXyz 0 = .ok (.ldc2_w 69, 3) := by decide +kernel
theorem d_LabXyz_turnToXyz_3 : decode b_LabXyz_turnToXyz 3 = .ok (.aload_n 0, 1) := by decide +kernel
theorem d_LabXyz_turnToXyz_4 : decode b_LabXyz_turnToXyz 4 = .ok (.iconst (0), 1) := by decide +kernel
theorem d_LabXyz_turnToXyz_5 : decode b_LabXyz_turnToXyz 5 = .ok (.iaload, 1) := by decide +kernel
theorem d_LabXyz_turnToXyz_6 : decode b_LabXyz_turnToXyz 6 = .ok (.i2l, 1) := by decide +kernel
theorem d_LabXyz_turnToXyz_7 : decode b_LabXyz_turnToXyz 7 = .ok (.lmul, 1) := by decide +kernel
theorem d_LabXyz_turnToXyz_8 : decode b_LabXyz_turnToXyz 8 = .ok (.ldc2_w 71, 3) := by decide +kernel
theorem d_LabXyz_turnToXyz_11 : decode b_LabXyz_turnToXyz 11 = .ok (.ladd, 1) := by decide +kernel
theorem d_LabXyz_turnToXyz_12 : decode b_LabXyz_turnToXyz 12 = .ok (.ldc2_w 49, 3) := by decide +kernel
theorem d_LabXyz_turnToXyz_15 : decode b_LabXyz_turnToXyz 15 = .ok (.lmul, 1) := by decide +kernel
theorem d_LabXyz_turnToXyz_16 : decode b_LabXyz_turnToXyz 16 = .ok (.ldc2_w 73, 3) := by decide +kernel
theorem d_LabXyz_turnToXyz_19 : decode b_LabXyz_turnToXyz 19 = .ok (.invokestatic 38, 3) := by decide +kernel
theorem d_LabXyz_turnToXyz_22 : decode b_LabXyz_turnToXyz 22 = .ok (.lstore_n 1, 1) := by decide +kernel
theorem d_LabXyz_turnToXyz_23 : decode b_LabXyz_turnToXyz 23 = .ok (.lload_n 1, 1) := by decide +kernel
theorem d_LabXyz_turnToXyz_24 : decode b_LabXyz_turnToXyz 24 = .ok (.aload_n 0, 1) := by decide +kernel
theorem d_LabXyz_turnToXyz_25 : decode b_LabXyz_turnToXyz 25 = .ok (.iconst (1), 1) := by decide +kernel
theorem d_LabXyz_turnToXyz_26 : decode b_LabXyz_turnToXyz 26 = .ok (.iaload, 1) := by decide +kernel
theorem d_LabXyz_turnToXyz_27 : decode b_LabXyz_turnToXyz 27 = .ok (.ldc 75, 2) := by decide +kernel
theorem d_LabXyz_turnToXyz_29 : decode b_LabXyz_turnToXyz 29 = .ok (.isub, 1) := by decide +kernel
theorem d_LabXyz_turnToXyz_30 : decode b_LabXyz_turnToXyz 30 = .ok (.i2l, 1) := by decide +kernel
theorem d_LabXyz_turnToXyz_31 : decode b_LabXyz_turnToXyz 31 = .ok (.ldc2_w 49, 3) := by decide +kernel
theorem d_LabXyz_turnToXyz_34 : decode b_LabXyz_turnToXyz 34 = .ok (.lmul, 1) := by decide +kernel
theorem d_LabXyz_turnToXyz_35 : decode b_LabXyz_turnToXyz 35 = .ok (.ldc2_w 47, 3) := by decide +kernel
theorem d_LabXyz_turnToXyz_38 : decode b_LabXyz_turnToXyz 38 = .ok (.invokestatic 38, 3) := by decide +kernel
theorem d_LabXyz_turnToXyz_41 : decode b_LabXyz_turnToXyz 41 = .ok (.ladd, 1) := by decide +kernel
theorem d_LabXyz_turnToXyz_42 : decode b_LabXyz_turnToXyz 42 = .ok (.lstore_n 3, 1) := by decide +kernel
theorem d_LabXyz_turnToXyz_43 : decode b_LabXyz_turnToXyz 43 = .ok (.lload_n 1, 1) := by decide +kernel
theorem d_LabXyz_turnToXyz_44 : decode b_LabXyz_turnToXyz 44 = .ok (.aload_n 0, 1) := by decide +kernel
theorem d_LabXyz_turnToXyz_45 : decode b_LabXyz_turnToXyz 45 = .ok (.iconst (2), 1) := by decide +kernel
theorem d_LabXyz_turnToXyz_46 : decode b_LabXyz_turnToXyz 46 = .ok (.iaload, 1) := by decide +kernel
theorem d_LabXyz_turnToXyz_47 : decode b_LabXyz_turnToXyz 47 = .ok (.ldc 75, 2) := by decide +kernel
theorem d_LabXyz_turnToXyz_49 : decode b_LabXyz_turnToXyz 49 = .ok (.isub, 1) := by decide +kernel
theorem d_LabXyz_turnToXyz_50 : decode b_LabXyz_turnToXyz 50 = .ok (.i2l, 1) := by decide +kernel
theorem d_LabXyz_turnToXyz_51 : decode b_LabXyz_turnToXyz 51 = .ok (.ldc2_w 49, 3) := by decide +kernel
theorem d_LabXyz_turnToXyz_54 : decode b_LabXyz_turnToXyz 54 = .ok (.lmul, 1) := by decide +kernel
theorem d_LabXyz_turnToXyz_55 : decode b_LabXyz_turnToXyz 55 = .ok (.ldc2_w 51, 3) := by decide +kernel
theorem d_LabXyz_turnToXyz_58 : decode b_LabXyz_turnToXyz 58 = .ok (.invokestatic 38, 3) := by decide +kernel
theorem d_LabXyz_turnToXyz_61 : decode b_LabXyz_turnToXyz 61 = .ok (.lsub, 1) := by decide +kernel
theorem d_LabXyz_turnToXyz_62 : decode b_LabXyz_turnToXyz 62 = .ok (.lstore 5, 2) := by decide +kernel
theorem d_LabXyz_turnToXyz_64 : decode b_LabXyz_turnToXyz 64 = .ok (.aload_n 0, 1) := by decide +kernel
theorem d_LabXyz_turnToXyz_65 : decode b_LabXyz_turnToXyz 65 = .ok (.iconst (0), 1) := by decide +kernel
theorem d_LabXyz_turnToXyz_66 : decode b_LabXyz_turnToXyz 66 = .ok (.getstatic 22, 3) := by decide +kernel
theorem d_LabXyz_turnToXyz_69 : decode b_LabXyz_turnToXyz 69 = .ok (.iconst (0), 1) := by decide +kernel
theorem d_LabXyz_turnToXyz_70 : decode b_LabXyz_turnToXyz 70 = .ok (.iaload, 1) := by decide +kernel
theorem d_LabXyz_turnToXyz_71 : decode b_LabXyz_turnToXyz 71 = .ok (.i2l, 1) := by decide +kernel
theorem d_LabXyz_turnToXyz_72 : decode b_LabXyz_turnToXyz 72 = .ok (.lload_n 3, 1) := by decide +kernel
theorem d_LabXyz_turnToXyz_73 : decode b_LabXyz_turnToXyz 73 = .ok (.invokestatic 76, 3) := by decide +kernel
theorem d_LabXyz_turnToXyz_76 : decode b_LabXyz_turnToXyz 76 = .ok (.lmul, 1) := by decide +kernel
theorem d_LabXyz_turnToXyz_77 : decode b_LabXyz_turnToXyz 77 = .ok (.ldc2_w 53, 3) := by decide +kernel
theorem d_LabXyz_turnToXyz_80 : decode b_LabXyz_turnToXyz 80 = .ok (.invokestatic 38, 3) := by decide +kernel
theorem d_LabXyz_turnToXyz_83 : decode b_LabXyz_turnToXyz 83 = .ok (.invokestatic 41, 3) := by decide +kernel
theorem d_LabXyz_turnToXyz_86 : decode b_LabXyz_turnToXyz 86 = .ok (.iastore, 1) := by decide +kernel
theorem d_LabXyz_turnToXyz_87 : decode b_LabXyz_turnToXyz 87 = .ok (.aload_n 0, 1) := by decide +kernel
theorem d_LabXyz_turnToXyz_88 : decode b_LabXyz_turnToXyz 88 = .ok (.iconst (1), 1) := by decide +kernel
theorem d_LabXyz_turnToXyz_89 : decode b_LabXyz_turnToXyz 89 = .ok (.lload_n 1, 1) := by decide +kernel
theorem d_LabXyz_turnToXyz_90 : decode b_LabXyz_turnToXyz 90 = .ok (.invokestatic 76, 3) := by decide +kernel
theorem d_LabXyz_turnToXyz_93 : decode b_LabXyz_turnToXyz 93 = .ok (.invokestatic 41, 3) := by decide +kernel
theorem d_LabXyz_turnToXyz_96 : decode b_LabXyz_turnToXyz 96 = .ok (.iastore, 1) := by decide +kernel
theorem d_LabXyz_turnToXyz_97 : decode b_LabXyz_turnToXyz 97 = .ok (.aload_n 0, 1) := by decide +kernel
theorem d_LabXyz_turnToXyz_98 : decode b_LabXyz_turnToXyz 98 = .ok (.iconst (2), 1) := by decide +kernel
theorem d_LabXyz_turnToXyz_99 : decode b_LabXyz_turnToXyz 99 = .ok (.getstatic 22, 3) := by decide +kernel
theorem d_LabXyz_turnToXyz_102 : decode b_LabXyz_turnToXyz 102 = .ok (.iconst (2), 1) := by decide +kernel
theorem d_LabXyz_turnToXyz_103 : decode b_LabXyz_turnToXyz 103 = .ok (.iaload, 1) := by decide +kernel
theorem d_LabXyz_turnToXyz_104 : decode b_LabXyz_turnToXyz 104 = .ok (.i2l, 1) := by decide +kernel
theorem d_LabXyz_turnToXyz_105 : decode b_LabXyz_turnToXyz 105 = .ok (.lload 5, 2) := by decide +kernel
theorem d_LabXyz_turnToXyz_107 : decode b_LabXyz_turnToXyz 107 = .ok (.invokestatic 76, 3) := by decide +kernel
theorem d_LabXyz_turnToXyz_110 : decode b_LabXyz_turnToXyz 110 = .ok (.lmul, 1) := by decide +kernel
theorem d_LabXyz_turnToXyz_111 : decode b_LabXyz_turnToXyz 111 = .ok (.ldc2_w 53, 3) := by decide +kernel
theorem d_LabXyz_turnToXyz_114 : decode b_LabXyz_turnToXyz 114 = .ok (.invokestatic 38, 3) := by decide +kernel
theorem d_LabXyz_turnToXyz_117 : decode b_LabXyz_turnToXyz 117 = .ok (.invokestatic 41, 3) := by decide +kernel
theorem d_LabXyz_turnToXyz_120 : decode b_LabXyz_turnToXyz 120 = .ok (.iastore, 1) := by decide +kernel
theorem d_LabXyz_turnToXyz_121 : decode b_LabXyz_turnToXyz 121 = .ok (.return_, 1) := by decide +kernel
theorem d_LabXyz_run_0 : decode b_LabXyz_run 0 = .ok (.aload_n 0, 1) := by decide +kernel
theorem d_LabXyz_run_1 : decode b_LabXyz_run 1 = .ok (.getfield 9, 3) := by decide +kernel
theorem d_LabXyz_run_4 : decode b_LabXyz_run 4 = .ok (.iconst (5), 1) := by decide +kernel
theorem d_LabXyz_run_5 : decode b_LabXyz_run 5 = .ok (.if_icmp .ne (10), 3) := by decide +kernel
theorem d_LabXyz_run_8 : decode b_LabXyz_run 8 = .ok (.aload_n 1, 1) := by decide +kernel
theorem d_LabXyz_run_9 : decode b_LabXyz_run 9 = .ok (.invokestatic 15, 3) := by decide +kernel
theorem d_LabXyz_run_12 : decode b_LabXyz_run 12 = .ok (.goto (7), 3) := by decide +kernel
theorem d_LabXyz_run_15 : decode b_LabXyz_run 15 = .ok (.aload_n 1, 1) := by decide +kernel
theorem d_LabXyz_run_16 : decode b_LabXyz_run 16 = .ok (.invokestatic 19, 3) := by decide +kernel
theorem d_LabXyz_run_19 : decode b_LabXyz_run 19 = .ok (.return_, 1) := by decide +kernel
theorem d_Matrix_run_0 : decode b_Matrix_run 0 = .ok (.aload_n 1, 1) := by decide +kernel
theorem d_Matrix_run_1 : decode b_Matrix_run 1 = .ok (.iconst (0), 1) := by decide +kernel
theorem d_Matrix_run_2 : decode b_Matrix_run 2 = .ok (.iaload, 1) := by decide +kernel
theorem d_Matrix_run_3 : decode b_Matrix_run 3 = .ok (.i2l, 1) := by decide +kernel
theorem d_Matrix_run_4 : decode b_Matrix_run 4 = .ok (.lstore_n 2, 1) := by decide +kernel
theorem d_Matrix_run_5 : decode b_Matrix_run 5 = .ok (.aload_n 1, 1) := by decide +kernel
theorem d_Matrix_run_6 : decode b_Matrix_run 6 = .ok (.iconst (1), 1) := by decide +kernel
theorem d_Matrix_run_7 : decode b_Matrix_run 7 = .ok (.iaload, 1) := by decide +kernel
theorem d_Matrix_run_8 : decode b_Matrix_run 8 = .ok (.i2l, 1) := by decide +kernel
theorem d_Matrix_run_9 : decode b_Matrix_run 9 = .ok (.lstore 4, 2) := by decide +kernel
theorem d_Matrix_run_11 : decode b_Matrix_run 11 = .ok (.aload_n 1, 1) := by decide +kernel
theorem d_Matrix_run_12 : decode b_Matrix_run 12 = .ok (.iconst (2), 1) := by decide +kernel
theorem d_Matrix_run_13 : decode b_Matrix_run 13 = .ok (.iaload, 1) := by decide +kernel
theorem d_Matrix_run_14 : decode b_Matrix_run 14 = .ok (.i2l, 1) := by decide +kernel
theorem d_Matrix_run_15 : decode b_Matrix_run 15 = .ok (.lstore 6, 2) := by decide +kernel
theorem d_Matrix_run_17 : decode b_Matrix_run 17 = .ok (.iconst (0), 1) := by decide +kernel
theorem d_Matrix_run_18 : decode b_Matrix_run 18 = .ok (.istore 8, 2) := by decide +kernel
theorem d_Matrix_run_20 : decode b_Matrix_run 20 = .ok (.iload 8, 2) := by decide +kernel
theorem d_Matrix_run_22 : decode b_Matrix_run 22 = .ok (.iconst (3), 1) := by decide +kernel
theorem d_Matrix_run_23 : decode b_Matrix_run 23 = .ok (.if_icmp .ge (68), 3) := by decide +kernel
theorem d_Matrix_run_26 : decode b_Matrix_run 26 = .ok (.aload_n 0, 1) := by decide +kernel
theorem d_Matrix_run_27 : decode b_Matrix_run 27 = .ok (.getfield 9, 3) := by decide +kernel
theorem d_Matrix_run_30 : decode b_Matrix_run 30 = .ok (.iconst (3), 1) := by decide +kernel
theorem d_Matrix_run_31 : decode b_Matrix_run 31 = .ok (.iload 8, 2) := by decide +kernel
theorem d_Matrix_run_33 : decode b_Matrix_run 33 = .ok (.imul, 1) := by decide +kernel
theorem d_Matrix_run_34 : decode b_Matrix_run 34 = .ok (.laload, 1) := by decide +kernel
theorem d_Matrix_run_35 : decode b_Matrix_run 35 = .ok (.lload_n 2, 1) := by decide +kernel
theorem d_Matrix_run_36 : decode b_Matrix_run 36 = .ok (.lmul, 1) := by decide +kernel
theorem d_Matrix_run_37 : decode b_Matrix_run 37 = .ok (.aload_n 0, 1) := by decide +kernel
theorem d_Matrix_run_38 : decode b_Matrix_run 38 = .ok (.getfield 9, 3) := by decide +kernel
theorem d_Matrix_run_41 : decode b_Matrix_run 41 = .ok (.iconst (3), 1) := by decide +kernel
theorem d_Matrix_run_42 : decode b_Matrix_run 42 = .ok (.iload 8, 2) := by decide +kernel
theorem d_Matrix_run_44 : decode b_Matrix_run 44 = .ok (.imul, 1) := by decide +kernel
theorem d_Matrix_run_45 : decode b_Matrix_run 45 = .ok (.iconst (1), 1) := by decide +kernel
theorem d_Matrix_run_46 : decode b_Matrix_run 46 = .ok (.iadd, 1) := by decide +kernel
theorem d_Matrix_run_47 : decode b_Matrix_run 47 = .ok (.laload, 1) := by decide +kernel
theorem d_Matrix_run_48 : decode b_Matrix_run 48 = .ok (.lload 4, 2) := by decide +kernel
theorem d_Matrix_run_50 : decode b_Matrix_run 50 = .ok (.lmul, 1) := by decide +kernel
theorem d_Matrix_run_51 : decode b_Matrix_run 51 = .ok (.ladd, 1) := by decide +kernel
theorem d_Matrix_run_52 : decode b_Matrix_run 52 = .ok (.aload_n 0, 1) := by decide +kernel
theorem d_Matrix_run_53 : decode b_Matrix_run 53 = .ok (.getfield 9, 3) := by decide +kernel
theorem d_Matrix_run_56 : decode b_Matrix_run 56 = .ok (.iconst (3), 1) := by decide +kernel
theorem d_Matrix_run_57 : decode b_Matrix_run 57 = .ok (.iload 8, 2) := by decide +kernel
theorem d_Matrix_run_59 : decode b_Matrix_run 59 = .ok (.imul, 1) := by decide +kernel
theorem d_Matrix_run_60 : decode b_Matrix_run 60 = .ok (.iconst (2), 1) := by decide +kernel
theorem d_Matrix_run_61 : decode b_Matrix_run 61 = .ok (.iadd, 1) := by decide +kernel
theorem d_Matrix_run_62 : decode b_Matrix_run 62 = .ok (.laload, 1) := by decide +kernel
theorem d_Matrix_run_63 : decode b_Matrix_run 63 = .ok (.lload 6, 2) := by decide +kernel
theorem d_Matrix_run_65 : decode b_Matrix_run 65 = .ok (.lmul, 1) := by decide +kernel
theorem d_Matrix_run_66 : decode b_Matrix_run 66 = .ok (.ladd, 1) := by decide +kernel
theorem d_Matrix_run_67 : decode b_Matrix_run 67 = .ok (.lstore 9, 2) := by decide +kernel
theorem d_Matrix_run_69 : decode b_Matrix_run 69 = .ok (.aload_n 1, 1) := by decide +kernel
theorem d_Matrix_run_70 : decode b_Matrix_run 70 = .ok (.iload 8, 2) := by decide +kernel
theorem d_Matrix_run_72 : decode b_Matrix_run 72 = .ok (.lload 9, 2) := by decide +kernel
theorem d_Matrix_run_74 : decode b_Matrix_run 74 = .ok (.aload_n 0, 1) := by decide +kernel
theorem d_Matrix_run_75 : decode b_Matrix_run 75 = .ok (.getfield 15, 3) := by decide +kernel
theorem d_Matrix_run_78 : decode b_Matrix_run 78 = .ok (.invokestatic 46, 3) := by decide +kernel
theorem d_Matrix_run_81 : decode b_Matrix_run 81 = .ok (.invokestatic 50, 3) := by decide +kernel
theorem d_Matrix_run_84 : decode b_Matrix_run 84 = .ok (.iastore, 1) := by decide +kernel
theorem d_Matrix_run_85 : decode b_Matrix_run 85 = .ok (.iinc 8 (1), 3) := by decide +kernel
theorem d_Matrix_run_88 : decode b_Matrix_run 88 = .ok (.goto (-68), 3) := by decide +kernel
theorem d_Matrix_run_91 : decode b_Matrix_run 91 = .ok (.return_, 1) := by decide +kernel
theorem d_Profile_space_0 : decode b_Profile_space 0 = .ok (.aload_n 0, 1) := by decide +kernel
theorem d_Profile_space_1 : decode b_Profile_space 1 = .ok (.getfield 33, 3) := by decide +kernel
theorem d_Profile_space_4 : decode b_Profile_space 4 = .ok (.iconst (4), 1) := by decide +kernel
theorem d_Profile_space_5 : decode b_Profile_space 5 = .ok (.iaload, 1) := by decide +kernel
theorem d_Profile_space_6 : decode b_Profile_space 6 = .ok (.ireturn, 1) := by decide +kernel
theorem d_Profile_measureBlack_0 : decode b_Profile_measureBlack 0 = .ok (.iconst (3), 1) := by decide +kernel
theorem d_Profile_measureBlack_1 : decode b_Profile_measureBlack 1 = .ok (.newarray .int, 2) := by decide +kernel
theorem d_Profile_measureBlack_3 : decode b_Profile_measureBlack 3 = .ok (.astore_n 1, 1) := by decide +kernel
theorem d_Profile_measureBlack_4 : decode b_Profile_measureBlack 4 = .ok (.iconst (0), 1) := by decide +kernel
theorem d_Profile_measureBlack_5 : decode b_Profile_measureBlack 5 = .ok (.istore_n 2, 1) := by decide +kernel
theorem d_Profile_measureBlack_6 : decode b_Profile_measureBlack 6 = .ok (.iload_n 2, 1) := by decide +kernel
theorem d_Profile_measureBlack_7 : decode b_Profile_measureBlack 7 = .ok (.iconst (3), 1) := by decide +kernel
theorem d_Profile_measureBlack_8 : decode b_Profile_measureBlack 8 = .ok (.if_icmp .ge (67), 3) := by decide +kernel
theorem d_Profile_measureBlack_11 : decode b_Profile_measureBlack 11 = .ok (.aload_n 1, 1) := by decide +kernel
theorem d_Profile_measureBlack_12 : decode b_Profile_measureBlack 12 = .ok (.iconst (0), 1) := by decide +kernel
theorem d_Profile_measureBlack_13 : decode b_Profile_measureBlack 13 = .ok (.invokestatic 88, 3) := by decide +kernel
theorem d_Profile_measureBlack_16 : decode b_Profile_measureBlack 16 = .ok (.iconst (0), 1) := by decide +kernel
theorem d_Profile_measureBlack_17 : decode b_Profile_measureBlack 17 = .ok (.istore_n 3, 1) := by decide +kernel
theorem d_Profile_measureBlack_18 : decode b_Profile_measureBlack 18 = .ok (.iload_n 3, 1) := by decide +kernel
theorem d_Profile_measureBlack_19 : decode b_Profile_measureBlack 19 = .ok (.iconst (2), 1) := by decide +kernel
theorem d_Profile_measureBlack_20 : decode b_Profile_measureBlack 20 = .ok (.if_icmp .ge (28), 3) := by decide +kernel
theorem d_Profile_measureBlack_23 : decode b_Profile_measureBlack 23 = .ok (.aload_n 0, 1) := by decide +kernel
theorem d_Profile_measureBlack_24 : decode b_Profile_measureBlack 24 = .ok (.iload_n 2, 1) := by decide +kernel
theorem d_Profile_measureBlack_25 : decode b_Profile_measureBlack 25 = .ok (.iload_n 3, 1) := by decide +kernel
theorem d_Profile_measureBlack_26 : decode b_Profile_measureBlack 26 = .ok (.invokevirtual 93, 3) := by decide +kernel
theorem d_Profile_measureBlack_29 : decode b_Profile_measureBlack 29 = .ok (.astore 4, 2) := by decide +kernel
theorem d_Profile_measureBlack_31 : decode b_Profile_measureBlack 31 = .ok (.aload 4, 2) := by decide +kernel
theorem d_Profile_measureBlack_33 : decode b_Profile_measureBlack 33 = .ok (.ifnull (9), 3) := by decide +kernel
theorem d_Profile_measureBlack_36 : decode b_Profile_measureBlack 36 = .ok (.aload 4, 2) := by decide +kernel
theorem d_Profile_measureBlack_38 : decode b_Profile_measureBlack 38 = .ok (.aload_n 1, 1) := by decide +kernel
theorem d_Profile_measureBlack_39 : decode b_Profile_measureBlack 39 = .ok (.invokevirtual 97, 3) := by decide +kernel
theorem d_Profile_measureBlack_42 : decode b_Profile_measureBlack 42 = .ok (.iinc 3 (1), 3) := by decide +kernel
theorem d_Profile_measureBlack_45 : decode b_Profile_measureBlack 45 = .ok (.goto (-27), 3) := by decide +kernel
theorem d_Profile_measureBlack_48 : decode b_Profile_measureBlack 48 = .ok (.aload_n 0, 1) := by decide +kernel
theorem d_Profile_measureBlack_49 : decode b_Profile_measureBlack 49 = .ok (.invokevirtual 103, 3) := by decide +kernel
theorem d_Profile_measureBlack_52 : decode b_Profile_measureBlack 52 = .ok (.iconst (1), 1) := by decide +kernel
theorem d_Profile_measureBlack_53 : decode b_Profile_measureBlack 53 = .ok (.if_icmp .ne (7), 3) := by decide +kernel
theorem d_Profile_measureBlack_56 : decode b_Profile_measureBlack 56 = .ok (.aload_n 1, 1) := by decide +kernel
theorem d_Profile_measureBlack_57 : decode b_Profile_measureBlack 57 = .ok (.invokestatic 107, 3) := by decide +kernel
theorem d_Profile_measureBlack_60 : decode b_Profile_measureBlack 60 = .ok (.aload_n 0, 1) := by decide +kernel
theorem d_Profile_measureBlack_61 : decode b_Profile_measureBlack 61 = .ok (.getfield 30, 3) := by decide +kernel
theorem d_Profile_measureBlack_64 : decode b_Profile_measureBlack 64 = .ok (.iload_n 2, 1) := by decide +kernel
theorem d_Profile_measureBlack_65 : decode b_Profile_measureBlack 65 = .ok (.aload_n 1, 1) := by decide +kernel
theorem d_Profile_measureBlack_66 : decode b_Profile_measureBlack 66 = .ok (.iconst (1), 1) := by decide +kernel
theorem d_Profile_measureBlack_67 : decode b_Profile_measureBlack 67 = .ok (.iaload, 1) := by decide +kernel
theorem d_Profile_measureBlack_68 : decode b_Profile_measureBlack 68 = .ok (.iastore, 1) := by decide +kernel
theorem d_Profile_measureBlack_69 : decode b_Profile_measureBlack 69 = .ok (.iinc 2 (1), 3) := by decide +kernel
theorem d_Profile_measureBlack_72 : decode b_Profile_measureBlack 72 = .ok (.goto (-66), 3) := by decide +kernel
theorem d_Profile_measureBlack_75 : decode b_Profile_measureBlack 75 = .ok (.return_, 1) := by decide +kernel
theorem d_CL_parse_0 : decode b_CL_parse 0 = .ok (.aload_n 0, 1) := by decide +kernel
theorem d_CL_parse_1 : decode b_CL_parse 1 = .ok (.getfield 65, 3) := by decide +kernel
theorem d_CL_parse_4 : decode b_CL_parse 4 = .ok (.bipush (6), 2) := by decide +kernel
theorem d_CL_parse_6 : decode b_CL_parse 6 = .ok (.if_icmp .lt (6), 3) := by decide +kernel
theorem d_CL_parse_9 : decode b_CL_parse 9 = .ok (.bipush (-8), 2) := by decide +kernel
theorem d_CL_parse_11 : decode b_CL_parse 11 = .ok (.ireturn, 1) := by decide +kernel
theorem d_CL_parse_12 : decode b_CL_parse 12 = .ok (.aload_n 0, 1) := by decide +kernel
theorem d_CL_parse_13 : decode b_CL_parse 13 = .ok (.getfield 12, 3) := by decide +kernel
theorem d_CL_parse_16 : decode b_CL_parse 16 = .ok (.invokevirtual 68, 3) := by decide +kernel
theorem d_CL_parse_19 : decode b_CL_parse 19 = .ok (.istore_n 1, 1) := by decide +kernel
theorem d_CL_parse_20 : decode b_CL_parse 20 = .ok (.iload_n 1, 1) := by decide +kernel
theorem d_CL_parse_21 : decode b_CL_parse 21 = .ok (.ifCond .eq (5), 3) := by decide +kernel
theorem d_CL_parse_24 : decode b_CL_parse 24 = .ok (.iload_n 1, 1) := by decide +kernel
theorem d_CL_parse_25 : decode b_CL_parse 25 = .ok (.ireturn, 1) := by decide +kernel
theorem d_CL_parse_26 : decode b_CL_parse 26 = .ok (.new 16, 3) := by decide +kernel
theorem d_CL_parse_29 : decode b_CL_parse 29 = .ok (.dup, 1) := by decide +kernel
theorem d_CL_parse_30 : decode b_CL_parse 30 = .ok (.aload_n 0, 1) := by decide +kernel
theorem d_CL_parse_31 : decode b_CL_parse 31 = .ok (.getfield 12, 3) := by decide +kernel
theorem d_CL_parse_34 : decode b_CL_parse 34 = .ok (.invokevirtual 72, 3) := by decide +kernel
theorem d_CL_parse_37 : decode b_CL_parse 37 = .ok (.aload_n 0, 1) := by decide +kernel
theorem d_CL_parse_38 : decode b_CL_parse 38 = .ok (.getfield 12, 3) := by decide +kernel
theorem d_CL_parse_41 : decode b_CL_parse 41 = .ok (.invokevirtual 76, 3) := by decide +kernel
theorem d_CL_parse_44 : decode b_CL_parse 44 = .ok (.invokespecial 79, 3) := by decide +kernel
theorem d_CL_parse_47 : decode b_CL_parse 47 = .ok (.astore_n 2, 1) := by decide +kernel
theorem d_CL_parse_48 : decode b_CL_parse 48 = .ok (.aload_n 2, 1) := by decide +kernel
theorem d_CL_parse_49 : decode b_CL_parse 49 = .ok (.invokevirtual 82, 3) := by decide +kernel
theorem d_CL_parse_52 : decode b_CL_parse 52 = .ok (.aload_n 0, 1) := by decide +kernel
theorem d_CL_parse_53 : decode b_CL_parse 53 = .ok (.getfield 18, 3) := by decide +kernel
theorem d_CL_parse_56 : decode b_CL_parse 56 = .ok (.aload_n 0, 1) := by decide +kernel
theorem d_CL_parse_57 : decode b_CL_parse 57 = .ok (.getfield 65, 3) := by decide +kernel
theorem d_CL_parse_60 : decode b_CL_parse 60 = .ok (.aload_n 2, 1) := by decide +kernel
theorem d_CL_parse_61 : decode b_CL_parse 61 = .ok (.aastore, 1) := by decide +kernel
theorem d_CL_parse_62 : decode b_CL_parse 62 = .ok (.aload_n 0, 1) := by decide +kernel
theorem d_CL_parse_63 : decode b_CL_parse 63 = .ok (.dup, 1) := by decide +kernel
theorem d_CL_parse_64 : decode b_CL_parse 64 = .ok (.getfield 65, 3) := by decide +kernel
theorem d_CL_parse_67 : decode b_CL_parse 67 = .ok (.iconst (1), 1) := by decide +kernel
theorem d_CL_parse_68 : decode b_CL_parse 68 = .ok (.iadd, 1) := by decide +kernel
theorem d_CL_parse_69 : decode b_CL_parse 69 = .ok (.putfield 65, 3) := by decide +kernel
theorem d_CL_parse_72 : decode b_CL_parse 72 = .ok (.aload_n 0, 1) := by decide +kernel
theorem d_CL_parse_73 : decode b_CL_parse 73 = .ok (.getfield 65, 3) := by decide +kernel
theorem d_CL_parse_76 : decode b_CL_parse 76 = .ok (.iconst (1), 1) := by decide +kernel
theorem d_CL_parse_77 : decode b_CL_parse 77 = .ok (.isub, 1) := by decide +kernel
theorem d_CL_parse_78 : decode b_CL_parse 78 = .ok (.ireturn, 1) := by decide +kernel
