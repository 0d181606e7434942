theorem d_Matrix_readFactors_0 : decode b_Matrix_readFactors 0 = .ok (.bipush (9), 2) := by decide +kernel
theorem d_Matrix_readFactors_2 : decode b_Matrix_readFactors 2 = .ok (.newarray .long, 2) := by decide +kernel
theorem d_Matrix_readFactors_4 : decode b_Matrix_readFactors 4 = .ok (.astore_n 2, 1) := by decide +kernel
theorem d_Matrix_readFactors_5 : decode b_Matrix_readFactors 5 = .ok (.iconst (0), 1) := by decide +kernel
theorem d_Matrix_readFactors_6 : decode b_Matrix_readFactors 6 = .ok (.istore_n 3, 1) := by decide +kernel
theorem d_Matrix_readFactors_7 : decode b_Matrix_readFactors 7 = .ok (.iload_n 3, 1) := by decide +kernel
theorem d_Matrix_readFactors_8 : decode b_Matrix_readFactors 8 = .ok (.bipush (9), 2) := by decide +kernel
theorem d_Matrix_readFactors_10 : decode b_Matrix_readFactors 10 = .ok (.if_icmp .ge (44), 3) := by decide +kernel
theorem d_Matrix_readFactors_13 : decode b_Matrix_readFactors 13 = .ok (.aload_n 0, 1) := by decide +kernel
theorem d_Matrix_readFactors_14 : decode b_Matrix_readFactors 14 = .ok (.iload_n 1, 1) := by decide +kernel
theorem d_Matrix_readFactors_15 : decode b_Matrix_readFactors 15 = .ok (.iconst (2), 1) := by decide +kernel
theorem d_Matrix_readFactors_16 : decode b_Matrix_readFactors 16 = .ok (.iadd, 1) := by decide +kernel
theorem d_Matrix_readFactors_17 : decode b_Matrix_readFactors 17 = .ok (.iconst (2), 1) := by decide +kernel
theorem d_Matrix_readFactors_18 : decode b_Matrix_readFactors 18 = .ok (.iload_n 3, 1) := by decide +kernel
theorem d_Matrix_readFactors_19 : decode b_Matrix_readFactors 19 = .ok (.imul, 1) := by decide +kernel
theorem d_Matrix_readFactors_20 : decode b_Matrix_readFactors 20 = .ok (.iadd, 1) := by decide +kernel
theorem d_Matrix_readFactors_21 : decode b_Matrix_readFactors 21 = .ok (.invokestatic 36, 3) := by decide +kernel
theorem d_Matrix_readFactors_24 : decode b_Matrix_readFactors 24 = .ok (.istore 4, 2) := by decide +kernel
theorem d_Matrix_readFactors_26 : decode b_Matrix_readFactors 26 = .ok (.aload_n 2, 1) := by decide +kernel
theorem d_Matrix_readFactors_27 : decode b_Matrix_readFactors 27 = .ok (.iload_n 3, 1) := by decide +kernel
theorem d_Matrix_readFactors_28 : decode b_Matrix_readFactors 28 = .ok (.iload 4, 2) := by decide +kernel
theorem d_Matrix_readFactors_30 : decode b_Matrix_readFactors 30 = .ok (.ldc 40, 2) := by decide +kernel
theorem d_Matrix_readFactors_32 : decode b_Matrix_readFactors 32 = .ok (.if_icmp .lt (12), 3) := by decide +kernel
theorem d_Matrix_readFactors_35 : decode b_Matrix_readFactors 35 = .ok (.iload 4, 2) := by decide +kernel
theorem d_Matrix_readFactors_37 : decode b_Matrix_readFactors 37 = .ok (.ldc 41, 2) := by decide +kernel
theorem d_Matrix_readFactors_39 : decode b_Matrix_readFactors 39 = .ok (.isub, 1) := by decide +kernel
theorem d_Matrix_readFactors_40 : decode b_Matrix_readFactors 40 = .ok (.i2l, 1) := by decide +kernel
theorem d_Matrix_readFactors_41 : decode b_Matrix_readFactors 41 = .ok (.goto (6), 3) := by decide +kernel
theorem d_Matrix_readFactors_44 : decode b_Matrix_readFactors 44 = .ok (.iload 4, 2) := by decide +kernel
theorem d_Matrix_readFactors_46 : decode b_Matrix_readFactors 46 = .ok (.i2l, 1) := by decide +kernel
theorem d_Matrix_readFactors_47 : decode b_Matrix_readFactors 47 = .ok (.lastore, 1) := by decide +kernel
theorem d_Matrix_readFactors_48 : decode b_Matrix_readFactors 48 = .ok (.iinc 3 (1), 3) := by decide +kernel
theorem d_Matrix_readFactors_51 : decode b_Matrix_readFactors 51 = .ok (.goto (-44), 3) := by decide +kernel
theorem d_Matrix_readFactors_54 : decode b_Matrix_readFactors 54 = .ok (.aload_n 2, 1) := by decide +kernel
theorem d_Matrix_readFactors_55 : decode b_Matrix_readFactors 55 = .ok (.areturn, 1) := by decide +kernel
theorem d_Matrix_isUnit_0 : decode b_Matrix_isUnit 0 = .ok (.iconst (1), 1) := by decide +kernel
theorem d_Matrix_isUnit_1 : decode b_Matrix_isUnit 1 = .ok (.istore_n 1, 1) := by decide +kernel
theorem d_Matrix_isUnit_2 : decode b_Matrix_isUnit 2 = .ok (.iconst (0), 1) := by decide +kernel
theorem d_Matrix_isUnit_3 : decode b_Matrix_isUnit 3 = .ok (.istore_n 2, 1) := by decide +kernel
theorem d_Matrix_isUnit_4 : decode b_Matrix_isUnit 4 = .ok (.iload_n 2, 1) := by decide +kernel
theorem d_Matrix_isUnit_5 : decode b_Matrix_isUnit 5 = .ok (.bipush (9), 2) := by decide +kernel
theorem d_Matrix_isUnit_7 : decode b_Matrix_isUnit 7 = .ok (.if_icmp .ge (40), 3) := by decide +kernel
theorem d_Matrix_isUnit_10 : decode b_Matrix_isUnit 10 = .ok (.iload_n 1, 1) := by decide +kernel
theorem d_Matrix_isUnit_11 : decode b_Matrix_isUnit 11 = .ok (.ifCond .eq (28), 3) := by decide +kernel
theorem d_Matrix_isUnit_14 : decode b_Matrix_isUnit 14 = .ok (.aload_n 0, 1) := by decide +kernel
theorem d_Matrix_isUnit_15 : decode b_Matrix_isUnit 15 = .ok (.iload_n 2, 1) := by decide +kernel
theorem d_Matrix_isUnit_16 : decode b_Matrix_isUnit 16 = .ok (.laload, 1) := by decide +kernel
theorem d_Matrix_isUnit_17 : decode b_Matrix_isUnit 17 = .ok (.iload_n 2, 1) := by decide +kernel
theorem d_Matrix_isUnit_18 : decode b_Matrix_isUnit 18 = .ok (.iconst (4), 1) := by decide +kernel
theorem d_Matrix_isUnit_19 : decode b_Matrix_isUnit 19 = .ok (.irem, 1) := by decide +kernel
theorem d_Matrix_isUnit_20 : decode b_Matrix_isUnit 20 = .ok (.ifCond .ne (9), 3) := by decide +kernel
theorem d_Matrix_isUnit_23 : decode b_Matrix_isUnit 23 = .ok (.sipush (4096), 3) := by decide +kernel
theorem d_Matrix_isUnit_26 : decode b_Matrix_isUnit 26 = .ok (.goto (4), 3) := by decide +kernel
theorem d_Matrix_isUnit_29 : decode b_Matrix_isUnit 29 = .ok (.iconst (0), 1) := by decide +kernel
theorem d_Matrix_isUnit_30 : decode b_Matrix_isUnit 30 = .ok (.i2l, 1) := by decide +kernel
theorem d_Matrix_isUnit_31 : decode b_Matrix_isUnit 31 = .ok (.lcmp, 1) := by decide +kernel
theorem d_Matrix_isUnit_32 : decode b_Matrix_isUnit 32 = .ok (.ifCond .ne (7), 3) := by decide +kernel
theorem d_Matrix_isUnit_35 : decode b_Matrix_isUnit 35 = .ok (.iconst (1), 1) := by decide +kernel
theorem d_Matrix_isUnit_36 : decode b_Matrix_isUnit 36 = .ok (.goto (4), 3) := by decide +kernel
theorem d_Matrix_isUnit_39 : decode b_Matrix_isUnit 39 = .ok (.iconst (0), 1) := by decide +kernel
theorem d_Matrix_isUnit_40 : decode b_Matrix_isUnit 40 = .ok (.istore_n 1, 1) := by decide +kernel
theorem d_Matrix_isUnit_41 : decode b_Matrix_isUnit 41 = .ok (.iinc 2 (1), 3) := by decide +kernel
theorem d_Matrix_isUnit_44 : decode b_Matrix_isUnit 44 = .ok (.goto (-40), 3) := by decide +kernel
theorem d_Matrix_isUnit_47 : decode b_Matrix_isUnit 47 = .ok (.iload_n 1, 1) := by decide +kernel
theorem d_Matrix_isUnit_48 : decode b_Matrix_isUnit 48 = .ok (.ireturn, 1) := by decide +kernel
theorem d_Matrix_init_0 : decode b_Matrix_init 0 = .ok (.aload_n 0, 1) := by decide +kernel
theorem d_Matrix_init_1 : decode b_Matrix_init 1 = .ok (.iload_n 1, 1) := by decide +kernel
theorem d_Matrix_init_2 : decode b_Matrix_init 2 = .ok (.iload_n 2, 1) := by decide +kernel
theorem d_Matrix_init_3 : decode b_Matrix_init 3 = .ok (.invokespecial 3, 3) := by decide +kernel
theorem d_Matrix_init_6 : decode b_Matrix_init 6 = .ok (.aload_n 0, 1) := by decide +kernel
theorem d_Matrix_init_7 : decode b_Matrix_init 7 = .ok (.aload_n 3, 1) := by decide +kernel
theorem d_Matrix_init_8 : decode b_Matrix_init 8 = .ok (.putfield 9, 3) := by decide +kernel
theorem d_Matrix_init_11 : decode b_Matrix_init 11 = .ok (.aload_n 0, 1) := by decide +kernel
theorem d_Matrix_init_12 : decode b_Matrix_init 12 = .ok (.lload 4, 2) := by decide +kernel
theorem d_Matrix_init_14 : decode b_Matrix_init 14 = .ok (.putfield 15, 3) := by decide +kernel
theorem d_Matrix_init_17 : decode b_Matrix_init 17 = .ok (.return_, 1) := by decide +kernel
theorem d_Matrix_forth_0 : decode b_Matrix_forth 0 = .ok (.aload_n 0, 1) := by decide +kernel
theorem d_Matrix_forth_1 : decode b_Matrix_forth 1 = .ok (.iload_n 1, 1) := by decide +kernel
theorem d_Matrix_forth_2 : decode b_Matrix_forth 2 = .ok (.invokestatic 19, 3) := by decide +kernel
theorem d_Matrix_forth_5 : decode b_Matrix_forth 5 = .ok (.astore_n 2, 1) := by decide +kernel
theorem d_Matrix_forth_6 : decode b_Matrix_forth 6 = .ok (.new 10, 3) := by decide +kernel
theorem d_Matrix_forth_9 : decode b_Matrix_forth 9 = .ok (.dup, 1) := by decide +kernel
theorem d_Matrix_forth_10 : decode b_Matrix_forth 10 = .ok (.iconst (2), 1) := by decide +kernel
theorem d_Matrix_forth_11 : decode b_Matrix_forth 11 = .ok (.aload_n 2, 1) := by decide +kernel
theorem d_Matrix_forth_12 : decode b_Matrix_forth 12 = .ok (.invokestatic 23, 3) := by decide +kernel
theorem d_Matrix_forth_15 : decode b_Matrix_forth 15 = .ok (.aload_n 2, 1) := by decide +kernel
theorem d_Matrix_forth_16 : decode b_Matrix_forth 16 = .ok (.ldc2_w 27, 3) := by decide +kernel
theorem d_Matrix_forth_19 : decode b_Matrix_forth 19 = .ok (.invokespecial 29, 3) := by decide +kernel
theorem d_Matrix_forth_22 : decode b_Matrix_forth 22 = .ok (.areturn, 1) := by decide +kernel
theorem d_Matrix_cofactor_0 : decode b_Matrix_cofactor 0 = .ok (.iconst (3), 1) := by decide +kernel
theorem d_Matrix_cofactor_1 : decode b_Matrix_cofactor 1 = .ok (.iload_n 1, 1) := by decide +kernel
theorem d_Matrix_cofactor_2 : decode b_Matrix_cofactor 2 = .ok (.iconst (1), 1) := by decide +kernel
theorem d_Matrix_cofactor_3 : decode b_Matrix_cofactor 3 = .ok (.iadd, 1) := by decide +kernel
theorem d_Matrix_cofactor_4 : decode b_Matrix_cofactor 4 = .ok (.iconst (3), 1) := by decide +kernel
theorem d_Matrix_cofactor_5 : decode b_Matrix_cofactor 5 = .ok (.irem, 1) := by decide +kernel
theorem d_Matrix_cofactor_6 : decode b_Matrix_cofactor 6 = .ok (.imul, 1) := by decide +kernel
theorem d_Matrix_cofactor_7 : decode b_Matrix_cofactor 7 = .ok (.istore_n 3, 1) := by decide +kernel
theorem d_Matrix_cofactor_8 : decode b_Matrix_cofactor 8 = .ok (.iconst (3), 1) := by decide +kernel
theorem d_Matrix_cofactor_9 : decode b_Matrix_cofactor 9 = .ok (.iload_n 1, 1) := by decide +kernel
theorem d_Matrix_cofactor_10 : decode b_Matrix_cofactor 10 = .ok (.iconst (2), 1) := by decide +kernel
theorem d_Matrix_cofactor_11 : decode b_Matrix_cofactor 11 = .ok (.iadd, 1) := by decide +kernel
theorem d_Matrix_cofactor_12 : decode b_Matrix_cofactor 12 = .ok (.iconst (3), 1) := by decide +kernel
theorem d_Matrix_cofactor_13 : decode b_Matrix_cofactor 13 = .ok (.irem, 1) := by decide +kernel
theorem d_Matrix_cofactor_14 : decode b_Matrix_cofactor 14 = .ok (.imul, 1) := by decide +kernel
theorem d_Matrix_cofactor_15 : decode b_Matrix_cofactor 15 = .ok (.istore 4, 2) := by decide +kernel
theorem d_Matrix_cofactor_17 : decode b_Matrix_cofactor 17 = .ok (.iload_n 2, 1) := by decide +kernel
theorem d_Matrix_cofactor_18 : decode b_Matrix_cofactor 18 = .ok (.iconst (1), 1) := by decide +kernel
theorem d_Matrix_cofactor_19 : decode b_Matrix_cofactor 19 = .ok (.iadd, 1) := by decide +kernel
theorem d_Matrix_cofactor_20 : decode b_Matrix_cofactor 20 = .ok (.iconst (3), 1) := by decide +kernel
theorem d_Matrix_cofactor_21 : decode b_Matrix_cofactor 21 = .ok (.irem, 1) := by decide +kernel
theorem d_Matrix_cofactor_22 : decode b_Matrix_cofactor 22 = .ok (.istore 5, 2) := by decide +kernel
theorem d_Matrix_cofactor_24 : decode b_Matrix_cofactor 24 = .ok (.iload_n 2, 1) := by decide +kernel
theorem d_Matrix_cofactor_25 : decode b_Matrix_cofactor 25 = .ok (.iconst (2), 1) := by decide +kernel
theorem d_Matrix_cofactor_26 : decode b_Matrix_cofactor 26 = .ok (.iadd, 1) := by decide +kernel
theorem d_Matrix_cofactor_27 : decode b_Matrix_cofactor 27 = .ok (.iconst (3), 1) := by decide +kernel
theorem d_Matrix_cofactor_28 : decode b_Matrix_cofactor 28 = .ok (.irem, 1) := by decide +kernel
theorem d_Matrix_cofactor_29 : decode b_Matrix_cofactor 29 = .ok (.istore 6, 2) := by decide +kernel
theorem d_Matrix_cofactor_31 : decode b_Matrix_cofactor 31 = .ok (.aload_n 0, 1) := by decide +kernel
theorem d_Matrix_cofactor_32 : decode b_Matrix_cofactor 32 = .ok (.iload_n 3, 1) := by decide +kernel
theorem d_Matrix_cofactor_33 : decode b_Matrix_cofactor 33 = .ok (.iload 5, 2) := by decide +kernel
theorem d_Matrix_cofactor_35 : decode b_Matrix_cofactor 35 = .ok (.iadd, 1) := by decide +kernel
theorem d_Matrix_cofactor_36 : decode b_Matrix_cofactor 36 = .ok (.laload, 1) := by decide +kernel
theorem d_Matrix_cofactor_37 : decode b_Matrix_cofactor 37 = .ok (.aload_n 0, 1) := by decide +kernel
theorem d_Matrix_cofactor_38 : decode b_Matrix_cofactor 38 = .ok (.iload 4, 2) := by decide +kernel
theorem d_Matrix_cofactor_40 : decode b_Matrix_cofactor 40 = .ok (.iload 6, 2) := by decide +kernel
theorem d_Matrix_cofactor_42 : decode b_Matrix_cofactor 42 = .ok (.iadd, 1) := by decide +kernel
theorem d_Matrix_cofactor_43 : decode b_Matrix_cofactor 43 = .ok (.laload, 1) := by decide +kernel
theorem d_Matrix_cofactor_44 : decode b_Matrix_cofactor 44 = .ok (.lmul, 1) := by decide +kernel
theorem d_Matrix_cofactor_45 : decode b_Matrix_cofactor 45 = .ok (.aload_n 0, 1) := by decide +kernel
theorem d_Matrix_cofactor_46 : decode b_Matrix_cofactor 46 = .ok (.iload_n 3, 1) := by decide +kernel
theorem d_Matrix_cofactor_47 : decode b_Matrix_cofactor 47 = .ok (.iload 6, 2) := by decide +kernel
theorem d_Matrix_cofactor_49 : decode b_Matrix_cofactor 49 = .ok (.iadd, 1) := by decide +kernel
theorem d_Matrix_cofactor_50 : decode b_Matrix_cofactor 50 = .ok (.laload, 1) := by decide +kernel
theorem d_Matrix_cofactor_51 : decode b_Matrix_cofactor 51 = .ok (.aload_n 0, 1) := by decide +kernel
theorem d_Matrix_cofactor_52 : decode b_Matrix_cofactor 52 = .ok (.iload 4, 2) := by decide +kernel
theorem d_Matrix_cofactor_54 : decode b_Matrix_cofactor 54 = .ok (.iload 5, 2) := by decide +kernel
theorem d_Matrix_cofactor_56 : decode b_Matrix_cofactor 56 = .ok (.iadd, 1) := by decide +kernel
theorem d_Matrix_cofactor_57 : decode b_Matrix_cofactor 57 = .ok (.laload, 1) := by decide +kernel
theorem d_Matrix_cofactor_58 : decode b_Matrix_cofactor 58 = .ok (.lmul, 1) := by decide +kernel
theorem d_Matrix_cofactor_59 : decode b_Matrix_cofactor 59 = .ok (.lsub, 1) := by decide +kernel
theorem d_Matrix_cofactor_60 : decode b_Matrix_cofactor 60 = .ok (.lreturn, 1) := by decide +kernel
theorem d_Matrix_back_0 : decode b_Matrix_back 0 = .ok (.aload_n 0, 1) := by decide +kernel
theorem d_Matrix_back_1 : decode b_Matrix_back 1 = .ok (.iload_n 1, 1) := by decide +kernel
theorem d_Matrix_back_2 : decode b_Matrix_back 2 = .ok (.invokestatic 19, 3) := by decide +kernel
theorem d_Matrix_back_5 : decode b_Matrix_back 5 = .ok (.astore_n 2, 1) := by decide +kernel
theorem d_Matrix_back_6 : decode b_Matrix_back 6 = .ok (.bipush (9), 2) := by decide +kernel
theorem d_Matrix_back_8 : decode b_Matrix_back 8 = .ok (.newarray .long, 2) := by decide +kernel
theorem d_Matrix_back_10 : decode b_Matrix_back 10 = .ok (.astore_n 3, 1) := by decide +kernel
theorem d_Matrix_back_11 : decode b_Matrix_back 11 = .ok (.iconst (0), 1) := by decide +kernel
theorem d_Matrix_back_12 : decode b_Matrix_back 12 = .ok (.istore 4, 2) := by decide +kernel
theorem d_Matrix_back_14 : decode b_Matrix_back 14 = .ok (.iload 4, 2) := by decide +kernel
theorem d_Matrix_back_16 : decode b_Matrix_back 16 = .ok (.iconst (3), 1) := by decide +kernel
theorem d_Matrix_back_17 : decode b_Matrix_back 17 = .ok (.if_icmp .ge (45), 3) := by decide +kernel
theorem d_Matrix_back_20 : decode b_Matrix_back 20 = .ok (.iconst (0), 1) := by decide +kernel
theorem d_Matrix_back_21 : decode b_Matrix_back 21 = .ok (.istore 5, 2) := by decide +kernel
theorem d_Matrix_back_23 : decode b_Matrix_back 23 = .ok (.iload 5, 2) := by decide +kernel
theorem d_Matrix_back_25 : decode b_Matrix_back 25 = .ok (.iconst (3), 1) := by decide +kernel
theorem d_Matrix_back_26 : decode b_Matrix_back 26 = .ok (.if_icmp .ge (30), 3) := by decide +kernel
theorem d_Matrix_back_29 : decode b_Matrix_back 29 = .ok (.aload_n 3, 1) := by decide +kernel
theorem d_Matrix_back_30 : decode b_Matrix_back 30 = .ok (.iconst (3), 1) := by decide +kernel
theorem d_Matrix_back_31 : decode b_Matrix_back 31 = .ok (.iload 5, 2) := by decide +kernel
theorem d_Matrix_back_33 : decode b_Matrix_back 33 = .ok (.imul, 1) := by decide +kernel
theorem d_Matrix_back_34 : decode b_Matrix_back 34 = .ok (.iload 4, 2) := by decide +kernel
theorem d_Matrix_back_36 : decode b_Matrix_back 36 = .ok (.iadd, 1) := by decide +kernel
theorem d_Matrix_back_37 : decode b_Matrix_back 37 = .ok (.ldc2_w 27, 3) := by decide +kernel
theorem d_Matrix_back_40 : decode b_Matrix_back 40 = .ok (.aload_n 2, 1) := by decide +kernel
theorem d_Matrix_back_41 : decode b_Matrix_back 41 = .ok (.iload 4, 2) := by decide +kernel
theorem d_Matrix_back_43 : decode b_Matrix_back 43 = .ok (.iload 5, 2) := by decide +kernel
theorem d_Matrix_back_45 : decode b_Matrix_back 45 = .ok (.invokestatic 32, 3) := by decide +kernel
theorem d_Matrix_back_48 : decode b_Matrix_back 48 = .ok (.lmul, 1) := by decide +kernel
theorem d_Matrix_back_49 : decode b_Matrix_back 49 = .ok (.lastore, 1) := by decide +kernel
theorem d_Matrix_back_50 : decode b_Matrix_back 50 = .ok (.iinc 5 (1), 3) := by decide +kernel
theorem d_Matrix_back_53 : decode b_Matrix_back 53 = .ok (.goto (-30), 3) := by decide +kernel
theorem d_Matrix_back_56 : decode b_Matrix_back 56 = .ok (.iinc 4 (1), 3) := by decide +kernel
theorem d_Matrix_back_59 : decode b_Matrix_back 59 = .ok (.goto (-45), 3) := by decide +kernel
theorem d_Matrix_back_62 : decode b_Matrix_back 62 = .ok (.aload_n 2, 1) := by decide +kernel
theorem d_Matrix_back_63 : decode b_Matrix_back 63 = .ok (.iconst (0), 1) := by decide +kernel
theorem d_Matrix_back_64 : decode b_Matrix_back 64 = .ok (.laload, 1) := by decide +kernel
theorem d_Matrix_back_65 : decode b_Matrix_back 65 = .ok (.aload_n 2, 1) := by decide +kernel
theorem d_Matrix_back_66 : decode b_Matrix_back 66 = .ok (.iconst (0), 1) := by decide +kernel
theorem d_Matrix_back_67 : decode b_Matrix_back 67 = .ok (.iconst (0), 1) := by decide +kernel
theorem d_Matrix_back_68 : decode b_Matrix_back 68 = .ok (.invokestatic 32, 3) := by decide +kernel
theorem d_Matrix_back_71 : decode b_Matrix_back 71 = .ok (.lmul, 1) := by decide +kernel
theorem d_Matrix_back_72 : decode b_Matrix_back 72 = .ok (.aload_n 2, 1) := by decide +kernel
theorem d_Matrix_back_73 : decode b_Matrix_back 73 = .ok (.iconst (1), 1) := by decide +kernel
theorem d_Matrix_back_74 : decode b_Matrix_back 74 = .ok (.laload, 1) := by decide +kernel
theorem d_Matrix_back_75 : decode b_Matrix_back 75 = .ok (.aload_n 2, 1) := by decide +kernel
theorem d_Matrix_back_76 : decode b_Matrix_back 76 = .ok (.iconst (0), 1) := by decide +kernel
theorem d_Matrix_back_77 : decode b_Matrix_back 77 = .ok (.iconst (1), 1) := by decide +kernel
theorem d_Matrix_back_78 : decode b_Matrix_back 78 = .ok (.invokestatic 32, 3) := by decide +kernel
theorem d_Matrix_back_81 : decode b_Matrix_back 81 = .ok (.lmul, 1) := by decide +kernel
theorem d_Matrix_back_82 : decode b_Matrix_back 82 = .ok (.ladd, 1) := by decide +kernel
theorem d_Matrix_back_83 : decode b_Matrix_back 83 = .ok (.aload_n 2, 1) := by decide +kernel
theorem d_Matrix_back_84 : decode b_Matrix_back 84 = .ok (.iconst (2), 1) := by decide +kernel
theorem d_Matrix_back_85 : decode b_Matrix_back 85 = .ok (.laload, 1) := by decide +kernel
theorem d_Matrix_back_86 : decode b_Matrix_back 86 = .ok (.aload_n 2, 1) := by decide +kernel
theorem d_Matrix_back_87 : decode b_Matrix_back 87 = .ok (.iconst (0), 1) := by decide +kernel
theorem d_Matrix_back_88 : decode b_Matrix_back 88 = .ok (.iconst (2), 1) := by decide +kernel
theorem d_Matrix_back_89 : decode b_Matrix_back 89 = .ok (.invokestatic 32, 3) := by decide +kernel
theorem d_Matrix_back_92 : decode b_Matrix_back 92 = .ok (.lmul, 1) := by decide +kernel
theorem d_Matrix_back_93 : decode b_Matrix_back 93 = .ok (.ladd, 1) := by decide +kernel
theorem d_Matrix_back_94 : decode b_Matrix_back 94 = .ok (.lstore 4, 2) := by decide +kernel
theorem d_Matrix_back_96 : decode b_Matrix_back 96 = .ok (.new 10, 3) := by decide +kernel
theorem d_Matrix_back_99 : decode b_Matrix_back 99 = .ok (.dup, 1) := by decide +kernel
theorem d_Matrix_back_100 : decode b_Matrix_back 100 = .ok (.bipush (10), 2) := by decide +kernel
theorem d_Matrix_back_102 : decode b_Matrix_back 102 = .ok (.aload_n 2, 1) := by decide +kernel
theorem d_Matrix_back_103 : decode b_Matrix_back 103 = .ok (.invokestatic 23, 3) := by decide +kernel
theorem d_Matrix_back_106 : decode b_Matrix_back 106 = .ok (.aload_n 3, 1) := by decide +kernel
theorem d_Matrix_back_107 : decode b_Matrix_back 107 = .ok (.lload 4, 2) := by decide +kernel
theorem d_Matrix_back_109 : decode b_Matrix_back 109 = .ok (.invokespecial 29, 3) := by decide +kernel
theorem d_Matrix_back_112 : decode b_Matrix_back 112 = .ok (.areturn, 1) := by decide +kernel
