theorem d_Buffer_init_0 : decode b_Buffer_init 0 = .ok (.aload_n 0, 1) := by decide +kernel
theorem d_Buffer_init_1 : decode b_Buffer_init 1 = .ok (.invokespecial 3, 3) := by decide +kernel
theorem d_Buffer_init_4 : decode b_Buffer_init 4 = .ok (.aload_n 0, 1) := by decide +kernel
theorem d_Buffer_init_5 : decode b_Buffer_init 5 = .ok (.sipush (256), 3) := by decide +kernel
theorem d_Buffer_init_8 : decode b_Buffer_init 8 = .ok (.newarray .int, 2) := by decide +kernel
theorem d_Buffer_init_10 : decode b_Buffer_init 10 = .ok (.putfield 9, 3) := by decide +kernel
theorem d_Buffer_init_13 : decode b_Buffer_init 13 = .ok (.return_, 1) := by decide +kernel
theorem d_Piece_init_0 : decode b_Piece_init 0 = .ok (.aload_n 0, 1) := by decide +kernel
theorem d_Piece_init_1 : decode b_Piece_init 1 = .ok (.invokespecial 1, 3) := by decide +kernel
theorem d_Piece_init_4 : decode b_Piece_init 4 = .ok (.aload_n 0, 1) := by decide +kernel
theorem d_Piece_init_5 : decode b_Piece_init 5 = .ok (.iload_n 1, 1) := by decide +kernel
theorem d_Piece_init_6 : decode b_Piece_init 6 = .ok (.putfield 7, 3) := by decide +kernel
theorem d_Piece_init_9 : decode b_Piece_init 9 = .ok (.aload_n 0, 1) := by decide +kernel
theorem d_Piece_init_10 : decode b_Piece_init 10 = .ok (.iload_n 2, 1) := by decide +kernel
theorem d_Piece_init_11 : decode b_Piece_init 11 = .ok (.putfield 13, 3) := by decide +kernel
theorem d_Piece_init_14 : decode b_Piece_init 14 = .ok (.return_, 1) := by decide +kernel
theorem d_LabXyz_init_0 : decode b_LabXyz_init 0 = .ok (.aload_n 0, 1) := by decide +kernel
theorem d_LabXyz_init_1 : decode b_LabXyz_init 1 = .ok (.iload_n 1, 1) := by decide +kernel
theorem d_LabXyz_init_2 : decode b_LabXyz_init 2 = .ok (.iconst (0), 1) := by decide +kernel
theorem d_LabXyz_init_3 : decode b_LabXyz_init 3 = .ok (.invokespecial 3, 3) := by decide +kernel
theorem d_LabXyz_init_6 : decode b_LabXyz_init 6 = .ok (.return_, 1) := by decide +kernel
theorem d_CL_init_0 : decode b_CL_init 0 = .ok (.aload_n 0, 1) := by decide +kernel
theorem d_CL_init_1 : decode b_CL_init 1 = .ok (.invokespecial 3, 3) := by decide +kernel
theorem d_CL_init_4 : decode b_CL_init 4 = .ok (.aload_n 0, 1) := by decide +kernel
theorem d_CL_init_5 : decode b_CL_init 5 = .ok (.new 9, 3) := by decide +kernel
theorem d_CL_init_8 : decode b_CL_init 8 = .ok (.dup, 1) := by decide +kernel
theorem d_CL_init_9 : decode b_CL_init 9 = .ok (.invokespecial 11, 3) := by decide +kernel
theorem d_CL_init_12 : decode b_CL_init 12 = .ok (.putfield 12, 3) := by decide +kernel
theorem d_CL_init_15 : decode b_CL_init 15 = .ok (.aload_n 0, 1) := by decide +kernel
theorem d_CL_init_16 : decode b_CL_init 16 = .ok (.bipush (6), 2) := by decide +kernel
theorem d_CL_init_18 : decode b_CL_init 18 = .ok (.anewarray 16, 3) := by decide +kernel
theorem d_CL_init_21 : decode b_CL_init 21 = .ok (.putfield 18, 3) := by decide +kernel
theorem d_CL_init_24 : decode b_CL_init 24 = .ok (.aload_n 0, 1) := by decide +kernel
theorem d_CL_init_25 : decode b_CL_init 25 = .ok (.bipush (16), 2) := by decide +kernel
theorem d_CL_init_27 : decode b_CL_init 27 = .ok (.anewarray 22, 3) := by decide +kernel
theorem d_CL_init_30 : decode b_CL_init 30 = .ok (.putfield 24, 3) := by decide +kernel
theorem d_CL_init_33 : decode b_CL_init 33 = .ok (.aload_n 0, 1) := by decide +kernel
theorem d_CL_init_34 : decode b_CL_init 34 = .ok (.new 28, 3) := by decide +kernel
theorem d_CL_init_37 : decode b_CL_init 37 = .ok (.dup, 1) := by decide +kernel
theorem d_CL_init_38 : decode b_CL_init 38 = .ok (.iconst (5), 1) := by decide +kernel
theorem d_CL_init_39 : decode b_CL_init 39 = .ok (.invokespecial 30, 3) := by decide +kernel
theorem d_CL_init_42 : decode b_CL_init 42 = .ok (.putfield 33, 3) := by decide +kernel
theorem d_CL_init_45 : decode b_CL_init 45 = .ok (.aload_n 0, 1) := by decide +kernel
theorem d_CL_init_46 : decode b_CL_init 46 = .ok (.new 28, 3) := by decide +kernel
theorem d_CL_init_49 : decode b_CL_init 49 = .ok (.dup, 1) := by decide +kernel
theorem d_CL_init_50 : decode b_CL_init 50 = .ok (.bipush (6), 2) := by decide +kernel
theorem d_CL_init_52 : decode b_CL_init 52 = .ok (.invokespecial 30, 3) := by decide +kernel
theorem d_CL_init_55 : decode b_CL_init 55 = .ok (.putfield 37, 3) := by decide +kernel
theorem d_CL_init_58 : decode b_CL_init 58 = .ok (.aload_n 0, 1) := by decide +kernel
theorem d_CL_init_59 : decode b_CL_init 59 = .ok (.bipush (32), 2) := by decide +kernel
theorem d_CL_init_61 : decode b_CL_init 61 = .ok (.anewarray 40, 3) := by decide +kernel
theorem d_CL_init_64 : decode b_CL_init 64 = .ok (.putfield 42, 3) := by decide +kernel
theorem d_CL_init_67 : decode b_CL_init 67 = .ok (.aload_n 0, 1) := by decide +kernel
theorem d_CL_init_68 : decode b_CL_init 68 = .ok (.iconst (3), 1) := by decide +kernel
theorem d_CL_init_69 : decode b_CL_init 69 = .ok (.newarray .int, 2) := by decide +kernel
theorem d_CL_init_71 : decode b_CL_init 71 = .ok (.putfield 46, 3) := by decide +kernel
theorem d_CL_init_74 : decode b_CL_init 74 = .ok (.return_, 1) := by decide +kernel
theorem d_Mo_init_0 : decode b_Mo_init 0 = .ok (.aload_n 0, 1) := by decide +kernel
theorem d_Mo_init_1 : decode b_Mo_init 1 = .ok (.invokespecial 1, 3) := by decide +kernel
theorem d_Mo_init_4 : decode b_Mo_init 4 = .ok (.aload_n 0, 1) := by decide +kernel
theorem d_Mo_init_5 : decode b_Mo_init 5 = .ok (.sipush (256), 3) := by decide +kernel
theorem d_Mo_init_8 : decode b_Mo_init 8 = .ok (.newarray .int, 2) := by decide +kernel
theorem d_Mo_init_10 : decode b_Mo_init 10 = .ok (.putfield 7, 3) := by decide +kernel
theorem d_Mo_init_13 : decode b_Mo_init 13 = .ok (.aload_n 0, 1) := by decide +kernel
theorem d_Mo_init_14 : decode b_Mo_init 14 = .ok (.sipush (1536), 3) := by decide +kernel
theorem d_Mo_init_17 : decode b_Mo_init 17 = .ok (.newarray .int, 2) := by decide +kernel
theorem d_Mo_init_19 : decode b_Mo_init 19 = .ok (.putfield 13, 3) := by decide +kernel
theorem d_Mo_init_22 : decode b_Mo_init 22 = .ok (.aload_n 0, 1) := by decide +kernel
theorem d_Mo_init_23 : decode b_Mo_init 23 = .ok (.bipush (16), 2) := by decide +kernel
theorem d_Mo_init_25 : decode b_Mo_init 25 = .ok (.newarray .int, 2) := by decide +kernel
theorem d_Mo_init_27 : decode b_Mo_init 27 = .ok (.putfield 16, 3) := by decide +kernel
theorem d_Mo_init_30 : decode b_Mo_init 30 = .ok (.aload_n 0, 1) := by decide +kernel
theorem d_Mo_init_31 : decode b_Mo_init 31 = .ok (.bipush (16), 2) := by decide +kernel
theorem d_Mo_init_33 : decode b_Mo_init 33 = .ok (.newarray .int, 2) := by decide +kernel
theorem d_Mo_init_35 : decode b_Mo_init 35 = .ok (.putfield 19, 3) := by decide +kernel
theorem d_Mo_init_38 : decode b_Mo_init 38 = .ok (.aload_n 0, 1) := by decide +kernel
theorem d_Mo_init_39 : decode b_Mo_init 39 = .ok (.bipush (16), 2) := by decide +kernel
theorem d_Mo_init_41 : decode b_Mo_init 41 = .ok (.newarray .int, 2) := by decide +kernel
theorem d_Mo_init_43 : decode b_Mo_init 43 = .ok (.putfield 22, 3) := by decide +kernel
theorem d_Mo_init_46 : decode b_Mo_init 46 = .ok (.aload_n 0, 1) := by decide +kernel
theorem d_Mo_init_47 : decode b_Mo_init 47 = .ok (.bipush (16), 2) := by decide +kernel
theorem d_Mo_init_49 : decode b_Mo_init 49 = .ok (.newarray .int, 2) := by decide +kernel
theorem d_Mo_init_51 : decode b_Mo_init 51 = .ok (.putfield 25, 3) := by decide +kernel
theorem d_Mo_init_54 : decode b_Mo_init 54 = .ok (.aload_n 0, 1) := by decide +kernel
theorem d_Mo_init_55 : decode b_Mo_init 55 = .ok (.bipush (16), 2) := by decide +kernel
theorem d_Mo_init_57 : decode b_Mo_init 57 = .ok (.newarray .boolean, 2) := by decide +kernel
theorem d_Mo_init_59 : decode b_Mo_init 59 = .ok (.putfield 28, 3) := by decide +kernel
theorem d_Mo_init_62 : decode b_Mo_init 62 = .ok (.aload_n 0, 1) := by decide +kernel
theorem d_Mo_init_63 : decode b_Mo_init 63 = .ok (.bipush (16), 2) := by decide +kernel
theorem d_Mo_init_65 : decode b_Mo_init 65 = .ok (.newarray .long, 2) := by decide +kernel
theorem d_Mo_init_67 : decode b_Mo_init 67 = .ok (.putfield 32, 3) := by decide +kernel
theorem d_Mo_init_70 : decode b_Mo_init 70 = .ok (.aload_n 0, 1) := by decide +kernel
theorem d_Mo_init_71 : decode b_Mo_init 71 = .ok (.bipush (40), 2) := by decide +kernel
theorem d_Mo_init_73 : decode b_Mo_init 73 = .ok (.newarray .int, 2) := by decide +kernel
theorem d_Mo_init_75 : decode b_Mo_init 75 = .ok (.putfield 36, 3) := by decide +kernel
theorem d_Mo_init_78 : decode b_Mo_init 78 = .ok (.aload_n 0, 1) := by decide +kernel
theorem d_Mo_init_79 : decode b_Mo_init 79 = .ok (.bipush (40), 2) := by decide +kernel
theorem d_Mo_init_81 : decode b_Mo_init 81 = .ok (.newarray .int, 2) := by decide +kernel
theorem d_Mo_init_83 : decode b_Mo_init 83 = .ok (.putfield 39, 3) := by decide +kernel
theorem d_Mo_init_86 : decode b_Mo_init 86 = .ok (.aload_n 0, 1) := by decide +kernel
theorem d_Mo_init_87 : decode b_Mo_init 87 = .ok (.bipush (40), 2) := by decide +kernel
theorem d_Mo_init_89 : decode b_Mo_init 89 = .ok (.newarray .int, 2) := by decide +kernel
theorem d_Mo_init_91 : decode b_Mo_init 91 = .ok (.putfield 42, 3) := by decide +kernel
theorem d_Mo_init_94 : decode b_Mo_init 94 = .ok (.aload_n 0, 1) := by decide +kernel
theorem d_Mo_init_95 : decode b_Mo_init 95 = .ok (.bipush (40), 2) := by decide +kernel
theorem d_Mo_init_97 : decode b_Mo_init 97 = .ok (.newarray .int, 2) := by decide +kernel
theorem d_Mo_init_99 : decode b_Mo_init 99 = .ok (.putfield 45, 3) := by decide +kernel
theorem d_Mo_init_102 : decode b_Mo_init 102 = .ok (.aload_n 0, 1) := by decide +kernel
theorem d_Mo_init_103 : decode b_Mo_init 103 = .ok (.bipush (16), 2) := by decide +kernel
theorem d_Mo_init_105 : decode b_Mo_init 105 = .ok (.newarray .int, 2) := by decide +kernel
theorem d_Mo_init_107 : decode b_Mo_init 107 = .ok (.putfield 48, 3) := by decide +kernel
theorem d_Mo_init_110 : decode b_Mo_init 110 = .ok (.aload_n 0, 1) := by decide +kernel
theorem d_Mo_init_111 : decode b_Mo_init 111 = .ok (.iconst (3), 1) := by decide +kernel
theorem d_Mo_init_112 : decode b_Mo_init 112 = .ok (.newarray .long, 2) := by decide +kernel
theorem d_Mo_init_114 : decode b_Mo_init 114 = .ok (.putfield 51, 3) := by decide +kernel
theorem d_Mo_init_117 : decode b_Mo_init 117 = .ok (.aload_n 0, 1) := by decide +kernel
theorem d_Mo_init_118 : decode b_Mo_init 118 = .ok (.iconst (3), 1) := by decide +kernel
theorem d_Mo_init_119 : decode b_Mo_init 119 = .ok (.newarray .long, 2) := by decide +kernel
theorem d_Mo_init_121 : decode b_Mo_init 121 = .ok (.putfield 54, 3) := by decide +kernel
theorem d_Mo_init_124 : decode b_Mo_init 124 = .ok (.aload_n 0, 1) := by decide +kernel
theorem d_Mo_init_125 : decode b_Mo_init 125 = .ok (.bipush (9), 2) := by decide +kernel
theorem d_Mo_init_127 : decode b_Mo_init 127 = .ok (.newarray .long, 2) := by decide +kernel
theorem d_Mo_init_129 : decode b_Mo_init 129 = .ok (.putfield 57, 3) := by decide +kernel
theorem d_Mo_init_132 : decode b_Mo_init 132 = .ok (.return_, 1) := by decide +kernel
theorem d_Buffer_append_0 : decode b_Buffer_append 0 = .ok (.iload_n 2, 1) := by decide +kernel
theorem d_Buffer_append_1 : decode b_Buffer_append 1 = .ok (.iconst (1), 1) := by decide +kernel
theorem d_Buffer_append_2 : decode b_Buffer_append 2 = .ok (.if_icmp .lt (20), 3) := by decide +kernel
theorem d_Buffer_append_5 : decode b_Buffer_append 5 = .ok (.iload_n 2, 1) := by decide +kernel
theorem d_Buffer_append_6 : decode b_Buffer_append 6 = .ok (.iconst (4), 1) := by decide +kernel
theorem d_Buffer_append_7 : decode b_Buffer_append 7 = .ok (.if_icmp .gt (15), 3) := by decide +kernel
theorem d_Buffer_append_10 : decode b_Buffer_append 10 = .ok (.aload_n 0, 1) := by decide +kernel
theorem d_Buffer_append_11 : decode b_Buffer_append 11 = .ok (.getfield 15, 3) := by decide +kernel
theorem d_Buffer_append_14 : decode b_Buffer_append 14 = .ok (.iload_n 2, 1) := by decide +kernel
theorem d_Buffer_append_15 : decode b_Buffer_append 15 = .ok (.iadd, 1) := by decide +kernel
theorem d_Buffer_append_16 : decode b_Buffer_append 16 = .ok (.sipush (256), 3) := by decide +kernel
theorem d_Buffer_append_19 : decode b_Buffer_append 19 = .ok (.if_icmp .le (5), 3) := by decide +kernel
theorem d_Buffer_append_22 : decode b_Buffer_append 22 = .ok (.iconst (0), 1) := by decide +kernel
theorem d_Buffer_append_23 : decode b_Buffer_append 23 = .ok (.ireturn, 1) := by decide +kernel
theorem d_Buffer_append_24 : decode b_Buffer_append 24 = .ok (.iload_n 2, 1) := by decide +kernel
theorem d_Buffer_append_25 : decode b_Buffer_append 25 = .ok (.iconst (1), 1) := by decide +kernel
theorem d_Buffer_append_26 : decode b_Buffer_append 26 = .ok (.isub, 1) := by decide +kernel
theorem d_Buffer_append_27 : decode b_Buffer_append 27 = .ok (.istore_n 3, 1) := by decide +kernel
theorem d_Buffer_append_28 : decode b_Buffer_append 28 = .ok (.iload_n 3, 1) := by decide +kernel
theorem d_Buffer_append_29 : decode b_Buffer_append 29 = .ok (.ifCond .lt (38), 3) := by decide +kernel
theorem d_Buffer_append_32 : decode b_Buffer_append 32 = .ok (.aload_n 0, 1) := by decide +kernel
theorem d_Buffer_append_33 : decode b_Buffer_append 33 = .ok (.getfield 9, 3) := by decide +kernel
theorem d_Buffer_append_36 : decode b_Buffer_append 36 = .ok (.aload_n 0, 1) := by decide +kernel
theorem d_Buffer_append_37 : decode b_Buffer_append 37 = .ok (.getfield 15, 3) := by decide +kernel
theorem d_Buffer_append_40 : decode b_Buffer_append 40 = .ok (.iload_n 1, 1) := by decide +kernel
theorem d_Buffer_append_41 : decode b_Buffer_append 41 = .ok (.bipush (8), 2) := by decide +kernel
theorem d_Buffer_append_43 : decode b_Buffer_append 43 = .ok (.iload_n 3, 1) := by decide +kernel
theorem d_Buffer_append_44 : decode b_Buffer_append 44 = .ok (.imul, 1) := by decide +kernel
theorem d_Buffer_append_45 : decode b_Buffer_append 45 = .ok (.iushr, 1) := by decide +kernel
theorem d_Buffer_append_46 : decode b_Buffer_append 46 = .ok (.sipush (255), 3) := by decide +kernel
theorem d_Buffer_append_49 : decode b_Buffer_append 49 = .ok (.iand, 1) := by decide +kernel
theorem d_Buffer_append_50 : decode b_Buffer_append 50 = .ok (.iastore, 1) := by decide +kernel
theorem d_Buffer_append_51 : decode b_Buffer_append 51 = .ok (.aload_n 0, 1) := by decide +kernel
theorem d_Buffer_append_52 : decode b_Buffer_append 52 = .ok (.dup, 1) := by decide +kernel
theorem d_Buffer_append_53 : decode b_Buffer_append 53 = .ok (.getfield 15, 3) := by decide +kernel
theorem d_Buffer_append_56 : decode b_Buffer_append 56 = .ok (.iconst (1), 1) := by decide +kernel
theorem d_Buffer_append_57 : decode b_Buffer_append 57 = .ok (.iadd, 1) := by decide +kernel
theorem d_Buffer_append_58 : decode b_Buffer_append 58 = .ok (.putfield 15, 3) := by decide +kernel
theorem d_Buffer_append_61 : decode b_Buffer_append 61 = .ok (.iinc 3 (-1), 3) := by decide +kernel
theorem d_Buffer_append_64 : decode b_Buffer_append 64 = .ok (.goto (-36), 3) := by decide +kernel
theorem d_Buffer_append_67 : decode b_Buffer_append 67 = .ok (.iconst (1), 1) := by decide +kernel
theorem d_Buffer_append_68 : decode b_Buffer_append 68 = .ok (.ireturn, 1) := by decide +kernel
theorem d_CL_add_0 : decode b_CL_add 0 = .ok (.aload_n 0, 1) := by decide +kernel
theorem d_CL_add_1 : decode b_CL_add 1 = .ok (.getfield 12, 3) := by decide +kernel
theorem d_CL_add_4 : decode b_CL_add 4 = .ok (.iload_n 1, 1) := by decide +kernel
theorem d_CL_add_5 : decode b_CL_add 5 = .ok (.iload_n 2, 1) := by decide +kernel
theorem d_CL_add_6 : decode b_CL_add 6 = .ok (.invokevirtual 50, 3) := by decide +kernel
theorem d_CL_add_9 : decode b_CL_add 9 = .ok (.ireturn, 1) := by decide +kernel
theorem d_Mo_add_0 : decode b_Mo_add 0 = .ok (.iload_n 2, 1) := by decide +kernel
theorem d_Mo_add_1 : decode b_Mo_add 1 = .ok (.iconst (1), 1) := by decide +kernel
theorem d_Mo_add_2 : decode b_Mo_add 2 = .ok (.if_icmp .lt (20), 3) := by decide +kernel
theorem d_Mo_add_5 : decode b_Mo_add 5 = .ok (.iload_n 2, 1) := by decide +kernel
theorem d_Mo_add_6 : decode b_Mo_add 6 = .ok (.iconst (4), 1) := by decide +kernel
theorem d_Mo_add_7 : decode b_Mo_add 7 = .ok (.if_icmp .gt (15), 3) := by decide +kernel
theorem d_Mo_add_10 : decode b_Mo_add 10 = .ok (.aload_n 0, 1) := by decide +kernel
theorem d_Mo_add_11 : decode b_Mo_add 11 = .ok (.getfield 60, 3) := by decide +kernel
theorem d_Mo_add_14 : decode b_Mo_add 14 = .ok (.sipush (256), 3) := by decide +kernel
theorem d_Mo_add_17 : decode b_Mo_add 17 = .ok (.iload_n 2, 1) := by decide +kernel
theorem d_Mo_add_18 : decode b_Mo_add 18 = .ok (.isub, 1) := by decide +kernel
theorem d_Mo_add_19 : decode b_Mo_add 19 = .ok (.if_icmp .le (5), 3) := by decide +kernel
theorem d_Mo_add_22 : decode b_Mo_add 22 = .ok (.iconst (0), 1) := by decide +kernel
theorem d_Mo_add_23 : decode b_Mo_add 23 = .ok (.ireturn, 1) := by decide +kernel
theorem d_Mo_add_24 : decode b_Mo_add 24 = .ok (.iload_n 2, 1) := by decide +kernel
theorem d_Mo_add_25 : decode b_Mo_add 25 = .ok (.iconst (1), 1) := by decide +kernel
theorem d_Mo_add_26 : decode b_Mo_add 26 = .ok (.isub, 1) := by decide +kernel
theorem d_Mo_add_27 : decode b_Mo_add 27 = .ok (.istore_n 3, 1) := by decide +kernel
theorem d_Mo_add_28 : decode b_Mo_add 28 = .ok (.iload_n 3, 1) := by decide +kernel
theorem d_Mo_add_29 : decode b_Mo_add 29 = .ok (.ifCond .lt (38), 3) := by decide +kernel
theorem d_Mo_add_32 : decode b_Mo_add 32 = .ok (.aload_n 0, 1) := by decide +kernel
theorem d_Mo_add_33 : decode b_Mo_add 33 = .ok (.getfield 7, 3) := by decide +kernel
theorem d_Mo_add_36 : decode b_Mo_add 36 = .ok (.aload_n 0, 1) := by decide +kernel
theorem d_Mo_add_37 : decode b_Mo_add 37 = .ok (.getfield 60, 3) := by decide +kernel
theorem d_Mo_add_40 : decode b_Mo_add 40 = .ok (.iload_n 1, 1) := by decide +kernel
theorem d_Mo_add_41 : decode b_Mo_add 41 = .ok (.bipush (8), 2) := by decide +kernel
theorem d_Mo_add_43 : decode b_Mo_add 43 = .ok (.iload_n 3, 1) := by decide +kernel
theorem d_Mo_add_44 : decode b_Mo_add 44 = .ok (.imul, 1) := by decide +kernel
theorem d_Mo_add_45 : decode b_Mo_add 45 = .ok (.ishr, 1) := by decide +kernel
theorem d_Mo_add_46 : decode b_Mo_add 46 = .ok (.sipush (255), 3) := by decide +kernel
theorem d_Mo_add_49 : decode b_Mo_add 49 = .ok (.iand, 1) := by decide +kernel
theorem d_Mo_add_50 : decode b_Mo_add 50 = .ok (.iastore, 1) := by decide +kernel
theorem d_Mo_add_51 : decode b_Mo_add 51 = .ok (.aload_n 0, 1) := by decide +kernel
theorem d_Mo_add_52 : decode b_Mo_add 52 = .ok (.dup, 1) := by decide +kernel
theorem d_Mo_add_53 : decode b_Mo_add 53 = .ok (.getfield 60, 3) := by decide +kernel
theorem d_Mo_add_56 : decode b_Mo_add 56 = .ok (.iconst (1), 1) := by decide +kernel
theorem d_Mo_add_57 : decode b_Mo_add 57 = .ok (.iadd, 1) := by decide +kernel
theorem d_Mo_add_58 : decode b_Mo_add 58 = .ok (.putfield 60, 3) := by decide +kernel
theorem d_Mo_add_61 : decode b_Mo_add 61 = .ok (.iinc 3 (-1), 3) := by decide +kernel
theorem d_Mo_add_64 : decode b_Mo_add 64 = .ok (.goto (-36), 3) := by decide +kernel
theorem d_Mo_add_67 : decode b_Mo_add 67 = .ok (.iconst (1), 1) := by decide +kernel
theorem d_Mo_add_68 : decode b_Mo_add 68 = .ok (.ireturn, 1) := by decide +kernel
theorem d_Buffer_replace_0 : decode b_Buffer_replace 0 = .ok (.iload_n 1, 1) := by decide +kernel
theorem d_Buffer_replace_1 : decode b_Buffer_replace 1 = .ok (.ifCond .lt (22), 3) := by decide +kernel
theorem d_Buffer_replace_4 : decode b_Buffer_replace 4 = .ok (.iload_n 1, 1) := by decide +kernel
theorem d_Buffer_replace_5 : decode b_Buffer_replace 5 = .ok (.aload_n 0, 1) := by decide +kernel
theorem d_Buffer_replace_6 : decode b_Buffer_replace 6 = .ok (.getfield 15, 3) := by decide +kernel
theorem d_Buffer_replace_9 : decode b_Buffer_replace 9 = .ok (.if_icmp .ge (14), 3) := by decide +kernel
theorem d_Buffer_replace_12 : decode b_Buffer_replace 12 = .ok (.iload_n 2, 1) := by decide +kernel
theorem d_Buffer_replace_13 : decode b_Buffer_replace 13 = .ok (.ifCond .lt (10), 3) := by decide +kernel
theorem d_Buffer_replace_16 : decode b_Buffer_replace 16 = .ok (.iload_n 2, 1) := by decide +kernel
theorem d_Buffer_replace_17 : decode b_Buffer_replace 17 = .ok (.sipush (255), 3) := by decide +kernel
theorem d_Buffer_replace_20 : decode b_Buffer_replace 20 = .ok (.if_icmp .le (5), 3) := by decide +kernel
theorem d_Buffer_replace_23 : decode b_Buffer_replace 23 = .ok (.iconst (0), 1) := by decide +kernel
theorem d_Buffer_replace_24 : decode b_Buffer_replace 24 = .ok (.ireturn, 1) := by decide +kernel
theorem d_Buffer_replace_25 : decode b_Buffer_replace 25 = .ok (.aload_n 0, 1) := by decide +kernel
theorem d_Buffer_replace_26 : decode b_Buffer_replace 26 = .ok (.getfield 9, 3) := by decide +kernel
theorem d_Buffer_replace_29 : decode b_Buffer_replace 29 = .ok (.iload_n 1, 1) := by decide +kernel
theorem d_Buffer_replace_30 : decode b_Buffer_replace 30 = .ok (.iload_n 2, 1) := by decide +kernel
theorem d_Buffer_replace_31 : decode b_Buffer_replace 31 = .ok (.iastore, 1) := by decide +kernel
theorem d_Buffer_replace_32 : decode b_Buffer_replace 32 = .ok (.iconst (1), 1) := by decide +kernel
theorem d_Buffer_replace_33 : decode b_Buffer_replace 33 = .ok (.ireturn, 1) := by decide +kernel
theorem d_CL_set_0 : decode b_CL_set 0 = .ok (.aload_n 0, 1) := by decide +kernel
theorem d_CL_set_1 : decode b_CL_set 1 = .ok (.getfield 12, 3) := by decide +kernel
theorem d_CL_set_4 : decode b_CL_set 4 = .ok (.iload_n 1, 1) := by decide +kernel
theorem d_CL_set_5 : decode b_CL_set 5 = .ok (.iload_n 2, 1) := by decide +kernel
theorem d_CL_set_6 : decode b_CL_set 6 = .ok (.invokevirtual 54, 3) := by decide +kernel
theorem d_CL_set_9 : decode b_CL_set 9 = .ok (.ireturn, 1) := by decide +kernel
theorem d_Mo_set_0 : decode b_Mo_set 0 = .ok (.iload_n 1, 1) := by decide +kernel
theorem d_Mo_set_1 : decode b_Mo_set 1 = .ok (.ifCond .lt (22), 3) := by decide +kernel
theorem d_Mo_set_4 : decode b_Mo_set 4 = .ok (.iload_n 1, 1) := by decide +kernel
theorem d_Mo_set_5 : decode b_Mo_set 5 = .ok (.aload_n 0, 1) := by decide +kernel
theorem d_Mo_set_6 : decode b_Mo_set 6 = .ok (.getfield 60, 3) := by decide +kernel
theorem d_Mo_set_9 : decode b_Mo_set 9 = .ok (.if_icmp .ge (14), 3) := by decide +kernel
theorem d_Mo_set_12 : decode b_Mo_set 12 = .ok (.iload_n 2, 1) := by decide +kernel
theorem d_Mo_set_13 : decode b_Mo_set 13 = .ok (.ifCond .lt (10), 3) := by decide +kernel
theorem d_Mo_set_16 : decode b_Mo_set 16 = .ok (.iload_n 2, 1) := by decide +kernel
theorem d_Mo_set_17 : decode b_Mo_set 17 = .ok (.sipush (255), 3) := by decide +kernel
theorem d_Mo_set_20 : decode b_Mo_set 20 = .ok (.if_icmp .le (5), 3) := by decide +kernel
theorem d_Mo_set_23 : decode b_Mo_set 23 = .ok (.iconst (0), 1) := by decide +kernel
theorem d_Mo_set_24 : decode b_Mo_set 24 = .ok (.ireturn, 1) := by decide +kernel
theorem d_Mo_set_25 : decode b_Mo_set 25 = .ok (.aload_n 0, 1) := by decide +kernel
theorem d_Mo_set_26 : decode b_Mo_set 26 = .ok (.getfield 7, 3) := by decide +kernel
theorem d_Mo_set_29 : decode b_Mo_set 29 = .ok (.iload_n 1, 1) := by decide +kernel
theorem d_Mo_set_30 : decode b_Mo_set 30 = .ok (.iload_n 2, 1) := by decide +kernel
theorem d_Mo_set_31 : decode b_Mo_set 31 = .ok (.iastore, 1) := by decide +kernel
theorem d_Mo_set_32 : decode b_Mo_set 32 = .ok (.iconst (1), 1) := by decide +kernel
theorem d_Mo_set_33 : decode b_Mo_set 33 = .ok (.ireturn, 1) := by decide +kernel
theorem d_CL_clear_0 : decode b_CL_clear 0 = .ok (.aload_n 0, 1) := by decide +kernel
theorem d_CL_clear_1 : decode b_CL_clear 1 = .ok (.getfield 12, 3) := by decide +kernel
theorem d_CL_clear_4 : decode b_CL_clear 4 = .ok (.iconst (0), 1) := by decide +kernel
theorem d_CL_clear_5 : decode b_CL_clear 5 = .ok (.putfield 57, 3) := by decide +kernel
theorem d_CL_clear_8 : decode b_CL_clear 8 = .ok (.return_, 1) := by decide +kernel
theorem d_Mo_clear_0 : decode b_Mo_clear 0 = .ok (.aload_n 0, 1) := by decide +kernel
theorem d_Mo_clear_1 : decode b_Mo_clear 1 = .ok (.iconst (0), 1) := by decide +kernel
theorem d_Mo_clear_2 : decode b_Mo_clear 2 = .ok (.putfield 60, 3) := by decide +kernel
theorem d_Mo_clear_5 : decode b_Mo_clear 5 = .ok (.return_, 1) := by decide +kernel
theorem d_CL_size_0 : decode b_CL_size 0 = .ok (.aload_n 0, 1) := by decide +kernel
theorem d_CL_size_1 : decode b_CL_size 1 = .ok (.getfield 12, 3) := by decide +kernel
theorem d_CL_size_4 : decode b_CL_size 4 = .ok (.getfield 57, 3) := by decide +kernel
theorem d_CL_size_7 : decode b_CL_size 7 = .ok (.ireturn, 1) := by decide +kernel
theorem d_Mo_size_0 : decode b_Mo_size 0 = .ok (.aload_n 0, 1) := by decide +kernel
theorem d_Mo_size_1 : decode b_Mo_size 1 = .ok (.getfield 60, 3) := by decide +kernel
theorem d_Mo_size_4 : decode b_Mo_size 4 = .ok (.ireturn, 1) := by decide +kernel
theorem d_Buffer_byteAt_0 : decode b_Buffer_byteAt 0 = .ok (.iload_n 1, 1) := by decide +kernel
theorem d_Buffer_byteAt_1 : decode b_Buffer_byteAt 1 = .ok (.ifCond .lt (20), 3) := by decide +kernel
theorem d_Buffer_byteAt_4 : decode b_Buffer_byteAt 4 = .ok (.iload_n 1, 1) := by decide +kernel
theorem d_Buffer_byteAt_5 : decode b_Buffer_byteAt 5 = .ok (.aload_n 0, 1) := by decide +kernel
theorem d_Buffer_byteAt_6 : decode b_Buffer_byteAt 6 = .ok (.getfield 15, 3) := by decide +kernel
theorem d_Buffer_byteAt_9 : decode b_Buffer_byteAt 9 = .ok (.if_icmp .ge (12), 3) := by decide +kernel
theorem d_Buffer_byteAt_12 : decode b_Buffer_byteAt 12 = .ok (.aload_n 0, 1) := by decide +kernel
theorem d_Buffer_byteAt_13 : decode b_Buffer_byteAt 13 = .ok (.getfield 9, 3) := by decide +kernel
theorem d_Buffer_byteAt_16 : decode b_Buffer_byteAt 16 = .ok (.iload_n 1, 1) := by decide +kernel
theorem d_Buffer_byteAt_17 : decode b_Buffer_byteAt 17 = .ok (.iaload, 1) := by decide +kernel
theorem d_Buffer_byteAt_18 : decode b_Buffer_byteAt 18 = .ok (.goto (4), 3) := by decide +kernel
theorem d_Buffer_byteAt_21 : decode b_Buffer_byteAt 21 = .ok (.iconst (-1), 1) := by decide +kernel
theorem d_Buffer_byteAt_22 : decode b_Buffer_byteAt 22 = .ok (.ireturn, 1) := by decide +kernel
theorem d_CL_at_0 : decode b_CL_at 0 = .ok (.aload_n 0, 1) := by decide +kernel
theorem d_CL_at_1 : decode b_CL_at 1 = .ok (.getfield 12, 3) := by decide +kernel
theorem d_CL_at_4 : decode b_CL_at 4 = .ok (.iload_n 1, 1) := by decide +kernel
theorem d_CL_at_5 : decode b_CL_at 5 = .ok (.invokevirtual 61, 3) := by decide +kernel
theorem d_CL_at_8 : decode b_CL_at 8 = .ok (.ireturn, 1) := by decide +kernel
theorem d_Mo_at_0 : decode b_Mo_at 0 = .ok (.iload_n 1, 1) := by decide +kernel
theorem d_Mo_at_1 : decode b_Mo_at 1 = .ok (.ifCond .lt (11), 3) := by decide +kernel
theorem d_Mo_at_4 : decode b_Mo_at 4 = .ok (.iload_n 1, 1) := by decide +kernel
theorem d_Mo_at_5 : decode b_Mo_at 5 = .ok (.aload_n 0, 1) := by decide +kernel
theorem d_Mo_at_6 : decode b_Mo_at 6 = .ok (.getfield 60, 3) := by decide +kernel
theorem d_Mo_at_9 : decode b_Mo_at 9 = .ok (.if_icmp .lt (7), 3) := by decide +kernel
theorem d_Mo_at_12 : decode b_Mo_at 12 = .ok (.iconst (-1), 1) := by decide +kernel
theorem d_Mo_at_13 : decode b_Mo_at 13 = .ok (.goto (9), 3) := by decide +kernel
theorem d_Mo_at_16 : decode b_Mo_at 16 = .ok (.aload_n 0, 1) := by decide +kernel
theorem d_Mo_at_17 : decode b_Mo_at 17 = .ok (.getfield 7, 3) := by decide +kernel
theorem d_Mo_at_20 : decode b_Mo_at 20 = .ok (.iload_n 1, 1) := by decide +kernel
theorem d_Mo_at_21 : decode b_Mo_at 21 = .ok (.iaload, 1) := by decide +kernel
theorem d_Mo_at_22 : decode b_Mo_at 22 = .ok (.ireturn, 1) := by decide +kernel
theorem d_CL_wordAt_0 : decode b_CL_wordAt 0 = .ok (.sipush (256), 3) := by decide +kernel
theorem d_CL_wordAt_3 : decode b_CL_wordAt 3 = .ok (.aload_n 0, 1) := by decide +kernel
theorem d_CL_wordAt_4 : decode b_CL_wordAt 4 = .ok (.iload_n 1, 1) := by decide +kernel
theorem d_CL_wordAt_5 : decode b_CL_wordAt 5 = .ok (.iaload, 1) := by decide +kernel
theorem d_CL_wordAt_6 : decode b_CL_wordAt 6 = .ok (.imul, 1) := by decide +kernel
theorem d_CL_wordAt_7 : decode b_CL_wordAt 7 = .ok (.aload_n 0, 1) := by decide +kernel
theorem d_CL_wordAt_8 : decode b_CL_wordAt 8 = .ok (.iload_n 1, 1) := by decide +kernel
theorem d_CL_wordAt_9 : decode b_CL_wordAt 9 = .ok (.iconst (1), 1) := by decide +kernel
theorem d_CL_wordAt_10 : decode b_CL_wordAt 10 = .ok (.iadd, 1) := by decide +kernel
theorem d_CL_wordAt_11 : decode b_CL_wordAt 11 = .ok (.iaload, 1) := by decide +kernel
theorem d_CL_wordAt_12 : decode b_CL_wordAt 12 = .ok (.iadd, 1) := by decide +kernel
theorem d_CL_wordAt_13 : decode b_CL_wordAt 13 = .ok (.ireturn, 1) := by decide +kernel
theorem d_Buffer_broken_0 : decode b_Buffer_broken 0 = .ok (.sipush (1000), 3) := by decide +kernel
theorem d_Buffer_broken_3 : decode b_Buffer_broken 3 = .ok (.iload_n 0, 1) := by decide +kernel
theorem d_Buffer_broken_4 : decode b_Buffer_broken 4 = .ok (.imul, 1) := by decide +kernel
theorem d_Buffer_broken_5 : decode b_Buffer_broken 5 = .ok (.iload_n 1, 1) := by decide +kernel
theorem d_Buffer_broken_6 : decode b_Buffer_broken 6 = .ok (.iadd, 1) := by decide +kernel
theorem d_Buffer_broken_7 : decode b_Buffer_broken 7 = .ok (.ineg, 1) := by decide +kernel
theorem d_Buffer_broken_8 : decode b_Buffer_broken 8 = .ok (.ireturn, 1) := by decide +kernel
