theorem d_Mo_taken_0 : decode b_Mo_taken 0 = .ok (.aload_n 0, 1) := by decide +kernel
theorem d_Mo_taken_1 : decode b_Mo_taken 1 = .ok (.iload_n 1, 1) := by decide +kernel
theorem d_Mo_taken_2 : decode b_Mo_taken 2 = .ok (.invokevirtual 221, 3) := by decide +kernel
theorem d_Mo_taken_5 : decode b_Mo_taken 5 = .ok (.ifCond .ne (5), 3) := by decide +kernel
theorem d_Mo_taken_8 : decode b_Mo_taken 8 = .ok (.iconst (0), 1) := by decide +kernel
theorem d_Mo_taken_9 : decode b_Mo_taken 9 = .ok (.ireturn, 1) := by decide +kernel
theorem d_Mo_taken_10 : decode b_Mo_taken 10 = .ok (.iload_n 1, 1) := by decide +kernel
theorem d_Mo_taken_11 : decode b_Mo_taken 11 = .ok (.istore 5, 2) := by decide +kernel
theorem d_Mo_taken_13 : decode b_Mo_taken 13 = .ok (.aload_n 0, 1) := by decide +kernel
theorem d_Mo_taken_14 : decode b_Mo_taken 14 = .ok (.getfield 16, 3) := by decide +kernel
theorem d_Mo_taken_17 : decode b_Mo_taken 17 = .ok (.iload 5, 2) := by decide +kernel
theorem d_Mo_taken_19 : decode b_Mo_taken 19 = .ok (.iaload, 1) := by decide +kernel
theorem d_Mo_taken_20 : decode b_Mo_taken 20 = .ok (.ifCond .lt (15), 3) := by decide +kernel
theorem d_Mo_taken_23 : decode b_Mo_taken 23 = .ok (.aload_n 0, 1) := by decide +kernel
theorem d_Mo_taken_24 : decode b_Mo_taken 24 = .ok (.getfield 16, 3) := by decide +kernel
theorem d_Mo_taken_27 : decode b_Mo_taken 27 = .ok (.iload 5, 2) := by decide +kernel
theorem d_Mo_taken_29 : decode b_Mo_taken 29 = .ok (.iaload, 1) := by decide +kernel
theorem d_Mo_taken_30 : decode b_Mo_taken 30 = .ok (.istore 5, 2) := by decide +kernel
theorem d_Mo_taken_32 : decode b_Mo_taken 32 = .ok (.goto (-19), 3) := by decide +kernel
theorem d_Mo_taken_35 : decode b_Mo_taken 35 = .ok (.aload_n 0, 1) := by decide +kernel
theorem d_Mo_taken_36 : decode b_Mo_taken 36 = .ok (.aload_n 0, 1) := by decide +kernel
theorem d_Mo_taken_37 : decode b_Mo_taken 37 = .ok (.getfield 19, 3) := by decide +kernel
theorem d_Mo_taken_40 : decode b_Mo_taken 40 = .ok (.iload 5, 2) := by decide +kernel
theorem d_Mo_taken_42 : decode b_Mo_taken 42 = .ok (.iaload, 1) := by decide +kernel
theorem d_Mo_taken_43 : decode b_Mo_taken 43 = .ok (.invokevirtual 144, 3) := by decide +kernel
theorem d_Mo_taken_46 : decode b_Mo_taken 46 = .ok (.istore 6, 2) := by decide +kernel
theorem d_Mo_taken_48 : decode b_Mo_taken 48 = .ok (.aload_n 0, 1) := by decide +kernel
theorem d_Mo_taken_49 : decode b_Mo_taken 49 = .ok (.iload_n 2, 1) := by decide +kernel
theorem d_Mo_taken_50 : decode b_Mo_taken 50 = .ok (.invokevirtual 300, 3) := by decide +kernel
theorem d_Mo_taken_53 : decode b_Mo_taken 53 = .ok (.ifCond .eq (25), 3) := by decide +kernel
theorem d_Mo_taken_56 : decode b_Mo_taken 56 = .ok (.iload 6, 2) := by decide +kernel
theorem d_Mo_taken_58 : decode b_Mo_taken 58 = .ok (.ifCond .ne (22), 3) := by decide +kernel
theorem d_Mo_taken_61 : decode b_Mo_taken 61 = .ok (.aload_n 0, 1) := by decide +kernel
theorem d_Mo_taken_62 : decode b_Mo_taken 62 = .ok (.iload_n 3, 1) := by decide +kernel
theorem d_Mo_taken_63 : decode b_Mo_taken 63 = .ok (.invokevirtual 300, 3) := by decide +kernel
theorem d_Mo_taken_66 : decode b_Mo_taken 66 = .ok (.ifCond .eq (12), 3) := by decide +kernel
theorem d_Mo_taken_69 : decode b_Mo_taken 69 = .ok (.aload_n 0, 1) := by decide +kernel
theorem d_Mo_taken_70 : decode b_Mo_taken 70 = .ok (.iload 4, 2) := by decide +kernel
theorem d_Mo_taken_72 : decode b_Mo_taken 72 = .ok (.invokevirtual 300, 3) := by decide +kernel
theorem d_Mo_taken_75 : decode b_Mo_taken 75 = .ok (.ifCond .ne (5), 3) := by decide +kernel
theorem d_Mo_taken_78 : decode b_Mo_taken 78 = .ok (.iconst (0), 1) := by decide +kernel
theorem d_Mo_taken_79 : decode b_Mo_taken 79 = .ok (.ireturn, 1) := by decide +kernel
theorem d_Mo_taken_80 : decode b_Mo_taken 80 = .ok (.aload_n 0, 1) := by decide +kernel
theorem d_Mo_taken_81 : decode b_Mo_taken 81 = .ok (.getfield 51, 3) := by decide +kernel
theorem d_Mo_taken_84 : decode b_Mo_taken 84 = .ok (.iconst (0), 1) := by decide +kernel
theorem d_Mo_taken_85 : decode b_Mo_taken 85 = .ok (.iload_n 2, 1) := by decide +kernel
theorem d_Mo_taken_86 : decode b_Mo_taken 86 = .ok (.i2l, 1) := by decide +kernel
theorem d_Mo_taken_87 : decode b_Mo_taken 87 = .ok (.lastore, 1) := by decide +kernel
theorem d_Mo_taken_88 : decode b_Mo_taken 88 = .ok (.aload_n 0, 1) := by decide +kernel
theorem d_Mo_taken_89 : decode b_Mo_taken 89 = .ok (.getfield 51, 3) := by decide +kernel
theorem d_Mo_taken_92 : decode b_Mo_taken 92 = .ok (.iconst (1), 1) := by decide +kernel
theorem d_Mo_taken_93 : decode b_Mo_taken 93 = .ok (.iload 6, 2) := by decide +kernel
theorem d_Mo_taken_95 : decode b_Mo_taken 95 = .ok (.ifCond .eq (7), 3) := by decide +kernel
theorem d_Mo_taken_98 : decode b_Mo_taken 98 = .ok (.lconst 0, 1) := by decide +kernel
theorem d_Mo_taken_99 : decode b_Mo_taken 99 = .ok (.goto (5), 3) := by decide +kernel
theorem d_Mo_taken_102 : decode b_Mo_taken 102 = .ok (.iload_n 3, 1) := by decide +kernel
theorem d_Mo_taken_103 : decode b_Mo_taken 103 = .ok (.i2l, 1) := by decide +kernel
theorem d_Mo_taken_104 : decode b_Mo_taken 104 = .ok (.lastore, 1) := by decide +kernel
theorem d_Mo_taken_105 : decode b_Mo_taken 105 = .ok (.aload_n 0, 1) := by decide +kernel
theorem d_Mo_taken_106 : decode b_Mo_taken 106 = .ok (.getfield 51, 3) := by decide +kernel
theorem d_Mo_taken_109 : decode b_Mo_taken 109 = .ok (.iconst (2), 1) := by decide +kernel
theorem d_Mo_taken_110 : decode b_Mo_taken 110 = .ok (.iload 6, 2) := by decide +kernel
theorem d_Mo_taken_112 : decode b_Mo_taken 112 = .ok (.ifCond .eq (7), 3) := by decide +kernel
theorem d_Mo_taken_115 : decode b_Mo_taken 115 = .ok (.lconst 0, 1) := by decide +kernel
theorem d_Mo_taken_116 : decode b_Mo_taken 116 = .ok (.goto (6), 3) := by decide +kernel
theorem d_Mo_taken_119 : decode b_Mo_taken 119 = .ok (.iload 4, 2) := by decide +kernel
theorem d_Mo_taken_121 : decode b_Mo_taken 121 = .ok (.i2l, 1) := by decide +kernel
theorem d_Mo_taken_122 : decode b_Mo_taken 122 = .ok (.lastore, 1) := by decide +kernel
theorem d_Mo_taken_123 : decode b_Mo_taken 123 = .ok (.iconst (1), 1) := by decide +kernel
theorem d_Mo_taken_124 : decode b_Mo_taken 124 = .ok (.ireturn, 1) := by decide +kernel
theorem d_Mo_colour_0 : decode b_Mo_colour 0 = .ok (.aload_n 0, 1) := by decide +kernel
theorem d_Mo_colour_1 : decode b_Mo_colour 1 = .ok (.getfield 51, 3) := by decide +kernel
theorem d_Mo_colour_4 : decode b_Mo_colour 4 = .ok (.iconst (0), 1) := by decide +kernel
theorem d_Mo_colour_5 : decode b_Mo_colour 5 = .ok (.laload, 1) := by decide +kernel
theorem d_Mo_colour_6 : decode b_Mo_colour 6 = .ok (.ldc2_w 303, 3) := by decide +kernel
theorem d_Mo_colour_9 : decode b_Mo_colour 9 = .ok (.lmul, 1) := by decide +kernel
theorem d_Mo_colour_10 : decode b_Mo_colour 10 = .ok (.aload_n 0, 1) := by decide +kernel
theorem d_Mo_colour_11 : decode b_Mo_colour 11 = .ok (.getfield 51, 3) := by decide +kernel
theorem d_Mo_colour_14 : decode b_Mo_colour 14 = .ok (.iconst (1), 1) := by decide +kernel
theorem d_Mo_colour_15 : decode b_Mo_colour 15 = .ok (.laload, 1) := by decide +kernel
theorem d_Mo_colour_16 : decode b_Mo_colour 16 = .ok (.ldc2_w 305, 3) := by decide +kernel
theorem d_Mo_colour_19 : decode b_Mo_colour 19 = .ok (.lmul, 1) := by decide +kernel
theorem d_Mo_colour_20 : decode b_Mo_colour 20 = .ok (.ladd, 1) := by decide +kernel
theorem d_Mo_colour_21 : decode b_Mo_colour 21 = .ok (.aload_n 0, 1) := by decide +kernel
theorem d_Mo_colour_22 : decode b_Mo_colour 22 = .ok (.getfield 51, 3) := by decide +kernel
theorem d_Mo_colour_25 : decode b_Mo_colour 25 = .ok (.iconst (2), 1) := by decide +kernel
theorem d_Mo_colour_26 : decode b_Mo_colour 26 = .ok (.laload, 1) := by decide +kernel
theorem d_Mo_colour_27 : decode b_Mo_colour 27 = .ok (.ladd, 1) := by decide +kernel
theorem d_Mo_colour_28 : decode b_Mo_colour 28 = .ok (.lreturn, 1) := by decide +kernel
theorem d_Mo_through_0 : decode b_Mo_through 0 = .ok (.aload_n 0, 1) := by decide +kernel
theorem d_Mo_through_1 : decode b_Mo_through 1 = .ok (.iload_n 1, 1) := by decide +kernel
theorem d_Mo_through_2 : decode b_Mo_through 2 = .ok (.iload_n 3, 1) := by decide +kernel
theorem d_Mo_through_3 : decode b_Mo_through 3 = .ok (.iload 4, 2) := by decide +kernel
theorem d_Mo_through_5 : decode b_Mo_through 5 = .ok (.iload 5, 2) := by decide +kernel
theorem d_Mo_through_7 : decode b_Mo_through 7 = .ok (.invokevirtual 307, 3) := by decide +kernel
theorem d_Mo_through_10 : decode b_Mo_through 10 = .ok (.pop, 1) := by decide +kernel
theorem d_Mo_through_11 : decode b_Mo_through 11 = .ok (.iconst (0), 1) := by decide +kernel
theorem d_Mo_through_12 : decode b_Mo_through 12 = .ok (.istore 6, 2) := by decide +kernel
theorem d_Mo_through_14 : decode b_Mo_through 14 = .ok (.iload 6, 2) := by decide +kernel
theorem d_Mo_through_16 : decode b_Mo_through 16 = .ok (.iload_n 2, 1) := by decide +kernel
theorem d_Mo_through_17 : decode b_Mo_through 17 = .ok (.if_icmp .ge (15), 3) := by decide +kernel
theorem d_Mo_through_20 : decode b_Mo_through 20 = .ok (.aload_n 0, 1) := by decide +kernel
theorem d_Mo_through_21 : decode b_Mo_through 21 = .ok (.iload 6, 2) := by decide +kernel
theorem d_Mo_through_23 : decode b_Mo_through 23 = .ok (.invokevirtual 174, 3) := by decide +kernel
theorem d_Mo_through_26 : decode b_Mo_through 26 = .ok (.iinc 6 (1), 3) := by decide +kernel
theorem d_Mo_through_29 : decode b_Mo_through 29 = .ok (.goto (-15), 3) := by decide +kernel
theorem d_Mo_through_32 : decode b_Mo_through 32 = .ok (.aload_n 0, 1) := by decide +kernel
theorem d_Mo_through_33 : decode b_Mo_through 33 = .ok (.invokevirtual 310, 3) := by decide +kernel
theorem d_Mo_through_36 : decode b_Mo_through 36 = .ok (.lreturn, 1) := by decide +kernel
theorem d_Mo_convert_0 : decode b_Mo_convert 0 = .ok (.aload_n 0, 1) := by decide +kernel
theorem d_Mo_convert_1 : decode b_Mo_convert 1 = .ok (.iload_n 1, 1) := by decide +kernel
theorem d_Mo_convert_2 : decode b_Mo_convert 2 = .ok (.iload_n 2, 1) := by decide +kernel
theorem d_Mo_convert_3 : decode b_Mo_convert 3 = .ok (.iload_n 3, 1) := by decide +kernel
theorem d_Mo_convert_4 : decode b_Mo_convert 4 = .ok (.iload 4, 2) := by decide +kernel
theorem d_Mo_convert_6 : decode b_Mo_convert 6 = .ok (.invokevirtual 307, 3) := by decide +kernel
theorem d_Mo_convert_9 : decode b_Mo_convert 9 = .ok (.ifCond .ne (7), 3) := by decide +kernel
theorem d_Mo_convert_12 : decode b_Mo_convert 12 = .ok (.ldc2_w 215, 3) := by decide +kernel
theorem d_Mo_convert_15 : decode b_Mo_convert 15 = .ok (.lreturn, 1) := by decide +kernel
theorem d_Mo_convert_16 : decode b_Mo_convert 16 = .ok (.aload_n 0, 1) := by decide +kernel
theorem d_Mo_convert_17 : decode b_Mo_convert 17 = .ok (.invokevirtual 310, 3) := by decide +kernel
theorem d_Mo_convert_20 : decode b_Mo_convert 20 = .ok (.lstore 5, 2) := by decide +kernel
theorem d_Mo_convert_22 : decode b_Mo_convert 22 = .ok (.aload_n 0, 1) := by decide +kernel
theorem d_Mo_convert_23 : decode b_Mo_convert 23 = .ok (.iload_n 1, 1) := by decide +kernel
theorem d_Mo_convert_24 : decode b_Mo_convert 24 = .ok (.invokevirtual 212, 3) := by decide +kernel
theorem d_Mo_convert_27 : decode b_Mo_convert 27 = .ok (.aload_n 0, 1) := by decide +kernel
theorem d_Mo_convert_28 : decode b_Mo_convert 28 = .ok (.aload_n 0, 1) := by decide +kernel
theorem d_Mo_convert_29 : decode b_Mo_convert 29 = .ok (.getfield 32, 3) := by decide +kernel
theorem d_Mo_convert_32 : decode b_Mo_convert 32 = .ok (.iload_n 1, 1) := by decide +kernel
theorem d_Mo_convert_33 : decode b_Mo_convert 33 = .ok (.laload, 1) := by decide +kernel
theorem d_Mo_convert_34 : decode b_Mo_convert 34 = .ok (.lload 5, 2) := by decide +kernel
theorem d_Mo_convert_36 : decode b_Mo_convert 36 = .ok (.lcmp, 1) := by decide +kernel
theorem d_Mo_convert_37 : decode b_Mo_convert 37 = .ok (.ifCond .ne (10), 3) := by decide +kernel
theorem d_Mo_convert_40 : decode b_Mo_convert 40 = .ok (.aload_n 0, 1) := by decide +kernel
theorem d_Mo_convert_41 : decode b_Mo_convert 41 = .ok (.getfield 313, 3) := by decide +kernel
theorem d_Mo_convert_44 : decode b_Mo_convert 44 = .ok (.goto (12), 3) := by decide +kernel
theorem d_Mo_convert_47 : decode b_Mo_convert 47 = .ok (.aload_n 0, 1) := by decide +kernel
theorem d_Mo_convert_48 : decode b_Mo_convert 48 = .ok (.getfield 313, 3) := by decide +kernel
theorem d_Mo_convert_51 : decode b_Mo_convert 51 = .ok (.aload_n 0, 1) := by decide +kernel
theorem d_Mo_convert_52 : decode b_Mo_convert 52 = .ok (.getfield 141, 3) := by decide +kernel
theorem d_Mo_convert_55 : decode b_Mo_convert 55 = .ok (.iadd, 1) := by decide +kernel
theorem d_Mo_convert_56 : decode b_Mo_convert 56 = .ok (.putfield 313, 3) := by decide +kernel
theorem d_Mo_convert_59 : decode b_Mo_convert 59 = .ok (.aload_n 0, 1) := by decide +kernel
theorem d_Mo_convert_60 : decode b_Mo_convert 60 = .ok (.getfield 32, 3) := by decide +kernel
theorem d_Mo_convert_63 : decode b_Mo_convert 63 = .ok (.iload_n 1, 1) := by decide +kernel
theorem d_Mo_convert_64 : decode b_Mo_convert 64 = .ok (.lload 5, 2) := by decide +kernel
theorem d_Mo_convert_66 : decode b_Mo_convert 66 = .ok (.lastore, 1) := by decide +kernel
theorem d_Mo_convert_67 : decode b_Mo_convert 67 = .ok (.aload_n 0, 1) := by decide +kernel
theorem d_Mo_convert_68 : decode b_Mo_convert 68 = .ok (.iload_n 1, 1) := by decide +kernel
theorem d_Mo_convert_69 : decode b_Mo_convert 69 = .ok (.aload_n 0, 1) := by decide +kernel
theorem d_Mo_convert_70 : decode b_Mo_convert 70 = .ok (.getfield 141, 3) := by decide +kernel
theorem d_Mo_convert_73 : decode b_Mo_convert 73 = .ok (.iload_n 2, 1) := by decide +kernel
theorem d_Mo_convert_74 : decode b_Mo_convert 74 = .ok (.iload_n 3, 1) := by decide +kernel
theorem d_Mo_convert_75 : decode b_Mo_convert 75 = .ok (.iload 4, 2) := by decide +kernel
theorem d_Mo_convert_77 : decode b_Mo_convert 77 = .ok (.invokevirtual 316, 3) := by decide +kernel
theorem d_Mo_convert_80 : decode b_Mo_convert 80 = .ok (.lreturn, 1) := by decide +kernel
theorem d_CL_after_0 : decode b_CL_after 0 = .ok (.aload_n 0, 1) := by decide +kernel
theorem d_CL_after_1 : decode b_CL_after 1 = .ok (.iload_n 1, 1) := by decide +kernel
theorem d_CL_after_2 : decode b_CL_after 2 = .ok (.invokevirtual 127, 3) := by decide +kernel
theorem d_CL_after_5 : decode b_CL_after 5 = .ok (.astore 6, 2) := by decide +kernel
theorem d_CL_after_7 : decode b_CL_after 7 = .ok (.aload 6, 2) := by decide +kernel
theorem d_CL_after_9 : decode b_CL_after 9 = .ok (.ifnull (31), 3) := by decide +kernel
theorem d_CL_after_12 : decode b_CL_after 12 = .ok (.iload_n 2, 1) := by decide +kernel
theorem d_CL_after_13 : decode b_CL_after 13 = .ok (.ifCond .lt (27), 3) := by decide +kernel
theorem d_CL_after_16 : decode b_CL_after 16 = .ok (.iload_n 2, 1) := by decide +kernel
theorem d_CL_after_17 : decode b_CL_after 17 = .ok (.aload 6, 2) := by decide +kernel
theorem d_CL_after_19 : decode b_CL_after 19 = .ok (.getfield 138, 3) := by decide +kernel
theorem d_CL_after_22 : decode b_CL_after 22 = .ok (.arraylength, 1) := by decide +kernel
theorem d_CL_after_23 : decode b_CL_after 23 = .ok (.if_icmp .gt (17), 3) := by decide +kernel
theorem d_CL_after_26 : decode b_CL_after 26 = .ok (.aload_n 0, 1) := by decide +kernel
theorem d_CL_after_27 : decode b_CL_after 27 = .ok (.aload 6, 2) := by decide +kernel
theorem d_CL_after_29 : decode b_CL_after 29 = .ok (.iload_n 3, 1) := by decide +kernel
theorem d_CL_after_30 : decode b_CL_after 30 = .ok (.iload 4, 2) := by decide +kernel
theorem d_CL_after_32 : decode b_CL_after 32 = .ok (.iload 5, 2) := by decide +kernel
theorem d_CL_after_34 : decode b_CL_after 34 = .ok (.invokevirtual 144, 3) := by decide +kernel
theorem d_CL_after_37 : decode b_CL_after 37 = .ok (.ifCond .ne (7), 3) := by decide +kernel
theorem d_CL_after_40 : decode b_CL_after 40 = .ok (.ldc2_w 148, 3) := by decide +kernel
theorem d_CL_after_43 : decode b_CL_after 43 = .ok (.lreturn, 1) := by decide +kernel
theorem d_CL_after_44 : decode b_CL_after 44 = .ok (.aload 6, 2) := by decide +kernel
theorem d_CL_after_46 : decode b_CL_after 46 = .ok (.iload_n 2, 1) := by decide +kernel
theorem d_CL_after_47 : decode b_CL_after 47 = .ok (.aload_n 0, 1) := by decide +kernel
theorem d_CL_after_48 : decode b_CL_after 48 = .ok (.getfield 46, 3) := by decide +kernel
theorem d_CL_after_51 : decode b_CL_after 51 = .ok (.invokevirtual 158, 3) := by decide +kernel
theorem d_CL_after_54 : decode b_CL_after 54 = .ok (.aload_n 0, 1) := by decide +kernel
theorem d_CL_after_55 : decode b_CL_after 55 = .ok (.getfield 46, 3) := by decide +kernel
theorem d_CL_after_58 : decode b_CL_after 58 = .ok (.invokestatic 150, 3) := by decide +kernel
theorem d_CL_after_61 : decode b_CL_after 61 = .ok (.lreturn, 1) := by decide +kernel
theorem d_Mo_after_0 : decode b_Mo_after 0 = .ok (.aload_n 0, 1) := by decide +kernel
theorem d_Mo_after_1 : decode b_Mo_after 1 = .ok (.iload_n 1, 1) := by decide +kernel
theorem d_Mo_after_2 : decode b_Mo_after 2 = .ok (.iload_n 3, 1) := by decide +kernel
theorem d_Mo_after_3 : decode b_Mo_after 3 = .ok (.iload 4, 2) := by decide +kernel
theorem d_Mo_after_5 : decode b_Mo_after 5 = .ok (.iload 5, 2) := by decide +kernel
theorem d_Mo_after_7 : decode b_Mo_after 7 = .ok (.invokevirtual 307, 3) := by decide +kernel
theorem d_Mo_after_10 : decode b_Mo_after 10 = .ok (.ifCond .ne (7), 3) := by decide +kernel
theorem d_Mo_after_13 : decode b_Mo_after 13 = .ok (.ldc2_w 215, 3) := by decide +kernel
theorem d_Mo_after_16 : decode b_Mo_after 16 = .ok (.lreturn, 1) := by decide +kernel
theorem d_Mo_after_17 : decode b_Mo_after 17 = .ok (.aload_n 0, 1) := by decide +kernel
theorem d_Mo_after_18 : decode b_Mo_after 18 = .ok (.iload_n 1, 1) := by decide +kernel
theorem d_Mo_after_19 : decode b_Mo_after 19 = .ok (.invokevirtual 212, 3) := by decide +kernel
theorem d_Mo_after_22 : decode b_Mo_after 22 = .ok (.iload_n 2, 1) := by decide +kernel
theorem d_Mo_after_23 : decode b_Mo_after 23 = .ok (.ifCond .lt (11), 3) := by decide +kernel
theorem d_Mo_after_26 : decode b_Mo_after 26 = .ok (.iload_n 2, 1) := by decide +kernel
theorem d_Mo_after_27 : decode b_Mo_after 27 = .ok (.aload_n 0, 1) := by decide +kernel
theorem d_Mo_after_28 : decode b_Mo_after 28 = .ok (.getfield 141, 3) := by decide +kernel
theorem d_Mo_after_31 : decode b_Mo_after 31 = .ok (.if_icmp .le (9), 3) := by decide +kernel
theorem d_Mo_after_34 : decode b_Mo_after 34 = .ok (.ldc2_w 215, 3) := by decide +kernel
theorem d_Mo_after_37 : decode b_Mo_after 37 = .ok (.goto (14), 3) := by decide +kernel
theorem d_Mo_after_40 : decode b_Mo_after 40 = .ok (.aload_n 0, 1) := by decide +kernel
theorem d_Mo_after_41 : decode b_Mo_after 41 = .ok (.iload_n 1, 1) := by decide +kernel
theorem d_Mo_after_42 : decode b_Mo_after 42 = .ok (.iload_n 2, 1) := by decide +kernel
theorem d_Mo_after_43 : decode b_Mo_after 43 = .ok (.iload_n 3, 1) := by decide +kernel
theorem d_Mo_after_44 : decode b_Mo_after 44 = .ok (.iload 4, 2) := by decide +kernel
theorem d_Mo_after_46 : decode b_Mo_after 46 = .ok (.iload 5, 2) := by decide +kernel
theorem d_Mo_after_48 : decode b_Mo_after 48 = .ok (.invokevirtual 316, 3) := by decide +kernel
theorem d_Mo_after_51 : decode b_Mo_after 51 = .ok (.lreturn, 1) := by decide +kernel
theorem d_CL_work_0 : decode b_CL_work 0 = .ok (.aload_n 0, 1) := by decide +kernel
theorem d_CL_work_1 : decode b_CL_work 1 = .ok (.getfield 162, 3) := by decide +kernel
theorem d_CL_work_4 : decode b_CL_work 4 = .ok (.ireturn, 1) := by decide +kernel
theorem d_Mo_work_0 : decode b_Mo_work 0 = .ok (.aload_n 0, 1) := by decide +kernel
theorem d_Mo_work_1 : decode b_Mo_work 1 = .ok (.getfield 313, 3) := by decide +kernel
theorem d_Mo_work_4 : decode b_Mo_work 4 = .ok (.ireturn, 1) := by decide +kernel
