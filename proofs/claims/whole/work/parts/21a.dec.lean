theorem d_Mo_elements_0 : decode b_Mo_elements 0 = .ok (.aload_n 0, 1) := by decide +kernel
theorem d_Mo_elements_1 : decode b_Mo_elements 1 = .ok (.iload_n 1, 1) := by decide +kernel
theorem d_Mo_elements_2 : decode b_Mo_elements 2 = .ok (.invokevirtual 99, 3) := by decide +kernel
theorem d_Mo_elements_5 : decode b_Mo_elements 5 = .ok (.ifCond .ne (5), 3) := by decide +kernel
theorem d_Mo_elements_8 : decode b_Mo_elements 8 = .ok (.iconst (-1), 1) := by decide +kernel
theorem d_Mo_elements_9 : decode b_Mo_elements 9 = .ok (.ireturn, 1) := by decide +kernel
theorem d_Mo_elements_10 : decode b_Mo_elements 10 = .ok (.iconst (0), 1) := by decide +kernel
theorem d_Mo_elements_11 : decode b_Mo_elements 11 = .ok (.istore_n 2, 1) := by decide +kernel
theorem d_Mo_elements_12 : decode b_Mo_elements 12 = .ok (.iconst (0), 1) := by decide +kernel
theorem d_Mo_elements_13 : decode b_Mo_elements 13 = .ok (.istore_n 3, 1) := by decide +kernel
theorem d_Mo_elements_14 : decode b_Mo_elements 14 = .ok (.iload_n 3, 1) := by decide +kernel
theorem d_Mo_elements_15 : decode b_Mo_elements 15 = .ok (.sipush (256), 3) := by decide +kernel
theorem d_Mo_elements_18 : decode b_Mo_elements 18 = .ok (.if_icmp .ge (68), 3) := by decide +kernel
theorem d_Mo_elements_21 : decode b_Mo_elements 21 = .ok (.iconst (0), 1) := by decide +kernel
theorem d_Mo_elements_22 : decode b_Mo_elements 22 = .ok (.istore 4, 2) := by decide +kernel
theorem d_Mo_elements_24 : decode b_Mo_elements 24 = .ok (.iconst (1), 1) := by decide +kernel
theorem d_Mo_elements_25 : decode b_Mo_elements 25 = .ok (.istore 5, 2) := by decide +kernel
theorem d_Mo_elements_27 : decode b_Mo_elements 27 = .ok (.iload 5, 2) := by decide +kernel
theorem d_Mo_elements_29 : decode b_Mo_elements 29 = .ok (.bipush (12), 2) := by decide +kernel
theorem d_Mo_elements_31 : decode b_Mo_elements 31 = .ok (.if_icmp .gt (36), 3) := by decide +kernel
theorem d_Mo_elements_34 : decode b_Mo_elements 34 = .ok (.aload_n 0, 1) := by decide +kernel
theorem d_Mo_elements_35 : decode b_Mo_elements 35 = .ok (.iload_n 1, 1) := by decide +kernel
theorem d_Mo_elements_36 : decode b_Mo_elements 36 = .ok (.iload 5, 2) := by decide +kernel
theorem d_Mo_elements_38 : decode b_Mo_elements 38 = .ok (.invokevirtual 88, 3) := by decide +kernel
theorem d_Mo_elements_41 : decode b_Mo_elements 41 = .ok (.istore 6, 2) := by decide +kernel
theorem d_Mo_elements_43 : decode b_Mo_elements 43 = .ok (.iload 4, 2) := by decide +kernel
theorem d_Mo_elements_45 : decode b_Mo_elements 45 = .ok (.ifCond .ne (9), 3) := by decide +kernel
theorem d_Mo_elements_48 : decode b_Mo_elements 48 = .ok (.iload 6, 2) := by decide +kernel
theorem d_Mo_elements_50 : decode b_Mo_elements 50 = .ok (.iload_n 3, 1) := by decide +kernel
theorem d_Mo_elements_51 : decode b_Mo_elements 51 = .ok (.if_icmp .ne (7), 3) := by decide +kernel
theorem d_Mo_elements_54 : decode b_Mo_elements 54 = .ok (.iconst (1), 1) := by decide +kernel
theorem d_Mo_elements_55 : decode b_Mo_elements 55 = .ok (.goto (4), 3) := by decide +kernel
theorem d_Mo_elements_58 : decode b_Mo_elements 58 = .ok (.iconst (0), 1) := by decide +kernel
theorem d_Mo_elements_59 : decode b_Mo_elements 59 = .ok (.istore 4, 2) := by decide +kernel
theorem d_Mo_elements_61 : decode b_Mo_elements 61 = .ok (.iinc 5 (1), 3) := by decide +kernel
theorem d_Mo_elements_64 : decode b_Mo_elements 64 = .ok (.goto (-37), 3) := by decide +kernel
theorem d_Mo_elements_67 : decode b_Mo_elements 67 = .ok (.iload 4, 2) := by decide +kernel
theorem d_Mo_elements_69 : decode b_Mo_elements 69 = .ok (.ifCond .eq (9), 3) := by decide +kernel
theorem d_Mo_elements_72 : decode b_Mo_elements 72 = .ok (.iload_n 2, 1) := by decide +kernel
theorem d_Mo_elements_73 : decode b_Mo_elements 73 = .ok (.iconst (1), 1) := by decide +kernel
theorem d_Mo_elements_74 : decode b_Mo_elements 74 = .ok (.iadd, 1) := by decide +kernel
theorem d_Mo_elements_75 : decode b_Mo_elements 75 = .ok (.goto (4), 3) := by decide +kernel
theorem d_Mo_elements_78 : decode b_Mo_elements 78 = .ok (.iload_n 2, 1) := by decide +kernel
theorem d_Mo_elements_79 : decode b_Mo_elements 79 = .ok (.istore_n 2, 1) := by decide +kernel
theorem d_Mo_elements_80 : decode b_Mo_elements 80 = .ok (.iinc 3 (4), 3) := by decide +kernel
theorem d_Mo_elements_83 : decode b_Mo_elements 83 = .ok (.goto (-69), 3) := by decide +kernel
theorem d_Mo_elements_86 : decode b_Mo_elements 86 = .ok (.iload_n 2, 1) := by decide +kernel
theorem d_Mo_elements_87 : decode b_Mo_elements 87 = .ok (.ireturn, 1) := by decide +kernel
theorem d_Profile_isLike_0 : decode b_Profile_isLike 0 = .ok (.aload_n 0, 1) := by decide +kernel
theorem d_Profile_isLike_1 : decode b_Profile_isLike 1 = .ok (.getfield 33, 3) := by decide +kernel
theorem d_Profile_isLike_4 : decode b_Profile_isLike 4 = .ok (.arraylength, 1) := by decide +kernel
theorem d_Profile_isLike_5 : decode b_Profile_isLike 5 = .ok (.aload_n 1, 1) := by decide +kernel
theorem d_Profile_isLike_6 : decode b_Profile_isLike 6 = .ok (.getfield 33, 3) := by decide +kernel
theorem d_Profile_isLike_9 : decode b_Profile_isLike 9 = .ok (.arraylength, 1) := by decide +kernel
theorem d_Profile_isLike_10 : decode b_Profile_isLike 10 = .ok (.if_icmp .ne (7), 3) := by decide +kernel
theorem d_Profile_isLike_13 : decode b_Profile_isLike 13 = .ok (.iconst (1), 1) := by decide +kernel
theorem d_Profile_isLike_14 : decode b_Profile_isLike 14 = .ok (.goto (4), 3) := by decide +kernel
theorem d_Profile_isLike_17 : decode b_Profile_isLike 17 = .ok (.iconst (0), 1) := by decide +kernel
theorem d_Profile_isLike_18 : decode b_Profile_isLike 18 = .ok (.istore_n 2, 1) := by decide +kernel
theorem d_Profile_isLike_19 : decode b_Profile_isLike 19 = .ok (.iconst (0), 1) := by decide +kernel
theorem d_Profile_isLike_20 : decode b_Profile_isLike 20 = .ok (.istore_n 3, 1) := by decide +kernel
theorem d_Profile_isLike_21 : decode b_Profile_isLike 21 = .ok (.iload_n 2, 1) := by decide +kernel
theorem d_Profile_isLike_22 : decode b_Profile_isLike 22 = .ok (.ifCond .eq (39), 3) := by decide +kernel
theorem d_Profile_isLike_25 : decode b_Profile_isLike 25 = .ok (.iload_n 3, 1) := by decide +kernel
theorem d_Profile_isLike_26 : decode b_Profile_isLike 26 = .ok (.aload_n 0, 1) := by decide +kernel
theorem d_Profile_isLike_27 : decode b_Profile_isLike 27 = .ok (.getfield 33, 3) := by decide +kernel
theorem d_Profile_isLike_30 : decode b_Profile_isLike 30 = .ok (.arraylength, 1) := by decide +kernel
theorem d_Profile_isLike_31 : decode b_Profile_isLike 31 = .ok (.if_icmp .ge (30), 3) := by decide +kernel
theorem d_Profile_isLike_34 : decode b_Profile_isLike 34 = .ok (.aload_n 0, 1) := by decide +kernel
theorem d_Profile_isLike_35 : decode b_Profile_isLike 35 = .ok (.getfield 33, 3) := by decide +kernel
theorem d_Profile_isLike_38 : decode b_Profile_isLike 38 = .ok (.iload_n 3, 1) := by decide +kernel
theorem d_Profile_isLike_39 : decode b_Profile_isLike 39 = .ok (.iaload, 1) := by decide +kernel
theorem d_Profile_isLike_40 : decode b_Profile_isLike 40 = .ok (.aload_n 1, 1) := by decide +kernel
theorem d_Profile_isLike_41 : decode b_Profile_isLike 41 = .ok (.getfield 33, 3) := by decide +kernel
theorem d_Profile_isLike_44 : decode b_Profile_isLike 44 = .ok (.iload_n 3, 1) := by decide +kernel
theorem d_Profile_isLike_45 : decode b_Profile_isLike 45 = .ok (.iaload, 1) := by decide +kernel
theorem d_Profile_isLike_46 : decode b_Profile_isLike 46 = .ok (.if_icmp .ne (7), 3) := by decide +kernel
theorem d_Profile_isLike_49 : decode b_Profile_isLike 49 = .ok (.iconst (1), 1) := by decide +kernel
theorem d_Profile_isLike_50 : decode b_Profile_isLike 50 = .ok (.goto (4), 3) := by decide +kernel
theorem d_Profile_isLike_53 : decode b_Profile_isLike 53 = .ok (.iconst (0), 1) := by decide +kernel
theorem d_Profile_isLike_54 : decode b_Profile_isLike 54 = .ok (.istore_n 2, 1) := by decide +kernel
theorem d_Profile_isLike_55 : decode b_Profile_isLike 55 = .ok (.iinc 3 (1), 3) := by decide +kernel
theorem d_Profile_isLike_58 : decode b_Profile_isLike 58 = .ok (.goto (-37), 3) := by decide +kernel
theorem d_Profile_isLike_61 : decode b_Profile_isLike 61 = .ok (.iload_n 2, 1) := by decide +kernel
theorem d_Profile_isLike_62 : decode b_Profile_isLike 62 = .ok (.ireturn, 1) := by decide +kernel
theorem d_CL_same_0 : decode b_CL_same 0 = .ok (.aload_n 0, 1) := by decide +kernel
theorem d_CL_same_1 : decode b_CL_same 1 = .ok (.iload_n 1, 1) := by decide +kernel
theorem d_CL_same_2 : decode b_CL_same 2 = .ok (.invokevirtual 85, 3) := by decide +kernel
theorem d_CL_same_5 : decode b_CL_same 5 = .ok (.astore_n 3, 1) := by decide +kernel
theorem d_CL_same_6 : decode b_CL_same 6 = .ok (.aload_n 0, 1) := by decide +kernel
theorem d_CL_same_7 : decode b_CL_same 7 = .ok (.iload_n 2, 1) := by decide +kernel
theorem d_CL_same_8 : decode b_CL_same 8 = .ok (.invokevirtual 85, 3) := by decide +kernel
theorem d_CL_same_11 : decode b_CL_same 11 = .ok (.astore 4, 2) := by decide +kernel
theorem d_CL_same_13 : decode b_CL_same 13 = .ok (.aload_n 3, 1) := by decide +kernel
theorem d_CL_same_14 : decode b_CL_same 14 = .ok (.ifnull (21), 3) := by decide +kernel
theorem d_CL_same_17 : decode b_CL_same 17 = .ok (.aload 4, 2) := by decide +kernel
theorem d_CL_same_19 : decode b_CL_same 19 = .ok (.ifnull (16), 3) := by decide +kernel
theorem d_CL_same_22 : decode b_CL_same 22 = .ok (.aload_n 3, 1) := by decide +kernel
theorem d_CL_same_23 : decode b_CL_same 23 = .ok (.aload 4, 2) := by decide +kernel
theorem d_CL_same_25 : decode b_CL_same 25 = .ok (.invokevirtual 92, 3) := by decide +kernel
theorem d_CL_same_28 : decode b_CL_same 28 = .ok (.ifCond .eq (7), 3) := by decide +kernel
theorem d_CL_same_31 : decode b_CL_same 31 = .ok (.iconst (1), 1) := by decide +kernel
theorem d_CL_same_32 : decode b_CL_same 32 = .ok (.goto (4), 3) := by decide +kernel
theorem d_CL_same_35 : decode b_CL_same 35 = .ok (.iconst (0), 1) := by decide +kernel
theorem d_CL_same_36 : decode b_CL_same 36 = .ok (.ireturn, 1) := by decide +kernel
theorem d_Mo_alike_0 : decode b_Mo_alike 0 = .ok (.aload_n 0, 1) := by decide +kernel
theorem d_Mo_alike_1 : decode b_Mo_alike 1 = .ok (.iload_n 1, 1) := by decide +kernel
theorem d_Mo_alike_2 : decode b_Mo_alike 2 = .ok (.iload_n 2, 1) := by decide +kernel
theorem d_Mo_alike_3 : decode b_Mo_alike 3 = .ok (.iconst (2), 1) := by decide +kernel
theorem d_Mo_alike_4 : decode b_Mo_alike 4 = .ok (.iadd, 1) := by decide +kernel
theorem d_Mo_alike_5 : decode b_Mo_alike 5 = .ok (.invokevirtual 79, 3) := by decide +kernel
theorem d_Mo_alike_8 : decode b_Mo_alike 8 = .ok (.istore 5, 2) := by decide +kernel
theorem d_Mo_alike_10 : decode b_Mo_alike 10 = .ok (.iload 5, 2) := by decide +kernel
theorem d_Mo_alike_12 : decode b_Mo_alike 12 = .ok (.aload_n 0, 1) := by decide +kernel
theorem d_Mo_alike_13 : decode b_Mo_alike 13 = .ok (.iload_n 3, 1) := by decide +kernel
theorem d_Mo_alike_14 : decode b_Mo_alike 14 = .ok (.iload 4, 2) := by decide +kernel
theorem d_Mo_alike_16 : decode b_Mo_alike 16 = .ok (.iconst (2), 1) := by decide +kernel
theorem d_Mo_alike_17 : decode b_Mo_alike 17 = .ok (.iadd, 1) := by decide +kernel
theorem d_Mo_alike_18 : decode b_Mo_alike 18 = .ok (.invokevirtual 79, 3) := by decide +kernel
theorem d_Mo_alike_21 : decode b_Mo_alike 21 = .ok (.if_icmp .ne (7), 3) := by decide +kernel
theorem d_Mo_alike_24 : decode b_Mo_alike 24 = .ok (.iconst (1), 1) := by decide +kernel
theorem d_Mo_alike_25 : decode b_Mo_alike 25 = .ok (.goto (4), 3) := by decide +kernel
theorem d_Mo_alike_28 : decode b_Mo_alike 28 = .ok (.iconst (0), 1) := by decide +kernel
theorem d_Mo_alike_29 : decode b_Mo_alike 29 = .ok (.istore 6, 2) := by decide +kernel
theorem d_Mo_alike_31 : decode b_Mo_alike 31 = .ok (.aload_n 0, 1) := by decide +kernel
theorem d_Mo_alike_32 : decode b_Mo_alike 32 = .ok (.iload_n 1, 1) := by decide +kernel
theorem d_Mo_alike_33 : decode b_Mo_alike 33 = .ok (.iload_n 2, 1) := by decide +kernel
theorem d_Mo_alike_34 : decode b_Mo_alike 34 = .ok (.iconst (1), 1) := by decide +kernel
theorem d_Mo_alike_35 : decode b_Mo_alike 35 = .ok (.iadd, 1) := by decide +kernel
theorem d_Mo_alike_36 : decode b_Mo_alike 36 = .ok (.invokevirtual 79, 3) := by decide +kernel
theorem d_Mo_alike_39 : decode b_Mo_alike 39 = .ok (.istore 7, 2) := by decide +kernel
theorem d_Mo_alike_41 : decode b_Mo_alike 41 = .ok (.aload_n 0, 1) := by decide +kernel
theorem d_Mo_alike_42 : decode b_Mo_alike 42 = .ok (.iload_n 3, 1) := by decide +kernel
theorem d_Mo_alike_43 : decode b_Mo_alike 43 = .ok (.iload 4, 2) := by decide +kernel
theorem d_Mo_alike_45 : decode b_Mo_alike 45 = .ok (.iconst (1), 1) := by decide +kernel
theorem d_Mo_alike_46 : decode b_Mo_alike 46 = .ok (.iadd, 1) := by decide +kernel
theorem d_Mo_alike_47 : decode b_Mo_alike 47 = .ok (.invokevirtual 79, 3) := by decide +kernel
theorem d_Mo_alike_50 : decode b_Mo_alike 50 = .ok (.istore 8, 2) := by decide +kernel
theorem d_Mo_alike_52 : decode b_Mo_alike 52 = .ok (.iconst (0), 1) := by decide +kernel
theorem d_Mo_alike_53 : decode b_Mo_alike 53 = .ok (.istore 9, 2) := by decide +kernel
theorem d_Mo_alike_55 : decode b_Mo_alike 55 = .ok (.iload 9, 2) := by decide +kernel
theorem d_Mo_alike_57 : decode b_Mo_alike 57 = .ok (.iload 5, 2) := by decide +kernel
theorem d_Mo_alike_59 : decode b_Mo_alike 59 = .ok (.if_icmp .ge (44), 3) := by decide +kernel
theorem d_Mo_alike_62 : decode b_Mo_alike 62 = .ok (.iload 6, 2) := by decide +kernel
theorem d_Mo_alike_64 : decode b_Mo_alike 64 = .ok (.ifCond .eq (39), 3) := by decide +kernel
theorem d_Mo_alike_67 : decode b_Mo_alike 67 = .ok (.aload_n 0, 1) := by decide +kernel
theorem d_Mo_alike_68 : decode b_Mo_alike 68 = .ok (.iload_n 1, 1) := by decide +kernel
theorem d_Mo_alike_69 : decode b_Mo_alike 69 = .ok (.iload 7, 2) := by decide +kernel
theorem d_Mo_alike_71 : decode b_Mo_alike 71 = .ok (.iload 9, 2) := by decide +kernel
theorem d_Mo_alike_73 : decode b_Mo_alike 73 = .ok (.iadd, 1) := by decide +kernel
theorem d_Mo_alike_74 : decode b_Mo_alike 74 = .ok (.invokevirtual 79, 3) := by decide +kernel
theorem d_Mo_alike_77 : decode b_Mo_alike 77 = .ok (.aload_n 0, 1) := by decide +kernel
theorem d_Mo_alike_78 : decode b_Mo_alike 78 = .ok (.iload_n 3, 1) := by decide +kernel
theorem d_Mo_alike_79 : decode b_Mo_alike 79 = .ok (.iload 8, 2) := by decide +kernel
theorem d_Mo_alike_81 : decode b_Mo_alike 81 = .ok (.iload 9, 2) := by decide +kernel
theorem d_Mo_alike_83 : decode b_Mo_alike 83 = .ok (.iadd, 1) := by decide +kernel
theorem d_Mo_alike_84 : decode b_Mo_alike 84 = .ok (.invokevirtual 79, 3) := by decide +kernel
theorem d_Mo_alike_87 : decode b_Mo_alike 87 = .ok (.if_icmp .ne (7), 3) := by decide +kernel
theorem d_Mo_alike_90 : decode b_Mo_alike 90 = .ok (.iconst (1), 1) := by decide +kernel
theorem d_Mo_alike_91 : decode b_Mo_alike 91 = .ok (.goto (4), 3) := by decide +kernel
theorem d_Mo_alike_94 : decode b_Mo_alike 94 = .ok (.iconst (0), 1) := by decide +kernel
theorem d_Mo_alike_95 : decode b_Mo_alike 95 = .ok (.istore 6, 2) := by decide +kernel
theorem d_Mo_alike_97 : decode b_Mo_alike 97 = .ok (.iinc 9 (1), 3) := by decide +kernel
theorem d_Mo_alike_100 : decode b_Mo_alike 100 = .ok (.goto (-45), 3) := by decide +kernel
theorem d_Mo_alike_103 : decode b_Mo_alike 103 = .ok (.iload 6, 2) := by decide +kernel
theorem d_Mo_alike_105 : decode b_Mo_alike 105 = .ok (.ireturn, 1) := by decide +kernel
theorem d_Mo_same_0 : decode b_Mo_same 0 = .ok (.aload_n 0, 1) := by decide +kernel
theorem d_Mo_same_1 : decode b_Mo_same 1 = .ok (.iload_n 1, 1) := by decide +kernel
theorem d_Mo_same_2 : decode b_Mo_same 2 = .ok (.invokevirtual 99, 3) := by decide +kernel
theorem d_Mo_same_5 : decode b_Mo_same 5 = .ok (.ifCond .eq (11), 3) := by decide +kernel
theorem d_Mo_same_8 : decode b_Mo_same 8 = .ok (.aload_n 0, 1) := by decide +kernel
theorem d_Mo_same_9 : decode b_Mo_same 9 = .ok (.iload_n 2, 1) := by decide +kernel
theorem d_Mo_same_10 : decode b_Mo_same 10 = .ok (.invokevirtual 99, 3) := by decide +kernel
theorem d_Mo_same_13 : decode b_Mo_same 13 = .ok (.ifCond .ne (5), 3) := by decide +kernel
theorem d_Mo_same_16 : decode b_Mo_same 16 = .ok (.iconst (0), 1) := by decide +kernel
theorem d_Mo_same_17 : decode b_Mo_same 17 = .ok (.ireturn, 1) := by decide +kernel
theorem d_Mo_same_18 : decode b_Mo_same 18 = .ok (.aload_n 0, 1) := by decide +kernel
theorem d_Mo_same_19 : decode b_Mo_same 19 = .ok (.iload_n 1, 1) := by decide +kernel
theorem d_Mo_same_20 : decode b_Mo_same 20 = .ok (.iconst (2), 1) := by decide +kernel
theorem d_Mo_same_21 : decode b_Mo_same 21 = .ok (.invokevirtual 79, 3) := by decide +kernel
theorem d_Mo_same_24 : decode b_Mo_same 24 = .ok (.aload_n 0, 1) := by decide +kernel
theorem d_Mo_same_25 : decode b_Mo_same 25 = .ok (.iload_n 2, 1) := by decide +kernel
theorem d_Mo_same_26 : decode b_Mo_same 26 = .ok (.iconst (2), 1) := by decide +kernel
theorem d_Mo_same_27 : decode b_Mo_same 27 = .ok (.invokevirtual 79, 3) := by decide +kernel
theorem d_Mo_same_30 : decode b_Mo_same 30 = .ok (.if_icmp .ne (37), 3) := by decide +kernel
theorem d_Mo_same_33 : decode b_Mo_same 33 = .ok (.aload_n 0, 1) := by decide +kernel
theorem d_Mo_same_34 : decode b_Mo_same 34 = .ok (.iload_n 1, 1) := by decide +kernel
theorem d_Mo_same_35 : decode b_Mo_same 35 = .ok (.iconst (3), 1) := by decide +kernel
theorem d_Mo_same_36 : decode b_Mo_same 36 = .ok (.invokevirtual 79, 3) := by decide +kernel
theorem d_Mo_same_39 : decode b_Mo_same 39 = .ok (.aload_n 0, 1) := by decide +kernel
theorem d_Mo_same_40 : decode b_Mo_same 40 = .ok (.iload_n 2, 1) := by decide +kernel
theorem d_Mo_same_41 : decode b_Mo_same 41 = .ok (.iconst (3), 1) := by decide +kernel
theorem d_Mo_same_42 : decode b_Mo_same 42 = .ok (.invokevirtual 79, 3) := by decide +kernel
theorem d_Mo_same_45 : decode b_Mo_same 45 = .ok (.if_icmp .ne (22), 3) := by decide +kernel
theorem d_Mo_same_48 : decode b_Mo_same 48 = .ok (.aload_n 0, 1) := by decide +kernel
theorem d_Mo_same_49 : decode b_Mo_same 49 = .ok (.iload_n 1, 1) := by decide +kernel
theorem d_Mo_same_50 : decode b_Mo_same 50 = .ok (.iconst (4), 1) := by decide +kernel
theorem d_Mo_same_51 : decode b_Mo_same 51 = .ok (.invokevirtual 79, 3) := by decide +kernel
theorem d_Mo_same_54 : decode b_Mo_same 54 = .ok (.aload_n 0, 1) := by decide +kernel
theorem d_Mo_same_55 : decode b_Mo_same 55 = .ok (.iload_n 2, 1) := by decide +kernel
theorem d_Mo_same_56 : decode b_Mo_same 56 = .ok (.iconst (4), 1) := by decide +kernel
theorem d_Mo_same_57 : decode b_Mo_same 57 = .ok (.invokevirtual 79, 3) := by decide +kernel
theorem d_Mo_same_60 : decode b_Mo_same 60 = .ok (.if_icmp .ne (7), 3) := by decide +kernel
theorem d_Mo_same_63 : decode b_Mo_same 63 = .ok (.iconst (1), 1) := by decide +kernel
theorem d_Mo_same_64 : decode b_Mo_same 64 = .ok (.goto (4), 3) := by decide +kernel
theorem d_Mo_same_67 : decode b_Mo_same 67 = .ok (.iconst (0), 1) := by decide +kernel
theorem d_Mo_same_68 : decode b_Mo_same 68 = .ok (.istore_n 3, 1) := by decide +kernel
theorem d_Mo_same_69 : decode b_Mo_same 69 = .ok (.iconst (1), 1) := by decide +kernel
theorem d_Mo_same_70 : decode b_Mo_same 70 = .ok (.istore 4, 2) := by decide +kernel
theorem d_Mo_same_72 : decode b_Mo_same 72 = .ok (.iload 4, 2) := by decide +kernel
theorem d_Mo_same_74 : decode b_Mo_same 74 = .ok (.bipush (12), 2) := by decide +kernel
theorem d_Mo_same_76 : decode b_Mo_same 76 = .ok (.if_icmp .gt (67), 3) := by decide +kernel
theorem d_Mo_same_79 : decode b_Mo_same 79 = .ok (.iload_n 3, 1) := by decide +kernel
theorem d_Mo_same_80 : decode b_Mo_same 80 = .ok (.ifCond .eq (63), 3) := by decide +kernel
theorem d_Mo_same_83 : decode b_Mo_same 83 = .ok (.aload_n 0, 1) := by decide +kernel
theorem d_Mo_same_84 : decode b_Mo_same 84 = .ok (.iload_n 1, 1) := by decide +kernel
theorem d_Mo_same_85 : decode b_Mo_same 85 = .ok (.iload 4, 2) := by decide +kernel
theorem d_Mo_same_87 : decode b_Mo_same 87 = .ok (.invokevirtual 82, 3) := by decide +kernel
theorem d_Mo_same_90 : decode b_Mo_same 90 = .ok (.istore 5, 2) := by decide +kernel
theorem d_Mo_same_92 : decode b_Mo_same 92 = .ok (.aload_n 0, 1) := by decide +kernel
theorem d_Mo_same_93 : decode b_Mo_same 93 = .ok (.iload_n 2, 1) := by decide +kernel
theorem d_Mo_same_94 : decode b_Mo_same 94 = .ok (.iload 4, 2) := by decide +kernel
theorem d_Mo_same_96 : decode b_Mo_same 96 = .ok (.invokevirtual 82, 3) := by decide +kernel
theorem d_Mo_same_99 : decode b_Mo_same 99 = .ok (.istore 6, 2) := by decide +kernel
theorem d_Mo_same_101 : decode b_Mo_same 101 = .ok (.iload 5, 2) := by decide +kernel
theorem d_Mo_same_103 : decode b_Mo_same 103 = .ok (.ifCond .lt (8), 3) := by decide +kernel
theorem d_Mo_same_106 : decode b_Mo_same 106 = .ok (.iload 6, 2) := by decide +kernel
theorem d_Mo_same_108 : decode b_Mo_same 108 = .ok (.ifCond .ge (18), 3) := by decide +kernel
theorem d_Mo_same_111 : decode b_Mo_same 111 = .ok (.iload 5, 2) := by decide +kernel
theorem d_Mo_same_113 : decode b_Mo_same 113 = .ok (.iload 6, 2) := by decide +kernel
theorem d_Mo_same_115 : decode b_Mo_same 115 = .ok (.if_icmp .ne (7), 3) := by decide +kernel
theorem d_Mo_same_118 : decode b_Mo_same 118 = .ok (.iconst (1), 1) := by decide +kernel
theorem d_Mo_same_119 : decode b_Mo_same 119 = .ok (.goto (17), 3) := by decide +kernel
theorem d_Mo_same_122 : decode b_Mo_same 122 = .ok (.iconst (0), 1) := by decide +kernel
theorem d_Mo_same_123 : decode b_Mo_same 123 = .ok (.goto (13), 3) := by decide +kernel
theorem d_Mo_same_126 : decode b_Mo_same 126 = .ok (.aload_n 0, 1) := by decide +kernel
theorem d_Mo_same_127 : decode b_Mo_same 127 = .ok (.iload_n 1, 1) := by decide +kernel
theorem d_Mo_same_128 : decode b_Mo_same 128 = .ok (.iload 5, 2) := by decide +kernel
theorem d_Mo_same_130 : decode b_Mo_same 130 = .ok (.iload_n 2, 1) := by decide +kernel
theorem d_Mo_same_131 : decode b_Mo_same 131 = .ok (.iload 6, 2) := by decide +kernel
theorem d_Mo_same_133 : decode b_Mo_same 133 = .ok (.invokevirtual 102, 3) := by decide +kernel
theorem d_Mo_same_136 : decode b_Mo_same 136 = .ok (.istore_n 3, 1) := by decide +kernel
theorem d_Mo_same_137 : decode b_Mo_same 137 = .ok (.iinc 4 (1), 3) := by decide +kernel
theorem d_Mo_same_140 : decode b_Mo_same 140 = .ok (.goto (-68), 3) := by decide +kernel
theorem d_Mo_same_143 : decode b_Mo_same 143 = .ok (.iload_n 3, 1) := by decide +kernel
theorem d_Mo_same_144 : decode b_Mo_same 144 = .ok (.ireturn, 1) := by decide +kernel
theorem d_Buffer_load_0 : decode b_Buffer_load 0 = .ok (.aload_n 0, 1) := by decide +kernel
theorem d_Buffer_load_1 : decode b_Buffer_load 1 = .ok (.aload_n 1, 1) := by decide +kernel
theorem d_Buffer_load_2 : decode b_Buffer_load 2 = .ok (.arraylength, 1) := by decide +kernel
theorem d_Buffer_load_3 : decode b_Buffer_load 3 = .ok (.sipush (256), 3) := by decide +kernel
theorem d_Buffer_load_6 : decode b_Buffer_load 6 = .ok (.invokestatic 19, 3) := by decide +kernel
theorem d_Buffer_load_9 : decode b_Buffer_load 9 = .ok (.putfield 15, 3) := by decide +kernel
theorem d_Buffer_load_12 : decode b_Buffer_load 12 = .ok (.aload_n 1, 1) := by decide +kernel
theorem d_Buffer_load_13 : decode b_Buffer_load 13 = .ok (.iconst (0), 1) := by decide +kernel
theorem d_Buffer_load_14 : decode b_Buffer_load 14 = .ok (.aload_n 0, 1) := by decide +kernel
theorem d_Buffer_load_15 : decode b_Buffer_load 15 = .ok (.getfield 9, 3) := by decide +kernel
theorem d_Buffer_load_18 : decode b_Buffer_load 18 = .ok (.iconst (0), 1) := by decide +kernel
theorem d_Buffer_load_19 : decode b_Buffer_load 19 = .ok (.aload_n 0, 1) := by decide +kernel
theorem d_Buffer_load_20 : decode b_Buffer_load 20 = .ok (.getfield 15, 3) := by decide +kernel
theorem d_Buffer_load_23 : decode b_Buffer_load 23 = .ok (.invokestatic 25, 3) := by decide +kernel
theorem d_Buffer_load_26 : decode b_Buffer_load 26 = .ok (.return_, 1) := by decide +kernel
theorem d_CL_write_0 : decode b_CL_write 0 = .ok (.aload_n 0, 1) := by decide +kernel
theorem d_CL_write_1 : decode b_CL_write 1 = .ok (.iload_n 1, 1) := by decide +kernel
theorem d_CL_write_2 : decode b_CL_write 2 = .ok (.invokevirtual 85, 3) := by decide +kernel
theorem d_CL_write_5 : decode b_CL_write 5 = .ok (.astore_n 2, 1) := by decide +kernel
theorem d_CL_write_6 : decode b_CL_write 6 = .ok (.aload_n 2, 1) := by decide +kernel
theorem d_CL_write_7 : decode b_CL_write 7 = .ok (.ifnonnull (5), 3) := by decide +kernel
theorem d_CL_write_10 : decode b_CL_write 10 = .ok (.iconst (-1), 1) := by decide +kernel
theorem d_CL_write_11 : decode b_CL_write 11 = .ok (.ireturn, 1) := by decide +kernel
theorem d_CL_write_12 : decode b_CL_write 12 = .ok (.aload_n 0, 1) := by decide +kernel
theorem d_CL_write_13 : decode b_CL_write 13 = .ok (.getfield 12, 3) := by decide +kernel
theorem d_CL_write_16 : decode b_CL_write 16 = .ok (.aload_n 2, 1) := by decide +kernel
theorem d_CL_write_17 : decode b_CL_write 17 = .ok (.getfield 96, 3) := by decide +kernel
theorem d_CL_write_20 : decode b_CL_write 20 = .ok (.invokevirtual 99, 3) := by decide +kernel
theorem d_CL_write_23 : decode b_CL_write 23 = .ok (.aload_n 0, 1) := by decide +kernel
theorem d_CL_write_24 : decode b_CL_write 24 = .ok (.getfield 12, 3) := by decide +kernel
theorem d_CL_write_27 : decode b_CL_write 27 = .ok (.getfield 57, 3) := by decide +kernel
theorem d_CL_write_30 : decode b_CL_write 30 = .ok (.ireturn, 1) := by decide +kernel
theorem d_Mo_written_0 : decode b_Mo_written 0 = .ok (.bipush (8), 2) := by decide +kernel
theorem d_Mo_written_2 : decode b_Mo_written 2 = .ok (.istore 4, 2) := by decide +kernel
theorem d_Mo_written_4 : decode b_Mo_written 4 = .ok (.iload 4, 2) := by decide +kernel
theorem d_Mo_written_6 : decode b_Mo_written 6 = .ok (.iload_n 3, 1) := by decide +kernel
theorem d_Mo_written_7 : decode b_Mo_written 7 = .ok (.if_icmp .ge (45), 3) := by decide +kernel
theorem d_Mo_written_10 : decode b_Mo_written 10 = .ok (.aload_n 0, 1) := by decide +kernel
theorem d_Mo_written_11 : decode b_Mo_written 11 = .ok (.iload_n 1, 1) := by decide +kernel
theorem d_Mo_written_12 : decode b_Mo_written 12 = .ok (.aload_n 0, 1) := by decide +kernel
theorem d_Mo_written_13 : decode b_Mo_written 13 = .ok (.getfield 7, 3) := by decide +kernel
theorem d_Mo_written_16 : decode b_Mo_written 16 = .ok (.iload 4, 2) := by decide +kernel
theorem d_Mo_written_18 : decode b_Mo_written 18 = .ok (.iaload, 1) := by decide +kernel
theorem d_Mo_written_19 : decode b_Mo_written 19 = .ok (.invokevirtual 82, 3) := by decide +kernel
theorem d_Mo_written_22 : decode b_Mo_written 22 = .ok (.istore 5, 2) := by decide +kernel
theorem d_Mo_written_24 : decode b_Mo_written 24 = .ok (.aload_n 0, 1) := by decide +kernel
theorem d_Mo_written_25 : decode b_Mo_written 25 = .ok (.iload_n 1, 1) := by decide +kernel
theorem d_Mo_written_26 : decode b_Mo_written 26 = .ok (.iload_n 2, 1) := by decide +kernel
theorem d_Mo_written_27 : decode b_Mo_written 27 = .ok (.iload_n 1, 1) := by decide +kernel
theorem d_Mo_written_28 : decode b_Mo_written 28 = .ok (.iload 5, 2) := by decide +kernel
theorem d_Mo_written_30 : decode b_Mo_written 30 = .ok (.invokevirtual 102, 3) := by decide +kernel
theorem d_Mo_written_33 : decode b_Mo_written 33 = .ok (.ifCond .eq (13), 3) := by decide +kernel
theorem d_Mo_written_36 : decode b_Mo_written 36 = .ok (.aload_n 0, 1) := by decide +kernel
theorem d_Mo_written_37 : decode b_Mo_written 37 = .ok (.getfield 7, 3) := by decide +kernel
theorem d_Mo_written_40 : decode b_Mo_written 40 = .ok (.iload 4, 2) := by decide +kernel
theorem d_Mo_written_42 : decode b_Mo_written 42 = .ok (.iconst (1), 1) := by decide +kernel
theorem d_Mo_written_43 : decode b_Mo_written 43 = .ok (.iadd, 1) := by decide +kernel
theorem d_Mo_written_44 : decode b_Mo_written 44 = .ok (.iaload, 1) := by decide +kernel
theorem d_Mo_written_45 : decode b_Mo_written 45 = .ok (.ireturn, 1) := by decide +kernel
theorem d_Mo_written_46 : decode b_Mo_written 46 = .ok (.iinc 4 (4), 3) := by decide +kernel
theorem d_Mo_written_49 : decode b_Mo_written 49 = .ok (.goto (-45), 3) := by decide +kernel
theorem d_Mo_written_52 : decode b_Mo_written 52 = .ok (.iconst (-1), 1) := by decide +kernel
theorem d_Mo_written_53 : decode b_Mo_written 53 = .ok (.ireturn, 1) := by decide +kernel
