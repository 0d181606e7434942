theorem d_Mo_curves_0 : decode b_Mo_curves 0 = .ok (.aload_n 0, 1) := by decide +kernel
theorem d_Mo_curves_1 : decode b_Mo_curves 1 = .ok (.iload_n 1, 1) := by decide +kernel
theorem d_Mo_curves_2 : decode b_Mo_curves 2 = .ok (.invokevirtual 144, 3) := by decide +kernel
theorem d_Mo_curves_5 : decode b_Mo_curves 5 = .ok (.ifCond .eq (7), 3) := by decide +kernel
theorem d_Mo_curves_8 : decode b_Mo_curves 8 = .ok (.iconst (1), 1) := by decide +kernel
theorem d_Mo_curves_9 : decode b_Mo_curves 9 = .ok (.goto (4), 3) := by decide +kernel
theorem d_Mo_curves_12 : decode b_Mo_curves 12 = .ok (.iconst (3), 1) := by decide +kernel
theorem d_Mo_curves_13 : decode b_Mo_curves 13 = .ok (.istore_n 3, 1) := by decide +kernel
theorem d_Mo_curves_14 : decode b_Mo_curves 14 = .ok (.iconst (0), 1) := by decide +kernel
theorem d_Mo_curves_15 : decode b_Mo_curves 15 = .ok (.istore 4, 2) := by decide +kernel
theorem d_Mo_curves_17 : decode b_Mo_curves 17 = .ok (.iload 4, 2) := by decide +kernel
theorem d_Mo_curves_19 : decode b_Mo_curves 19 = .ok (.iload_n 3, 1) := by decide +kernel
theorem d_Mo_curves_20 : decode b_Mo_curves 20 = .ok (.if_icmp .ge (66), 3) := by decide +kernel
theorem d_Mo_curves_23 : decode b_Mo_curves 23 = .ok (.iload_n 3, 1) := by decide +kernel
theorem d_Mo_curves_24 : decode b_Mo_curves 24 = .ok (.iconst (1), 1) := by decide +kernel
theorem d_Mo_curves_25 : decode b_Mo_curves 25 = .ok (.if_icmp .ne (7), 3) := by decide +kernel
theorem d_Mo_curves_28 : decode b_Mo_curves 28 = .ok (.iconst (1), 1) := by decide +kernel
theorem d_Mo_curves_29 : decode b_Mo_curves 29 = .ok (.goto (7), 3) := by decide +kernel
theorem d_Mo_curves_32 : decode b_Mo_curves 32 = .ok (.iconst (2), 1) := by decide +kernel
theorem d_Mo_curves_33 : decode b_Mo_curves 33 = .ok (.iload 4, 2) := by decide +kernel
theorem d_Mo_curves_35 : decode b_Mo_curves 35 = .ok (.iadd, 1) := by decide +kernel
theorem d_Mo_curves_36 : decode b_Mo_curves 36 = .ok (.istore 5, 2) := by decide +kernel
theorem d_Mo_curves_38 : decode b_Mo_curves 38 = .ok (.aload_n 0, 1) := by decide +kernel
theorem d_Mo_curves_39 : decode b_Mo_curves 39 = .ok (.getfield 51, 3) := by decide +kernel
theorem d_Mo_curves_42 : decode b_Mo_curves 42 = .ok (.iload 4, 2) := by decide +kernel
theorem d_Mo_curves_44 : decode b_Mo_curves 44 = .ok (.iload_n 2, 1) := by decide +kernel
theorem d_Mo_curves_45 : decode b_Mo_curves 45 = .ok (.ifCond .eq (20), 3) := by decide +kernel
theorem d_Mo_curves_48 : decode b_Mo_curves 48 = .ok (.aload_n 0, 1) := by decide +kernel
theorem d_Mo_curves_49 : decode b_Mo_curves 49 = .ok (.iload_n 1, 1) := by decide +kernel
theorem d_Mo_curves_50 : decode b_Mo_curves 50 = .ok (.iload 5, 2) := by decide +kernel
theorem d_Mo_curves_52 : decode b_Mo_curves 52 = .ok (.aload_n 0, 1) := by decide +kernel
theorem d_Mo_curves_53 : decode b_Mo_curves 53 = .ok (.getfield 54, 3) := by decide +kernel
theorem d_Mo_curves_56 : decode b_Mo_curves 56 = .ok (.iload 4, 2) := by decide +kernel
theorem d_Mo_curves_58 : decode b_Mo_curves 58 = .ok (.laload, 1) := by decide +kernel
theorem d_Mo_curves_59 : decode b_Mo_curves 59 = .ok (.invokevirtual 138, 3) := by decide +kernel
theorem d_Mo_curves_62 : decode b_Mo_curves 62 = .ok (.goto (17), 3) := by decide +kernel
theorem d_Mo_curves_65 : decode b_Mo_curves 65 = .ok (.aload_n 0, 1) := by decide +kernel
theorem d_Mo_curves_66 : decode b_Mo_curves 66 = .ok (.iload_n 1, 1) := by decide +kernel
theorem d_Mo_curves_67 : decode b_Mo_curves 67 = .ok (.iload 5, 2) := by decide +kernel
theorem d_Mo_curves_69 : decode b_Mo_curves 69 = .ok (.aload_n 0, 1) := by decide +kernel
theorem d_Mo_curves_70 : decode b_Mo_curves 70 = .ok (.getfield 54, 3) := by decide +kernel
theorem d_Mo_curves_73 : decode b_Mo_curves 73 = .ok (.iload 4, 2) := by decide +kernel
theorem d_Mo_curves_75 : decode b_Mo_curves 75 = .ok (.laload, 1) := by decide +kernel
theorem d_Mo_curves_76 : decode b_Mo_curves 76 = .ok (.invokevirtual 127, 3) := by decide +kernel
theorem d_Mo_curves_79 : decode b_Mo_curves 79 = .ok (.lastore, 1) := by decide +kernel
theorem d_Mo_curves_80 : decode b_Mo_curves 80 = .ok (.iinc 4 (1), 3) := by decide +kernel
theorem d_Mo_curves_83 : decode b_Mo_curves 83 = .ok (.goto (-66), 3) := by decide +kernel
theorem d_Mo_curves_86 : decode b_Mo_curves 86 = .ok (.return_, 1) := by decide +kernel
theorem d_Mo_matrix_0 : decode b_Mo_matrix 0 = .ok (.aload_n 0, 1) := by decide +kernel
theorem d_Mo_matrix_1 : decode b_Mo_matrix 1 = .ok (.iload_n 1, 1) := by decide +kernel
theorem d_Mo_matrix_2 : decode b_Mo_matrix 2 = .ok (.invokevirtual 154, 3) := by decide +kernel
theorem d_Mo_matrix_5 : decode b_Mo_matrix 5 = .ok (.iconst (0), 1) := by decide +kernel
theorem d_Mo_matrix_6 : decode b_Mo_matrix 6 = .ok (.istore_n 2, 1) := by decide +kernel
theorem d_Mo_matrix_7 : decode b_Mo_matrix 7 = .ok (.iload_n 2, 1) := by decide +kernel
theorem d_Mo_matrix_8 : decode b_Mo_matrix 8 = .ok (.iconst (3), 1) := by decide +kernel
theorem d_Mo_matrix_9 : decode b_Mo_matrix 9 = .ok (.if_icmp .ge (72), 3) := by decide +kernel
theorem d_Mo_matrix_12 : decode b_Mo_matrix 12 = .ok (.aload_n 0, 1) := by decide +kernel
theorem d_Mo_matrix_13 : decode b_Mo_matrix 13 = .ok (.getfield 51, 3) := by decide +kernel
theorem d_Mo_matrix_16 : decode b_Mo_matrix 16 = .ok (.iload_n 2, 1) := by decide +kernel
theorem d_Mo_matrix_17 : decode b_Mo_matrix 17 = .ok (.aload_n 0, 1) := by decide +kernel
theorem d_Mo_matrix_18 : decode b_Mo_matrix 18 = .ok (.getfield 57, 3) := by decide +kernel
theorem d_Mo_matrix_21 : decode b_Mo_matrix 21 = .ok (.iconst (3), 1) := by decide +kernel
theorem d_Mo_matrix_22 : decode b_Mo_matrix 22 = .ok (.iload_n 2, 1) := by decide +kernel
theorem d_Mo_matrix_23 : decode b_Mo_matrix 23 = .ok (.imul, 1) := by decide +kernel
theorem d_Mo_matrix_24 : decode b_Mo_matrix 24 = .ok (.laload, 1) := by decide +kernel
theorem d_Mo_matrix_25 : decode b_Mo_matrix 25 = .ok (.aload_n 0, 1) := by decide +kernel
theorem d_Mo_matrix_26 : decode b_Mo_matrix 26 = .ok (.getfield 54, 3) := by decide +kernel
theorem d_Mo_matrix_29 : decode b_Mo_matrix 29 = .ok (.iconst (0), 1) := by decide +kernel
theorem d_Mo_matrix_30 : decode b_Mo_matrix 30 = .ok (.laload, 1) := by decide +kernel
theorem d_Mo_matrix_31 : decode b_Mo_matrix 31 = .ok (.lmul, 1) := by decide +kernel
theorem d_Mo_matrix_32 : decode b_Mo_matrix 32 = .ok (.aload_n 0, 1) := by decide +kernel
theorem d_Mo_matrix_33 : decode b_Mo_matrix 33 = .ok (.getfield 57, 3) := by decide +kernel
theorem d_Mo_matrix_36 : decode b_Mo_matrix 36 = .ok (.iconst (3), 1) := by decide +kernel
theorem d_Mo_matrix_37 : decode b_Mo_matrix 37 = .ok (.iload_n 2, 1) := by decide +kernel
theorem d_Mo_matrix_38 : decode b_Mo_matrix 38 = .ok (.imul, 1) := by decide +kernel
theorem d_Mo_matrix_39 : decode b_Mo_matrix 39 = .ok (.iconst (1), 1) := by decide +kernel
theorem d_Mo_matrix_40 : decode b_Mo_matrix 40 = .ok (.iadd, 1) := by decide +kernel
theorem d_Mo_matrix_41 : decode b_Mo_matrix 41 = .ok (.laload, 1) := by decide +kernel
theorem d_Mo_matrix_42 : decode b_Mo_matrix 42 = .ok (.aload_n 0, 1) := by decide +kernel
theorem d_Mo_matrix_43 : decode b_Mo_matrix 43 = .ok (.getfield 54, 3) := by decide +kernel
theorem d_Mo_matrix_46 : decode b_Mo_matrix 46 = .ok (.iconst (1), 1) := by decide +kernel
theorem d_Mo_matrix_47 : decode b_Mo_matrix 47 = .ok (.laload, 1) := by decide +kernel
theorem d_Mo_matrix_48 : decode b_Mo_matrix 48 = .ok (.lmul, 1) := by decide +kernel
theorem d_Mo_matrix_49 : decode b_Mo_matrix 49 = .ok (.ladd, 1) := by decide +kernel
theorem d_Mo_matrix_50 : decode b_Mo_matrix 50 = .ok (.aload_n 0, 1) := by decide +kernel
theorem d_Mo_matrix_51 : decode b_Mo_matrix 51 = .ok (.getfield 57, 3) := by decide +kernel
theorem d_Mo_matrix_54 : decode b_Mo_matrix 54 = .ok (.iconst (3), 1) := by decide +kernel
theorem d_Mo_matrix_55 : decode b_Mo_matrix 55 = .ok (.iload_n 2, 1) := by decide +kernel
theorem d_Mo_matrix_56 : decode b_Mo_matrix 56 = .ok (.imul, 1) := by decide +kernel
theorem d_Mo_matrix_57 : decode b_Mo_matrix 57 = .ok (.iconst (2), 1) := by decide +kernel
theorem d_Mo_matrix_58 : decode b_Mo_matrix 58 = .ok (.iadd, 1) := by decide +kernel
theorem d_Mo_matrix_59 : decode b_Mo_matrix 59 = .ok (.laload, 1) := by decide +kernel
theorem d_Mo_matrix_60 : decode b_Mo_matrix 60 = .ok (.aload_n 0, 1) := by decide +kernel
theorem d_Mo_matrix_61 : decode b_Mo_matrix 61 = .ok (.getfield 54, 3) := by decide +kernel
theorem d_Mo_matrix_64 : decode b_Mo_matrix 64 = .ok (.iconst (2), 1) := by decide +kernel
theorem d_Mo_matrix_65 : decode b_Mo_matrix 65 = .ok (.laload, 1) := by decide +kernel
theorem d_Mo_matrix_66 : decode b_Mo_matrix 66 = .ok (.lmul, 1) := by decide +kernel
theorem d_Mo_matrix_67 : decode b_Mo_matrix 67 = .ok (.ladd, 1) := by decide +kernel
theorem d_Mo_matrix_68 : decode b_Mo_matrix 68 = .ok (.ldc2_w 158, 3) := by decide +kernel
theorem d_Mo_matrix_71 : decode b_Mo_matrix 71 = .ok (.invokestatic 124, 3) := by decide +kernel
theorem d_Mo_matrix_74 : decode b_Mo_matrix 74 = .ok (.lastore, 1) := by decide +kernel
theorem d_Mo_matrix_75 : decode b_Mo_matrix 75 = .ok (.iinc 2 (1), 3) := by decide +kernel
theorem d_Mo_matrix_78 : decode b_Mo_matrix 78 = .ok (.goto (-71), 3) := by decide +kernel
theorem d_Mo_matrix_81 : decode b_Mo_matrix 81 = .ok (.return_, 1) := by decide +kernel
theorem d_Mo_node_0 : decode b_Mo_node 0 = .ok (.aload_n 0, 1) := by decide +kernel
theorem d_Mo_node_1 : decode b_Mo_node 1 = .ok (.iload_n 1, 1) := by decide +kernel
theorem d_Mo_node_2 : decode b_Mo_node 2 = .ok (.iload_n 2, 1) := by decide +kernel
theorem d_Mo_node_3 : decode b_Mo_node 3 = .ok (.iconst (1), 1) := by decide +kernel
theorem d_Mo_node_4 : decode b_Mo_node 4 = .ok (.iadd, 1) := by decide +kernel
theorem d_Mo_node_5 : decode b_Mo_node 5 = .ok (.invokevirtual 79, 3) := by decide +kernel
theorem d_Mo_node_8 : decode b_Mo_node 8 = .ok (.istore 5, 2) := by decide +kernel
theorem d_Mo_node_10 : decode b_Mo_node 10 = .ok (.iload_n 3, 1) := by decide +kernel
theorem d_Mo_node_11 : decode b_Mo_node 11 = .ok (.iconst (4), 1) := by decide +kernel
theorem d_Mo_node_12 : decode b_Mo_node 12 = .ok (.ishr, 1) := by decide +kernel
theorem d_Mo_node_13 : decode b_Mo_node 13 = .ok (.iconst (3), 1) := by decide +kernel
theorem d_Mo_node_14 : decode b_Mo_node 14 = .ok (.iand, 1) := by decide +kernel
theorem d_Mo_node_15 : decode b_Mo_node 15 = .ok (.istore 6, 2) := by decide +kernel
theorem d_Mo_node_17 : decode b_Mo_node 17 = .ok (.iload_n 3, 1) := by decide +kernel
theorem d_Mo_node_18 : decode b_Mo_node 18 = .ok (.iconst (2), 1) := by decide +kernel
theorem d_Mo_node_19 : decode b_Mo_node 19 = .ok (.ishr, 1) := by decide +kernel
theorem d_Mo_node_20 : decode b_Mo_node 20 = .ok (.iconst (3), 1) := by decide +kernel
theorem d_Mo_node_21 : decode b_Mo_node 21 = .ok (.iand, 1) := by decide +kernel
theorem d_Mo_node_22 : decode b_Mo_node 22 = .ok (.istore 7, 2) := by decide +kernel
theorem d_Mo_node_24 : decode b_Mo_node 24 = .ok (.ldc2_w 252, 3) := by decide +kernel
theorem d_Mo_node_27 : decode b_Mo_node 27 = .ok (.aload_n 0, 1) := by decide +kernel
theorem d_Mo_node_28 : decode b_Mo_node 28 = .ok (.iload_n 1, 1) := by decide +kernel
theorem d_Mo_node_29 : decode b_Mo_node 29 = .ok (.iload_n 2, 1) := by decide +kernel
theorem d_Mo_node_30 : decode b_Mo_node 30 = .ok (.iconst (2), 1) := by decide +kernel
theorem d_Mo_node_31 : decode b_Mo_node 31 = .ok (.iadd, 1) := by decide +kernel
theorem d_Mo_node_32 : decode b_Mo_node 32 = .ok (.iconst (3), 1) := by decide +kernel
theorem d_Mo_node_33 : decode b_Mo_node 33 = .ok (.iload 6, 2) := by decide +kernel
theorem d_Mo_node_35 : decode b_Mo_node 35 = .ok (.iload 5, 2) := by decide +kernel
theorem d_Mo_node_37 : decode b_Mo_node 37 = .ok (.imul, 1) := by decide +kernel
theorem d_Mo_node_38 : decode b_Mo_node 38 = .ok (.iload 7, 2) := by decide +kernel
theorem d_Mo_node_40 : decode b_Mo_node 40 = .ok (.iadd, 1) := by decide +kernel
theorem d_Mo_node_41 : decode b_Mo_node 41 = .ok (.iload 5, 2) := by decide +kernel
theorem d_Mo_node_43 : decode b_Mo_node 43 = .ok (.imul, 1) := by decide +kernel
theorem d_Mo_node_44 : decode b_Mo_node 44 = .ok (.iload_n 3, 1) := by decide +kernel
theorem d_Mo_node_45 : decode b_Mo_node 45 = .ok (.iconst (3), 1) := by decide +kernel
theorem d_Mo_node_46 : decode b_Mo_node 46 = .ok (.iand, 1) := by decide +kernel
theorem d_Mo_node_47 : decode b_Mo_node 47 = .ok (.iadd, 1) := by decide +kernel
theorem d_Mo_node_48 : decode b_Mo_node 48 = .ok (.imul, 1) := by decide +kernel
theorem d_Mo_node_49 : decode b_Mo_node 49 = .ok (.iadd, 1) := by decide +kernel
theorem d_Mo_node_50 : decode b_Mo_node 50 = .ok (.iload 4, 2) := by decide +kernel
theorem d_Mo_node_52 : decode b_Mo_node 52 = .ok (.iadd, 1) := by decide +kernel
theorem d_Mo_node_53 : decode b_Mo_node 53 = .ok (.invokevirtual 79, 3) := by decide +kernel
theorem d_Mo_node_56 : decode b_Mo_node 56 = .ok (.i2l, 1) := by decide +kernel
theorem d_Mo_node_57 : decode b_Mo_node 57 = .ok (.lmul, 1) := by decide +kernel
theorem d_Mo_node_58 : decode b_Mo_node 58 = .ok (.lreturn, 1) := by decide +kernel
