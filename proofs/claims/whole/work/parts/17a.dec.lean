theorem d_Gray_spread_0 : decode b_Gray_spread 0 = .ok (.aload_n 1, 1) := by decide +kernel
theorem d_Gray_spread_1 : decode b_Gray_spread 1 = .ok (.iconst (0), 1) := by decide +kernel
theorem d_Gray_spread_2 : decode b_Gray_spread 2 = .ok (.iaload, 1) := by decide +kernel
theorem d_Gray_spread_3 : decode b_Gray_spread 3 = .ok (.i2l, 1) := by decide +kernel
theorem d_Gray_spread_4 : decode b_Gray_spread 4 = .ok (.lstore_n 2, 1) := by decide +kernel
theorem d_Gray_spread_5 : decode b_Gray_spread 5 = .ok (.aload_n 0, 1) := by decide +kernel
theorem d_Gray_spread_6 : decode b_Gray_spread 6 = .ok (.getfield 9, 3) := by decide +kernel
theorem d_Gray_spread_9 : decode b_Gray_spread 9 = .ok (.iconst (1), 1) := by decide +kernel
theorem d_Gray_spread_10 : decode b_Gray_spread 10 = .ok (.if_icmp .ne (14), 3) := by decide +kernel
theorem d_Gray_spread_13 : decode b_Gray_spread 13 = .ok (.aload_n 1, 1) := by decide +kernel
theorem d_Gray_spread_14 : decode b_Gray_spread 14 = .ok (.iconst (1), 1) := by decide +kernel
theorem d_Gray_spread_15 : decode b_Gray_spread 15 = .ok (.ldc 25, 2) := by decide +kernel
theorem d_Gray_spread_17 : decode b_Gray_spread 17 = .ok (.iastore, 1) := by decide +kernel
theorem d_Gray_spread_18 : decode b_Gray_spread 18 = .ok (.aload_n 1, 1) := by decide +kernel
theorem d_Gray_spread_19 : decode b_Gray_spread 19 = .ok (.iconst (2), 1) := by decide +kernel
theorem d_Gray_spread_20 : decode b_Gray_spread 20 = .ok (.ldc 25, 2) := by decide +kernel
theorem d_Gray_spread_22 : decode b_Gray_spread 22 = .ok (.iastore, 1) := by decide +kernel
theorem d_Gray_spread_23 : decode b_Gray_spread 23 = .ok (.return_, 1) := by decide +kernel
theorem d_Gray_spread_24 : decode b_Gray_spread 24 = .ok (.iconst (0), 1) := by decide +kernel
theorem d_Gray_spread_25 : decode b_Gray_spread 25 = .ok (.istore 4, 2) := by decide +kernel
theorem d_Gray_spread_27 : decode b_Gray_spread 27 = .ok (.iload 4, 2) := by decide +kernel
theorem d_Gray_spread_29 : decode b_Gray_spread 29 = .ok (.iconst (3), 1) := by decide +kernel
theorem d_Gray_spread_30 : decode b_Gray_spread 30 = .ok (.if_icmp .ge (29), 3) := by decide +kernel
theorem d_Gray_spread_33 : decode b_Gray_spread 33 = .ok (.aload_n 1, 1) := by decide +kernel
theorem d_Gray_spread_34 : decode b_Gray_spread 34 = .ok (.iload 4, 2) := by decide +kernel
theorem d_Gray_spread_36 : decode b_Gray_spread 36 = .ok (.getstatic 26, 3) := by decide +kernel
theorem d_Gray_spread_39 : decode b_Gray_spread 39 = .ok (.iload 4, 2) := by decide +kernel
theorem d_Gray_spread_41 : decode b_Gray_spread 41 = .ok (.iaload, 1) := by decide +kernel
theorem d_Gray_spread_42 : decode b_Gray_spread 42 = .ok (.i2l, 1) := by decide +kernel
theorem d_Gray_spread_43 : decode b_Gray_spread 43 = .ok (.lload_n 2, 1) := by decide +kernel
theorem d_Gray_spread_44 : decode b_Gray_spread 44 = .ok (.lmul, 1) := by decide +kernel
theorem d_Gray_spread_45 : decode b_Gray_spread 45 = .ok (.ldc2_w 30, 3) := by decide +kernel
theorem d_Gray_spread_48 : decode b_Gray_spread 48 = .ok (.invokestatic 32, 3) := by decide +kernel
theorem d_Gray_spread_51 : decode b_Gray_spread 51 = .ok (.l2i, 1) := by decide +kernel
theorem d_Gray_spread_52 : decode b_Gray_spread 52 = .ok (.iastore, 1) := by decide +kernel
theorem d_Gray_spread_53 : decode b_Gray_spread 53 = .ok (.iinc 4 (1), 3) := by decide +kernel
theorem d_Gray_spread_56 : decode b_Gray_spread 56 = .ok (.goto (-29), 3) := by decide +kernel
theorem d_Gray_spread_59 : decode b_Gray_spread 59 = .ok (.return_, 1) := by decide +kernel
theorem d_Gray_gather_0 : decode b_Gray_gather 0 = .ok (.aload_n 0, 1) := by decide +kernel
theorem d_Gray_gather_1 : decode b_Gray_gather 1 = .ok (.getfield 9, 3) := by decide +kernel
theorem d_Gray_gather_4 : decode b_Gray_gather 4 = .ok (.ifCond .ne (23), 3) := by decide +kernel
theorem d_Gray_gather_7 : decode b_Gray_gather 7 = .ok (.aload_n 1, 1) := by decide +kernel
theorem d_Gray_gather_8 : decode b_Gray_gather 8 = .ok (.iconst (0), 1) := by decide +kernel
theorem d_Gray_gather_9 : decode b_Gray_gather 9 = .ok (.ldc2_w 30, 3) := by decide +kernel
theorem d_Gray_gather_12 : decode b_Gray_gather 12 = .ok (.aload_n 1, 1) := by decide +kernel
theorem d_Gray_gather_13 : decode b_Gray_gather 13 = .ok (.iconst (1), 1) := by decide +kernel
theorem d_Gray_gather_14 : decode b_Gray_gather 14 = .ok (.iaload, 1) := by decide +kernel
theorem d_Gray_gather_15 : decode b_Gray_gather 15 = .ok (.i2l, 1) := by decide +kernel
theorem d_Gray_gather_16 : decode b_Gray_gather 16 = .ok (.lmul, 1) := by decide +kernel
theorem d_Gray_gather_17 : decode b_Gray_gather 17 = .ok (.ldc2_w 36, 3) := by decide +kernel
theorem d_Gray_gather_20 : decode b_Gray_gather 20 = .ok (.invokestatic 32, 3) := by decide +kernel
theorem d_Gray_gather_23 : decode b_Gray_gather 23 = .ok (.invokestatic 38, 3) := by decide +kernel
theorem d_Gray_gather_26 : decode b_Gray_gather 26 = .ok (.iastore, 1) := by decide +kernel
theorem d_Gray_gather_27 : decode b_Gray_gather 27 = .ok (.aload_n 1, 1) := by decide +kernel
theorem d_Gray_gather_28 : decode b_Gray_gather 28 = .ok (.iconst (1), 1) := by decide +kernel
theorem d_Gray_gather_29 : decode b_Gray_gather 29 = .ok (.iconst (0), 1) := by decide +kernel
theorem d_Gray_gather_30 : decode b_Gray_gather 30 = .ok (.iastore, 1) := by decide +kernel
theorem d_Gray_gather_31 : decode b_Gray_gather 31 = .ok (.aload_n 1, 1) := by decide +kernel
theorem d_Gray_gather_32 : decode b_Gray_gather 32 = .ok (.iconst (2), 1) := by decide +kernel
theorem d_Gray_gather_33 : decode b_Gray_gather 33 = .ok (.iconst (0), 1) := by decide +kernel
theorem d_Gray_gather_34 : decode b_Gray_gather 34 = .ok (.iastore, 1) := by decide +kernel
theorem d_Gray_gather_35 : decode b_Gray_gather 35 = .ok (.return_, 1) := by decide +kernel
theorem d_Gray_run_0 : decode b_Gray_run 0 = .ok (.aload_n 0, 1) := by decide +kernel
theorem d_Gray_run_1 : decode b_Gray_run 1 = .ok (.getfield 15, 3) := by decide +kernel
theorem d_Gray_run_4 : decode b_Gray_run 4 = .ok (.iconst (4), 1) := by decide +kernel
theorem d_Gray_run_5 : decode b_Gray_run 5 = .ok (.if_icmp .ne (11), 3) := by decide +kernel
theorem d_Gray_run_8 : decode b_Gray_run 8 = .ok (.aload_n 0, 1) := by decide +kernel
theorem d_Gray_run_9 : decode b_Gray_run 9 = .ok (.aload_n 1, 1) := by decide +kernel
theorem d_Gray_run_10 : decode b_Gray_run 10 = .ok (.invokevirtual 18, 3) := by decide +kernel
theorem d_Gray_run_13 : decode b_Gray_run 13 = .ok (.goto (8), 3) := by decide +kernel
theorem d_Gray_run_16 : decode b_Gray_run 16 = .ok (.aload_n 0, 1) := by decide +kernel
theorem d_Gray_run_17 : decode b_Gray_run 17 = .ok (.aload_n 1, 1) := by decide +kernel
theorem d_Gray_run_18 : decode b_Gray_run 18 = .ok (.invokevirtual 22, 3) := by decide +kernel
theorem d_Gray_run_21 : decode b_Gray_run 21 = .ok (.return_, 1) := by decide +kernel
theorem d_Grid_axisOfGreatest_0 : decode b_Grid_axisOfGreatest 0 = .ok (.iconst (0), 1) := by decide +kernel
theorem d_Grid_axisOfGreatest_1 : decode b_Grid_axisOfGreatest 1 = .ok (.istore_n 1, 1) := by decide +kernel
theorem d_Grid_axisOfGreatest_2 : decode b_Grid_axisOfGreatest 2 = .ok (.iconst (1), 1) := by decide +kernel
theorem d_Grid_axisOfGreatest_3 : decode b_Grid_axisOfGreatest 3 = .ok (.istore_n 2, 1) := by decide +kernel
theorem d_Grid_axisOfGreatest_4 : decode b_Grid_axisOfGreatest 4 = .ok (.iload_n 2, 1) := by decide +kernel
theorem d_Grid_axisOfGreatest_5 : decode b_Grid_axisOfGreatest 5 = .ok (.iconst (3), 1) := by decide +kernel
theorem d_Grid_axisOfGreatest_6 : decode b_Grid_axisOfGreatest 6 = .ok (.if_icmp .ge (30), 3) := by decide +kernel
theorem d_Grid_axisOfGreatest_9 : decode b_Grid_axisOfGreatest 9 = .ok (.aload_n 0, 1) := by decide +kernel
theorem d_Grid_axisOfGreatest_10 : decode b_Grid_axisOfGreatest 10 = .ok (.getfield 9, 3) := by decide +kernel
theorem d_Grid_axisOfGreatest_13 : decode b_Grid_axisOfGreatest 13 = .ok (.iload_n 2, 1) := by decide +kernel
theorem d_Grid_axisOfGreatest_14 : decode b_Grid_axisOfGreatest 14 = .ok (.iaload, 1) := by decide +kernel
theorem d_Grid_axisOfGreatest_15 : decode b_Grid_axisOfGreatest 15 = .ok (.aload_n 0, 1) := by decide +kernel
theorem d_Grid_axisOfGreatest_16 : decode b_Grid_axisOfGreatest 16 = .ok (.getfield 9, 3) := by decide +kernel
theorem d_Grid_axisOfGreatest_19 : decode b_Grid_axisOfGreatest 19 = .ok (.iload_n 1, 1) := by decide +kernel
theorem d_Grid_axisOfGreatest_20 : decode b_Grid_axisOfGreatest 20 = .ok (.iaload, 1) := by decide +kernel
theorem d_Grid_axisOfGreatest_21 : decode b_Grid_axisOfGreatest 21 = .ok (.if_icmp .le (7), 3) := by decide +kernel
theorem d_Grid_axisOfGreatest_24 : decode b_Grid_axisOfGreatest 24 = .ok (.iload_n 2, 1) := by decide +kernel
theorem d_Grid_axisOfGreatest_25 : decode b_Grid_axisOfGreatest 25 = .ok (.goto (4), 3) := by decide +kernel
theorem d_Grid_axisOfGreatest_28 : decode b_Grid_axisOfGreatest 28 = .ok (.iload_n 1, 1) := by decide +kernel
theorem d_Grid_axisOfGreatest_29 : decode b_Grid_axisOfGreatest 29 = .ok (.istore_n 1, 1) := by decide +kernel
theorem d_Grid_axisOfGreatest_30 : decode b_Grid_axisOfGreatest 30 = .ok (.iinc 2 (1), 3) := by decide +kernel
theorem d_Grid_axisOfGreatest_33 : decode b_Grid_axisOfGreatest 33 = .ok (.goto (-29), 3) := by decide +kernel
theorem d_Grid_axisOfGreatest_36 : decode b_Grid_axisOfGreatest 36 = .ok (.iload_n 1, 1) := by decide +kernel
theorem d_Grid_axisOfGreatest_37 : decode b_Grid_axisOfGreatest 37 = .ok (.ireturn, 1) := by decide +kernel
theorem d_Grid_axisOfLeast_0 : decode b_Grid_axisOfLeast 0 = .ok (.iconst (0), 1) := by decide +kernel
theorem d_Grid_axisOfLeast_1 : decode b_Grid_axisOfLeast 1 = .ok (.istore_n 1, 1) := by decide +kernel
theorem d_Grid_axisOfLeast_2 : decode b_Grid_axisOfLeast 2 = .ok (.iconst (1), 1) := by decide +kernel
theorem d_Grid_axisOfLeast_3 : decode b_Grid_axisOfLeast 3 = .ok (.istore_n 2, 1) := by decide +kernel
theorem d_Grid_axisOfLeast_4 : decode b_Grid_axisOfLeast 4 = .ok (.iload_n 2, 1) := by decide +kernel
theorem d_Grid_axisOfLeast_5 : decode b_Grid_axisOfLeast 5 = .ok (.iconst (3), 1) := by decide +kernel
theorem d_Grid_axisOfLeast_6 : decode b_Grid_axisOfLeast 6 = .ok (.if_icmp .ge (30), 3) := by decide +kernel
theorem d_Grid_axisOfLeast_9 : decode b_Grid_axisOfLeast 9 = .ok (.aload_n 0, 1) := by decide +kernel
theorem d_Grid_axisOfLeast_10 : decode b_Grid_axisOfLeast 10 = .ok (.getfield 9, 3) := by decide +kernel
theorem d_Grid_axisOfLeast_13 : decode b_Grid_axisOfLeast 13 = .ok (.iload_n 2, 1) := by decide +kernel
theorem d_Grid_axisOfLeast_14 : decode b_Grid_axisOfLeast 14 = .ok (.iaload, 1) := by decide +kernel
theorem d_Grid_axisOfLeast_15 : decode b_Grid_axisOfLeast 15 = .ok (.aload_n 0, 1) := by decide +kernel
theorem d_Grid_axisOfLeast_16 : decode b_Grid_axisOfLeast 16 = .ok (.getfield 9, 3) := by decide +kernel
theorem d_Grid_axisOfLeast_19 : decode b_Grid_axisOfLeast 19 = .ok (.iload_n 1, 1) := by decide +kernel
theorem d_Grid_axisOfLeast_20 : decode b_Grid_axisOfLeast 20 = .ok (.iaload, 1) := by decide +kernel
theorem d_Grid_axisOfLeast_21 : decode b_Grid_axisOfLeast 21 = .ok (.if_icmp .gt (7), 3) := by decide +kernel
theorem d_Grid_axisOfLeast_24 : decode b_Grid_axisOfLeast 24 = .ok (.iload_n 2, 1) := by decide +kernel
theorem d_Grid_axisOfLeast_25 : decode b_Grid_axisOfLeast 25 = .ok (.goto (4), 3) := by decide +kernel
theorem d_Grid_axisOfLeast_28 : decode b_Grid_axisOfLeast 28 = .ok (.iload_n 1, 1) := by decide +kernel
theorem d_Grid_axisOfLeast_29 : decode b_Grid_axisOfLeast 29 = .ok (.istore_n 1, 1) := by decide +kernel
theorem d_Grid_axisOfLeast_30 : decode b_Grid_axisOfLeast 30 = .ok (.iinc 2 (1), 3) := by decide +kernel
theorem d_Grid_axisOfLeast_33 : decode b_Grid_axisOfLeast 33 = .ok (.goto (-29), 3) := by decide +kernel
theorem d_Grid_axisOfLeast_36 : decode b_Grid_axisOfLeast 36 = .ok (.iload_n 1, 1) := by decide +kernel
theorem d_Grid_axisOfLeast_37 : decode b_Grid_axisOfLeast 37 = .ok (.ireturn, 1) := by decide +kernel
theorem d_Grid_stride_0 : decode b_Grid_stride 0 = .ok (.iload_n 1, 1) := by decide +kernel
theorem d_Grid_stride_1 : decode b_Grid_stride 1 = .ok (.ifCond .ne (15), 3) := by decide +kernel
theorem d_Grid_stride_4 : decode b_Grid_stride 4 = .ok (.aload_n 0, 1) := by decide +kernel
theorem d_Grid_stride_5 : decode b_Grid_stride 5 = .ok (.getfield 22, 3) := by decide +kernel
theorem d_Grid_stride_8 : decode b_Grid_stride 8 = .ok (.aload_n 0, 1) := by decide +kernel
theorem d_Grid_stride_9 : decode b_Grid_stride 9 = .ok (.getfield 22, 3) := by decide +kernel
theorem d_Grid_stride_12 : decode b_Grid_stride 12 = .ok (.imul, 1) := by decide +kernel
theorem d_Grid_stride_13 : decode b_Grid_stride 13 = .ok (.goto (16), 3) := by decide +kernel
theorem d_Grid_stride_16 : decode b_Grid_stride 16 = .ok (.iload_n 1, 1) := by decide +kernel
theorem d_Grid_stride_17 : decode b_Grid_stride 17 = .ok (.iconst (1), 1) := by decide +kernel
theorem d_Grid_stride_18 : decode b_Grid_stride 18 = .ok (.if_icmp .ne (10), 3) := by decide +kernel
theorem d_Grid_stride_21 : decode b_Grid_stride 21 = .ok (.aload_n 0, 1) := by decide +kernel
theorem d_Grid_stride_22 : decode b_Grid_stride 22 = .ok (.getfield 22, 3) := by decide +kernel
theorem d_Grid_stride_25 : decode b_Grid_stride 25 = .ok (.goto (4), 3) := by decide +kernel
theorem d_Grid_stride_28 : decode b_Grid_stride 28 = .ok (.iconst (1), 1) := by decide +kernel
theorem d_Grid_stride_29 : decode b_Grid_stride 29 = .ok (.ireturn, 1) := by decide +kernel
theorem d_Grid_levelAt_0 : decode b_Grid_levelAt 0 = .ok (.ldc2_w 53, 3) := by decide +kernel
theorem d_Grid_levelAt_3 : decode b_Grid_levelAt 3 = .ok (.aload_n 0, 1) := by decide +kernel
theorem d_Grid_levelAt_4 : decode b_Grid_levelAt 4 = .ok (.getfield 15, 3) := by decide +kernel
theorem d_Grid_levelAt_7 : decode b_Grid_levelAt 7 = .ok (.aload_n 0, 1) := by decide +kernel
theorem d_Grid_levelAt_8 : decode b_Grid_levelAt 8 = .ok (.getfield 18, 3) := by decide +kernel
theorem d_Grid_levelAt_11 : decode b_Grid_levelAt 11 = .ok (.iconst (3), 1) := by decide +kernel
theorem d_Grid_levelAt_12 : decode b_Grid_levelAt 12 = .ok (.iload_n 1, 1) := by decide +kernel
theorem d_Grid_levelAt_13 : decode b_Grid_levelAt 13 = .ok (.imul, 1) := by decide +kernel
theorem d_Grid_levelAt_14 : decode b_Grid_levelAt 14 = .ok (.iadd, 1) := by decide +kernel
theorem d_Grid_levelAt_15 : decode b_Grid_levelAt 15 = .ok (.iload_n 2, 1) := by decide +kernel
theorem d_Grid_levelAt_16 : decode b_Grid_levelAt 16 = .ok (.iadd, 1) := by decide +kernel
theorem d_Grid_levelAt_17 : decode b_Grid_levelAt 17 = .ok (.iaload, 1) := by decide +kernel
theorem d_Grid_levelAt_18 : decode b_Grid_levelAt 18 = .ok (.i2l, 1) := by decide +kernel
theorem d_Grid_levelAt_19 : decode b_Grid_levelAt 19 = .ok (.lmul, 1) := by decide +kernel
theorem d_Grid_levelAt_20 : decode b_Grid_levelAt 20 = .ok (.lreturn, 1) := by decide +kernel
theorem d_Grid_run_0 : decode b_Grid_run 0 = .ok (.iconst (0), 1) := by decide +kernel
theorem d_Grid_run_1 : decode b_Grid_run 1 = .ok (.istore_n 2, 1) := by decide +kernel
theorem d_Grid_run_2 : decode b_Grid_run 2 = .ok (.iconst (0), 1) := by decide +kernel
theorem d_Grid_run_3 : decode b_Grid_run 3 = .ok (.istore_n 3, 1) := by decide +kernel
theorem d_Grid_run_4 : decode b_Grid_run 4 = .ok (.iload_n 3, 1) := by decide +kernel
theorem d_Grid_run_5 : decode b_Grid_run 5 = .ok (.iconst (3), 1) := by decide +kernel
theorem d_Grid_run_6 : decode b_Grid_run 6 = .ok (.if_icmp .ge (61), 3) := by decide +kernel
theorem d_Grid_run_9 : decode b_Grid_run 9 = .ok (.aload_n 1, 1) := by decide +kernel
theorem d_Grid_run_10 : decode b_Grid_run 10 = .ok (.iload_n 3, 1) := by decide +kernel
theorem d_Grid_run_11 : decode b_Grid_run 11 = .ok (.iaload, 1) := by decide +kernel
theorem d_Grid_run_12 : decode b_Grid_run 12 = .ok (.aload_n 0, 1) := by decide +kernel
theorem d_Grid_run_13 : decode b_Grid_run 13 = .ok (.getfield 22, 3) := by decide +kernel
theorem d_Grid_run_16 : decode b_Grid_run 16 = .ok (.iconst (1), 1) := by decide +kernel
theorem d_Grid_run_17 : decode b_Grid_run 17 = .ok (.isub, 1) := by decide +kernel
theorem d_Grid_run_18 : decode b_Grid_run 18 = .ok (.imul, 1) := by decide +kernel
theorem d_Grid_run_19 : decode b_Grid_run 19 = .ok (.istore 4, 2) := by decide +kernel
theorem d_Grid_run_21 : decode b_Grid_run 21 = .ok (.aload_n 0, 1) := by decide +kernel
theorem d_Grid_run_22 : decode b_Grid_run 22 = .ok (.getfield 22, 3) := by decide +kernel
theorem d_Grid_run_25 : decode b_Grid_run 25 = .ok (.iconst (2), 1) := by decide +kernel
theorem d_Grid_run_26 : decode b_Grid_run 26 = .ok (.isub, 1) := by decide +kernel
theorem d_Grid_run_27 : decode b_Grid_run 27 = .ok (.iload 4, 2) := by decide +kernel
theorem d_Grid_run_29 : decode b_Grid_run 29 = .ok (.ldc 25, 2) := by decide +kernel
theorem d_Grid_run_31 : decode b_Grid_run 31 = .ok (.idiv, 1) := by decide +kernel
theorem d_Grid_run_32 : decode b_Grid_run 32 = .ok (.invokestatic 26, 3) := by decide +kernel
theorem d_Grid_run_35 : decode b_Grid_run 35 = .ok (.istore 5, 2) := by decide +kernel
theorem d_Grid_run_37 : decode b_Grid_run 37 = .ok (.aload_n 0, 1) := by decide +kernel
theorem d_Grid_run_38 : decode b_Grid_run 38 = .ok (.getfield 9, 3) := by decide +kernel
theorem d_Grid_run_41 : decode b_Grid_run 41 = .ok (.iload_n 3, 1) := by decide +kernel
theorem d_Grid_run_42 : decode b_Grid_run 42 = .ok (.iload 4, 2) := by decide +kernel
theorem d_Grid_run_44 : decode b_Grid_run 44 = .ok (.ldc 25, 2) := by decide +kernel
theorem d_Grid_run_46 : decode b_Grid_run 46 = .ok (.iload 5, 2) := by decide +kernel
theorem d_Grid_run_48 : decode b_Grid_run 48 = .ok (.imul, 1) := by decide +kernel
theorem d_Grid_run_49 : decode b_Grid_run 49 = .ok (.isub, 1) := by decide +kernel
theorem d_Grid_run_50 : decode b_Grid_run 50 = .ok (.iastore, 1) := by decide +kernel
theorem d_Grid_run_51 : decode b_Grid_run 51 = .ok (.iload_n 2, 1) := by decide +kernel
theorem d_Grid_run_52 : decode b_Grid_run 52 = .ok (.aload_n 0, 1) := by decide +kernel
theorem d_Grid_run_53 : decode b_Grid_run 53 = .ok (.getfield 22, 3) := by decide +kernel
theorem d_Grid_run_56 : decode b_Grid_run 56 = .ok (.imul, 1) := by decide +kernel
theorem d_Grid_run_57 : decode b_Grid_run 57 = .ok (.iload 5, 2) := by decide +kernel
theorem d_Grid_run_59 : decode b_Grid_run 59 = .ok (.iadd, 1) := by decide +kernel
theorem d_Grid_run_60 : decode b_Grid_run 60 = .ok (.istore_n 2, 1) := by decide +kernel
theorem d_Grid_run_61 : decode b_Grid_run 61 = .ok (.iinc 3 (1), 3) := by decide +kernel
theorem d_Grid_run_64 : decode b_Grid_run 64 = .ok (.goto (-60), 3) := by decide +kernel
theorem d_Grid_run_67 : decode b_Grid_run 67 = .ok (.aload_n 0, 1) := by decide +kernel
theorem d_Grid_run_68 : decode b_Grid_run 68 = .ok (.invokevirtual 32, 3) := by decide +kernel
theorem d_Grid_run_71 : decode b_Grid_run 71 = .ok (.istore_n 3, 1) := by decide +kernel
theorem d_Grid_run_72 : decode b_Grid_run 72 = .ok (.aload_n 0, 1) := by decide +kernel
theorem d_Grid_run_73 : decode b_Grid_run 73 = .ok (.invokevirtual 36, 3) := by decide +kernel
theorem d_Grid_run_76 : decode b_Grid_run 76 = .ok (.istore 4, 2) := by decide +kernel
theorem d_Grid_run_78 : decode b_Grid_run 78 = .ok (.iconst (3), 1) := by decide +kernel
theorem d_Grid_run_79 : decode b_Grid_run 79 = .ok (.iload_n 3, 1) := by decide +kernel
theorem d_Grid_run_80 : decode b_Grid_run 80 = .ok (.isub, 1) := by decide +kernel
theorem d_Grid_run_81 : decode b_Grid_run 81 = .ok (.iload 4, 2) := by decide +kernel
theorem d_Grid_run_83 : decode b_Grid_run 83 = .ok (.isub, 1) := by decide +kernel
theorem d_Grid_run_84 : decode b_Grid_run 84 = .ok (.istore 5, 2) := by decide +kernel
theorem d_Grid_run_86 : decode b_Grid_run 86 = .ok (.iload_n 2, 1) := by decide +kernel
theorem d_Grid_run_87 : decode b_Grid_run 87 = .ok (.aload_n 0, 1) := by decide +kernel
theorem d_Grid_run_88 : decode b_Grid_run 88 = .ok (.iload_n 3, 1) := by decide +kernel
theorem d_Grid_run_89 : decode b_Grid_run 89 = .ok (.invokevirtual 39, 3) := by decide +kernel
theorem d_Grid_run_92 : decode b_Grid_run 92 = .ok (.iadd, 1) := by decide +kernel
theorem d_Grid_run_93 : decode b_Grid_run 93 = .ok (.istore 6, 2) := by decide +kernel
theorem d_Grid_run_95 : decode b_Grid_run 95 = .ok (.iload 6, 2) := by decide +kernel
theorem d_Grid_run_97 : decode b_Grid_run 97 = .ok (.aload_n 0, 1) := by decide +kernel
theorem d_Grid_run_98 : decode b_Grid_run 98 = .ok (.iload 5, 2) := by decide +kernel
theorem d_Grid_run_100 : decode b_Grid_run 100 = .ok (.invokevirtual 39, 3) := by decide +kernel
theorem d_Grid_run_103 : decode b_Grid_run 103 = .ok (.iadd, 1) := by decide +kernel
theorem d_Grid_run_104 : decode b_Grid_run 104 = .ok (.istore 7, 2) := by decide +kernel
theorem d_Grid_run_106 : decode b_Grid_run 106 = .ok (.iload 7, 2) := by decide +kernel
theorem d_Grid_run_108 : decode b_Grid_run 108 = .ok (.aload_n 0, 1) := by decide +kernel
theorem d_Grid_run_109 : decode b_Grid_run 109 = .ok (.iload 4, 2) := by decide +kernel
theorem d_Grid_run_111 : decode b_Grid_run 111 = .ok (.invokevirtual 39, 3) := by decide +kernel
theorem d_Grid_run_114 : decode b_Grid_run 114 = .ok (.iadd, 1) := by decide +kernel
theorem d_Grid_run_115 : decode b_Grid_run 115 = .ok (.istore 8, 2) := by decide +kernel
theorem d_Grid_run_117 : decode b_Grid_run 117 = .ok (.iconst (0), 1) := by decide +kernel
theorem d_Grid_run_118 : decode b_Grid_run 118 = .ok (.istore 9, 2) := by decide +kernel
theorem d_Grid_run_120 : decode b_Grid_run 120 = .ok (.iload 9, 2) := by decide +kernel
theorem d_Grid_run_122 : decode b_Grid_run 122 = .ok (.iconst (3), 1) := by decide +kernel
theorem d_Grid_run_123 : decode b_Grid_run 123 = .ok (.if_icmp .ge (113), 3) := by decide +kernel
theorem d_Grid_run_126 : decode b_Grid_run 126 = .ok (.aload_n 0, 1) := by decide +kernel
theorem d_Grid_run_127 : decode b_Grid_run 127 = .ok (.iload_n 2, 1) := by decide +kernel
theorem d_Grid_run_128 : decode b_Grid_run 128 = .ok (.iload 9, 2) := by decide +kernel
theorem d_Grid_run_130 : decode b_Grid_run 130 = .ok (.invokevirtual 43, 3) := by decide +kernel
theorem d_Grid_run_133 : decode b_Grid_run 133 = .ok (.lstore 10, 2) := by decide +kernel
theorem d_Grid_run_135 : decode b_Grid_run 135 = .ok (.aload_n 0, 1) := by decide +kernel
theorem d_Grid_run_136 : decode b_Grid_run 136 = .ok (.iload 6, 2) := by decide +kernel
theorem d_Grid_run_138 : decode b_Grid_run 138 = .ok (.iload 9, 2) := by decide +kernel
theorem d_Grid_run_140 : decode b_Grid_run 140 = .ok (.invokevirtual 43, 3) := by decide +kernel
theorem d_Grid_run_143 : decode b_Grid_run 143 = .ok (.lstore 12, 2) := by decide +kernel
theorem d_Grid_run_145 : decode b_Grid_run 145 = .ok (.aload_n 0, 1) := by decide +kernel
theorem d_Grid_run_146 : decode b_Grid_run 146 = .ok (.iload 7, 2) := by decide +kernel
theorem d_Grid_run_148 : decode b_Grid_run 148 = .ok (.iload 9, 2) := by decide +kernel
theorem d_Grid_run_150 : decode b_Grid_run 150 = .ok (.invokevirtual 43, 3) := by decide +kernel
theorem d_Grid_run_153 : decode b_Grid_run 153 = .ok (.lstore 14, 2) := by decide +kernel
theorem d_Grid_run_155 : decode b_Grid_run 155 = .ok (.aload_n 0, 1) := by decide +kernel
theorem d_Grid_run_156 : decode b_Grid_run 156 = .ok (.iload 8, 2) := by decide +kernel
theorem d_Grid_run_158 : decode b_Grid_run 158 = .ok (.iload 9, 2) := by decide +kernel
theorem d_Grid_run_160 : decode b_Grid_run 160 = .ok (.invokevirtual 43, 3) := by decide +kernel
theorem d_Grid_run_163 : decode b_Grid_run 163 = .ok (.lstore 16, 2) := by decide +kernel
theorem d_Grid_run_165 : decode b_Grid_run 165 = .ok (.aload_n 0, 1) := by decide +kernel
theorem d_Grid_run_166 : decode b_Grid_run 166 = .ok (.getfield 9, 3) := by decide +kernel
theorem d_Grid_run_169 : decode b_Grid_run 169 = .ok (.iload_n 3, 1) := by decide +kernel
theorem d_Grid_run_170 : decode b_Grid_run 170 = .ok (.iaload, 1) := by decide +kernel
theorem d_Grid_run_171 : decode b_Grid_run 171 = .ok (.i2l, 1) := by decide +kernel
theorem d_Grid_run_172 : decode b_Grid_run 172 = .ok (.lload 12, 2) := by decide +kernel
theorem d_Grid_run_174 : decode b_Grid_run 174 = .ok (.lload 10, 2) := by decide +kernel
theorem d_Grid_run_176 : decode b_Grid_run 176 = .ok (.lsub, 1) := by decide +kernel
theorem d_Grid_run_177 : decode b_Grid_run 177 = .ok (.lmul, 1) := by decide +kernel
theorem d_Grid_run_178 : decode b_Grid_run 178 = .ok (.aload_n 0, 1) := by decide +kernel
theorem d_Grid_run_179 : decode b_Grid_run 179 = .ok (.getfield 9, 3) := by decide +kernel
theorem d_Grid_run_182 : decode b_Grid_run 182 = .ok (.iload 5, 2) := by decide +kernel
theorem d_Grid_run_184 : decode b_Grid_run 184 = .ok (.iaload, 1) := by decide +kernel
theorem d_Grid_run_185 : decode b_Grid_run 185 = .ok (.i2l, 1) := by decide +kernel
theorem d_Grid_run_186 : decode b_Grid_run 186 = .ok (.lload 14, 2) := by decide +kernel
theorem d_Grid_run_188 : decode b_Grid_run 188 = .ok (.lload 12, 2) := by decide +kernel
theorem d_Grid_run_190 : decode b_Grid_run 190 = .ok (.lsub, 1) := by decide +kernel
theorem d_Grid_run_191 : decode b_Grid_run 191 = .ok (.lmul, 1) := by decide +kernel
theorem d_Grid_run_192 : decode b_Grid_run 192 = .ok (.ladd, 1) := by decide +kernel
theorem d_Grid_run_193 : decode b_Grid_run 193 = .ok (.aload_n 0, 1) := by decide +kernel
theorem d_Grid_run_194 : decode b_Grid_run 194 = .ok (.getfield 9, 3) := by decide +kernel
theorem d_Grid_run_197 : decode b_Grid_run 197 = .ok (.iload 4, 2) := by decide +kernel
theorem d_Grid_run_199 : decode b_Grid_run 199 = .ok (.iaload, 1) := by decide +kernel
theorem d_Grid_run_200 : decode b_Grid_run 200 = .ok (.i2l, 1) := by decide +kernel
theorem d_Grid_run_201 : decode b_Grid_run 201 = .ok (.lload 16, 2) := by decide +kernel
theorem d_Grid_run_203 : decode b_Grid_run 203 = .ok (.lload 14, 2) := by decide +kernel
theorem d_Grid_run_205 : decode b_Grid_run 205 = .ok (.lsub, 1) := by decide +kernel
theorem d_Grid_run_206 : decode b_Grid_run 206 = .ok (.lmul, 1) := by decide +kernel
theorem d_Grid_run_207 : decode b_Grid_run 207 = .ok (.ladd, 1) := by decide +kernel
theorem d_Grid_run_208 : decode b_Grid_run 208 = .ok (.lstore 18, 2) := by decide +kernel
theorem d_Grid_run_210 : decode b_Grid_run 210 = .ok (.aload_n 1, 1) := by decide +kernel
theorem d_Grid_run_211 : decode b_Grid_run 211 = .ok (.iload 9, 2) := by decide +kernel
theorem d_Grid_run_213 : decode b_Grid_run 213 = .ok (.ldc2_w 47, 3) := by decide +kernel
theorem d_Grid_run_216 : decode b_Grid_run 216 = .ok (.lload 10, 2) := by decide +kernel
theorem d_Grid_run_218 : decode b_Grid_run 218 = .ok (.lmul, 1) := by decide +kernel
theorem d_Grid_run_219 : decode b_Grid_run 219 = .ok (.lload 18, 2) := by decide +kernel
theorem d_Grid_run_221 : decode b_Grid_run 221 = .ok (.ladd, 1) := by decide +kernel
theorem d_Grid_run_222 : decode b_Grid_run 222 = .ok (.ldc2_w 47, 3) := by decide +kernel
theorem d_Grid_run_225 : decode b_Grid_run 225 = .ok (.invokestatic 49, 3) := by decide +kernel
theorem d_Grid_run_228 : decode b_Grid_run 228 = .ok (.l2i, 1) := by decide +kernel
theorem d_Grid_run_229 : decode b_Grid_run 229 = .ok (.iastore, 1) := by decide +kernel
theorem d_Grid_run_230 : decode b_Grid_run 230 = .ok (.iinc 9 (1), 3) := by decide +kernel
theorem d_Grid_run_233 : decode b_Grid_run 233 = .ok (.goto (-113), 3) := by decide +kernel
theorem d_Grid_run_236 : decode b_Grid_run 236 = .ok (.return_, 1) := by decide +kernel
theorem d_LabXyz_cubeRoot_0 : decode b_LabXyz_cubeRoot 0 = .ok (.lconst 0, 1) := by decide +kernel
theorem d_LabXyz_cubeRoot_1 : decode b_LabXyz_cubeRoot 1 = .ok (.lstore_n 2, 1) := by decide +kernel
theorem d_LabXyz_cubeRoot_2 : decode b_LabXyz_cubeRoot 2 = .ok (.sipush (16384), 3) := by decide +kernel
theorem d_LabXyz_cubeRoot_5 : decode b_LabXyz_cubeRoot 5 = .ok (.istore 4, 2) := by decide +kernel
theorem d_LabXyz_cubeRoot_7 : decode b_LabXyz_cubeRoot 7 = .ok (.iload 4, 2) := by decide +kernel
theorem d_LabXyz_cubeRoot_9 : decode b_LabXyz_cubeRoot 9 = .ok (.ifCond .le (35), 3) := by decide +kernel
theorem d_LabXyz_cubeRoot_12 : decode b_LabXyz_cubeRoot 12 = .ok (.lload_n 2, 1) := by decide +kernel
theorem d_LabXyz_cubeRoot_13 : decode b_LabXyz_cubeRoot 13 = .ok (.iload 4, 2) := by decide +kernel
theorem d_LabXyz_cubeRoot_15 : decode b_LabXyz_cubeRoot 15 = .ok (.i2l, 1) := by decide +kernel
theorem d_LabXyz_cubeRoot_16 : decode b_LabXyz_cubeRoot 16 = .ok (.ladd, 1) := by decide +kernel
theorem d_LabXyz_cubeRoot_17 : decode b_LabXyz_cubeRoot 17 = .ok (.lstore 5, 2) := by decide +kernel
theorem d_LabXyz_cubeRoot_19 : decode b_LabXyz_cubeRoot 19 = .ok (.lload 5, 2) := by decide +kernel
theorem d_LabXyz_cubeRoot_21 : decode b_LabXyz_cubeRoot 21 = .ok (.lload 5, 2) := by decide +kernel
theorem d_LabXyz_cubeRoot_23 : decode b_LabXyz_cubeRoot 23 = .ok (.lmul, 1) := by decide +kernel
theorem d_LabXyz_cubeRoot_24 : decode b_LabXyz_cubeRoot 24 = .ok (.lload 5, 2) := by decide +kernel
theorem d_LabXyz_cubeRoot_26 : decode b_LabXyz_cubeRoot 26 = .ok (.lmul, 1) := by decide +kernel
theorem d_LabXyz_cubeRoot_27 : decode b_LabXyz_cubeRoot 27 = .ok (.lload_n 0, 1) := by decide +kernel
theorem d_LabXyz_cubeRoot_28 : decode b_LabXyz_cubeRoot 28 = .ok (.lcmp, 1) := by decide +kernel
theorem d_LabXyz_cubeRoot_29 : decode b_LabXyz_cubeRoot 29 = .ok (.ifCond .gt (6), 3) := by decide +kernel
theorem d_LabXyz_cubeRoot_32 : decode b_LabXyz_cubeRoot 32 = .ok (.lload 5, 2) := by decide +kernel
theorem d_LabXyz_cubeRoot_34 : decode b_LabXyz_cubeRoot 34 = .ok (.lstore_n 2, 1) := by decide +kernel
theorem d_LabXyz_cubeRoot_35 : decode b_LabXyz_cubeRoot 35 = .ok (.iload 4, 2) := by decide +kernel
theorem d_LabXyz_cubeRoot_37 : decode b_LabXyz_cubeRoot 37 = .ok (.iconst (2), 1) := by decide +kernel
theorem d_LabXyz_cubeRoot_38 : decode b_LabXyz_cubeRoot 38 = .ok (.idiv, 1) := by decide +kernel
theorem d_LabXyz_cubeRoot_39 : decode b_LabXyz_cubeRoot 39 = .ok (.istore 4, 2) := by decide +kernel
theorem d_LabXyz_cubeRoot_41 : decode b_LabXyz_cubeRoot 41 = .ok (.goto (-34), 3) := by decide +kernel
theorem d_LabXyz_cubeRoot_44 : decode b_LabXyz_cubeRoot 44 = .ok (.lload_n 2, 1) := by decide +kernel
theorem d_LabXyz_cubeRoot_45 : decode b_LabXyz_cubeRoot 45 = .ok (.lreturn, 1) := by decide +kernel
theorem d_LabXyz_rootOf_0 : decode b_LabXyz_rootOf 0 = .ok (.ldc2_w 53, 3) := by decide +kernel
theorem d_LabXyz_rootOf_3 : decode b_LabXyz_rootOf 3 = .ok (.lload_n 0, 1) := by decide +kernel
theorem d_LabXyz_rootOf_4 : decode b_LabXyz_rootOf 4 = .ok (.lmul, 1) := by decide +kernel
theorem d_LabXyz_rootOf_5 : decode b_LabXyz_rootOf 5 = .ok (.lload_n 2, 1) := by decide +kernel
theorem d_LabXyz_rootOf_6 : decode b_LabXyz_rootOf 6 = .ok (.invokestatic 38, 3) := by decide +kernel
theorem d_LabXyz_rootOf_9 : decode b_LabXyz_rootOf 9 = .ok (.lstore 4, 2) := by decide +kernel
theorem d_LabXyz_rootOf_11 : decode b_LabXyz_rootOf 11 = .ok (.lload 4, 2) := by decide +kernel
theorem d_LabXyz_rootOf_13 : decode b_LabXyz_rootOf 13 = .ok (.ldc2_w 55, 3) := by decide +kernel
theorem d_LabXyz_rootOf_16 : decode b_LabXyz_rootOf 16 = .ok (.lcmp, 1) := by decide +kernel
theorem d_LabXyz_rootOf_17 : decode b_LabXyz_rootOf 17 = .ok (.ifCond .le (15), 3) := by decide +kernel
theorem d_LabXyz_rootOf_20 : decode b_LabXyz_rootOf 20 = .ok (.ldc2_w 57, 3) := by decide +kernel
theorem d_LabXyz_rootOf_23 : decode b_LabXyz_rootOf 23 = .ok (.lload 4, 2) := by decide +kernel
theorem d_LabXyz_rootOf_25 : decode b_LabXyz_rootOf 25 = .ok (.lmul, 1) := by decide +kernel
theorem d_LabXyz_rootOf_26 : decode b_LabXyz_rootOf 26 = .ok (.invokestatic 59, 3) := by decide +kernel
theorem d_LabXyz_rootOf_29 : decode b_LabXyz_rootOf 29 = .ok (.goto (19), 3) := by decide +kernel
theorem d_LabXyz_rootOf_32 : decode b_LabXyz_rootOf 32 = .ok (.ldc2_w 63, 3) := by decide +kernel
theorem d_LabXyz_rootOf_35 : decode b_LabXyz_rootOf 35 = .ok (.lload 4, 2) := by decide +kernel
theorem d_LabXyz_rootOf_37 : decode b_LabXyz_rootOf 37 = .ok (.lmul, 1) := by decide +kernel
theorem d_LabXyz_rootOf_38 : decode b_LabXyz_rootOf 38 = .ok (.ldc2_w 65, 3) := by decide +kernel
theorem d_LabXyz_rootOf_41 : decode b_LabXyz_rootOf 41 = .ok (.invokestatic 38, 3) := by decide +kernel
theorem d_LabXyz_rootOf_44 : decode b_LabXyz_rootOf 44 = .ok (.ldc2_w 67, 3) := by decide +kernel
theorem d_LabXyz_rootOf_47 : decode b_LabXyz_rootOf 47 = .ok (.ladd, 1) := by decide +kernel
theorem d_LabXyz_rootOf_48 : decode b_LabXyz_rootOf 48 = .ok (.lreturn, 1) := by decide +kernel
