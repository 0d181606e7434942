theorem d_Math_floorDiv_0 : decode b_Math_floorDiv 0 = .ok (.lload_n 0, 1) := by decide +kernel
theorem d_Math_floorDiv_1 : decode b_Math_floorDiv 1 = .ok (.lload_n 2, 1) := by decide +kernel
theorem d_Math_floorDiv_2 : decode b_Math_floorDiv 2 = .ok (.ldiv, 1) := by decide +kernel
theorem d_Math_floorDiv_3 : decode b_Math_floorDiv 3 = .ok (.lstore 4, 2) := by decide +kernel
theorem d_Math_floorDiv_5 : decode b_Math_floorDiv 5 = .ok (.lload_n 0, 1) := by decide +kernel
theorem d_Math_floorDiv_6 : decode b_Math_floorDiv 6 = .ok (.lload_n 2, 1) := by decide +kernel
theorem d_Math_floorDiv_7 : decode b_Math_floorDiv 7 = .ok (.lxor, 1) := by decide +kernel
theorem d_Math_floorDiv_8 : decode b_Math_floorDiv 8 = .ok (.lconst 0, 1) := by decide +kernel
theorem d_Math_floorDiv_9 : decode b_Math_floorDiv 9 = .ok (.lcmp, 1) := by decide +kernel
theorem d_Math_floorDiv_10 : decode b_Math_floorDiv 10 = .ok (.ifCond .ge (17), 3) := by decide +kernel
theorem d_Math_floorDiv_13 : decode b_Math_floorDiv 13 = .ok (.lload 4, 2) := by decide +kernel
theorem d_Math_floorDiv_15 : decode b_Math_floorDiv 15 = .ok (.lload_n 2, 1) := by decide +kernel
theorem d_Math_floorDiv_16 : decode b_Math_floorDiv 16 = .ok (.lmul, 1) := by decide +kernel
theorem d_Math_floorDiv_17 : decode b_Math_floorDiv 17 = .ok (.lload_n 0, 1) := by decide +kernel
theorem d_Math_floorDiv_18 : decode b_Math_floorDiv 18 = .ok (.lcmp, 1) := by decide +kernel
theorem d_Math_floorDiv_19 : decode b_Math_floorDiv 19 = .ok (.ifCond .eq (8), 3) := by decide +kernel
theorem d_Math_floorDiv_22 : decode b_Math_floorDiv 22 = .ok (.lload 4, 2) := by decide +kernel
theorem d_Math_floorDiv_24 : decode b_Math_floorDiv 24 = .ok (.lconst 1, 1) := by decide +kernel
theorem d_Math_floorDiv_25 : decode b_Math_floorDiv 25 = .ok (.lsub, 1) := by decide +kernel
theorem d_Math_floorDiv_26 : decode b_Math_floorDiv 26 = .ok (.lreturn, 1) := by decide +kernel
theorem d_Math_floorDiv_27 : decode b_Math_floorDiv 27 = .ok (.lload 4, 2) := by decide +kernel
theorem d_Math_floorDiv_29 : decode b_Math_floorDiv 29 = .ok (.lreturn, 1) := by decide +kernel
theorem d_CL_nearest_0 : decode b_CL_nearest 0 = .ok (.lload_n 2, 1) := by decide +kernel
theorem d_CL_nearest_1 : decode b_CL_nearest 1 = .ok (.lconst 0, 1) := by decide +kernel
theorem d_CL_nearest_2 : decode b_CL_nearest 2 = .ok (.lcmp, 1) := by decide +kernel
theorem d_CL_nearest_3 : decode b_CL_nearest 3 = .ok (.ifCond .ne (5), 3) := by decide +kernel
theorem d_CL_nearest_6 : decode b_CL_nearest 6 = .ok (.lconst 0, 1) := by decide +kernel
theorem d_CL_nearest_7 : decode b_CL_nearest 7 = .ok (.lreturn, 1) := by decide +kernel
theorem d_CL_nearest_8 : decode b_CL_nearest 8 = .ok (.lload_n 2, 1) := by decide +kernel
theorem d_CL_nearest_9 : decode b_CL_nearest 9 = .ok (.lconst 0, 1) := by decide +kernel
theorem d_CL_nearest_10 : decode b_CL_nearest 10 = .ok (.lcmp, 1) := by decide +kernel
theorem d_CL_nearest_11 : decode b_CL_nearest 11 = .ok (.ifCond .ge (8), 3) := by decide +kernel
theorem d_CL_nearest_14 : decode b_CL_nearest 14 = .ok (.lload_n 0, 1) := by decide +kernel
theorem d_CL_nearest_15 : decode b_CL_nearest 15 = .ok (.lneg, 1) := by decide +kernel
theorem d_CL_nearest_16 : decode b_CL_nearest 16 = .ok (.goto (4), 3) := by decide +kernel
theorem d_CL_nearest_19 : decode b_CL_nearest 19 = .ok (.lload_n 0, 1) := by decide +kernel
theorem d_CL_nearest_20 : decode b_CL_nearest 20 = .ok (.lstore 4, 2) := by decide +kernel
theorem d_CL_nearest_22 : decode b_CL_nearest 22 = .ok (.lload_n 2, 1) := by decide +kernel
theorem d_CL_nearest_23 : decode b_CL_nearest 23 = .ok (.lconst 0, 1) := by decide +kernel
theorem d_CL_nearest_24 : decode b_CL_nearest 24 = .ok (.lcmp, 1) := by decide +kernel
theorem d_CL_nearest_25 : decode b_CL_nearest 25 = .ok (.ifCond .ge (8), 3) := by decide +kernel
theorem d_CL_nearest_28 : decode b_CL_nearest 28 = .ok (.lload_n 2, 1) := by decide +kernel
theorem d_CL_nearest_29 : decode b_CL_nearest 29 = .ok (.lneg, 1) := by decide +kernel
theorem d_CL_nearest_30 : decode b_CL_nearest 30 = .ok (.goto (4), 3) := by decide +kernel
theorem d_CL_nearest_33 : decode b_CL_nearest 33 = .ok (.lload_n 2, 1) := by decide +kernel
theorem d_CL_nearest_34 : decode b_CL_nearest 34 = .ok (.lstore 6, 2) := by decide +kernel
theorem d_CL_nearest_36 : decode b_CL_nearest 36 = .ok (.ldc2_w 265, 3) := by decide +kernel
theorem d_CL_nearest_39 : decode b_CL_nearest 39 = .ok (.lload 4, 2) := by decide +kernel
theorem d_CL_nearest_41 : decode b_CL_nearest 41 = .ok (.lmul, 1) := by decide +kernel
theorem d_CL_nearest_42 : decode b_CL_nearest 42 = .ok (.lload 6, 2) := by decide +kernel
theorem d_CL_nearest_44 : decode b_CL_nearest 44 = .ok (.ladd, 1) := by decide +kernel
theorem d_CL_nearest_45 : decode b_CL_nearest 45 = .ok (.ldc2_w 265, 3) := by decide +kernel
theorem d_CL_nearest_48 : decode b_CL_nearest 48 = .ok (.lload 6, 2) := by decide +kernel
theorem d_CL_nearest_50 : decode b_CL_nearest 50 = .ok (.lmul, 1) := by decide +kernel
theorem d_CL_nearest_51 : decode b_CL_nearest 51 = .ok (.invokestatic 267, 3) := by decide +kernel
theorem d_CL_nearest_54 : decode b_CL_nearest 54 = .ok (.lreturn, 1) := by decide +kernel
theorem d_Adjust_scaled_0 : decode b_Adjust_scaled 0 = .ok (.lload_n 1, 1) := by decide +kernel
theorem d_Adjust_scaled_1 : decode b_Adjust_scaled 1 = .ok (.aload_n 0, 1) := by decide +kernel
theorem d_Adjust_scaled_2 : decode b_Adjust_scaled 2 = .ok (.getfield 9, 3) := by decide +kernel
theorem d_Adjust_scaled_5 : decode b_Adjust_scaled 5 = .ok (.getfield 36, 3) := by decide +kernel
theorem d_Adjust_scaled_8 : decode b_Adjust_scaled 8 = .ok (.iload_n 3, 1) := by decide +kernel
theorem d_Adjust_scaled_9 : decode b_Adjust_scaled 9 = .ok (.iaload, 1) := by decide +kernel
theorem d_Adjust_scaled_10 : decode b_Adjust_scaled 10 = .ok (.i2l, 1) := by decide +kernel
theorem d_Adjust_scaled_11 : decode b_Adjust_scaled 11 = .ok (.lmul, 1) := by decide +kernel
theorem d_Adjust_scaled_12 : decode b_Adjust_scaled 12 = .ok (.aload_n 0, 1) := by decide +kernel
theorem d_Adjust_scaled_13 : decode b_Adjust_scaled 13 = .ok (.getfield 15, 3) := by decide +kernel
theorem d_Adjust_scaled_16 : decode b_Adjust_scaled 16 = .ok (.getfield 36, 3) := by decide +kernel
theorem d_Adjust_scaled_19 : decode b_Adjust_scaled 19 = .ok (.iload_n 3, 1) := by decide +kernel
theorem d_Adjust_scaled_20 : decode b_Adjust_scaled 20 = .ok (.iaload, 1) := by decide +kernel
theorem d_Adjust_scaled_21 : decode b_Adjust_scaled 21 = .ok (.i2l, 1) := by decide +kernel
theorem d_Adjust_scaled_22 : decode b_Adjust_scaled 22 = .ok (.invokestatic 42, 3) := by decide +kernel
theorem d_Adjust_scaled_25 : decode b_Adjust_scaled 25 = .ok (.lreturn, 1) := by decide +kernel
theorem d_Profile_blackLevel_0 : decode b_Profile_blackLevel 0 = .ok (.iload_n 1, 1) := by decide +kernel
theorem d_Profile_blackLevel_1 : decode b_Profile_blackLevel 1 = .ok (.ifCond .lt (17), 3) := by decide +kernel
theorem d_Profile_blackLevel_4 : decode b_Profile_blackLevel 4 = .ok (.iload_n 1, 1) := by decide +kernel
theorem d_Profile_blackLevel_5 : decode b_Profile_blackLevel 5 = .ok (.iconst (3), 1) := by decide +kernel
theorem d_Profile_blackLevel_6 : decode b_Profile_blackLevel 6 = .ok (.if_icmp .ge (12), 3) := by decide +kernel
theorem d_Profile_blackLevel_9 : decode b_Profile_blackLevel 9 = .ok (.aload_n 0, 1) := by decide +kernel
theorem d_Profile_blackLevel_10 : decode b_Profile_blackLevel 10 = .ok (.getfield 30, 3) := by decide +kernel
theorem d_Profile_blackLevel_13 : decode b_Profile_blackLevel 13 = .ok (.iload_n 1, 1) := by decide +kernel
theorem d_Profile_blackLevel_14 : decode b_Profile_blackLevel 14 = .ok (.iaload, 1) := by decide +kernel
theorem d_Profile_blackLevel_15 : decode b_Profile_blackLevel 15 = .ok (.goto (4), 3) := by decide +kernel
theorem d_Profile_blackLevel_18 : decode b_Profile_blackLevel 18 = .ok (.iconst (0), 1) := by decide +kernel
theorem d_Profile_blackLevel_19 : decode b_Profile_blackLevel 19 = .ok (.ireturn, 1) := by decide +kernel
theorem d_Adjust_darkened_0 : decode b_Adjust_darkened 0 = .ok (.getstatic 46, 3) := by decide +kernel
theorem d_Adjust_darkened_3 : decode b_Adjust_darkened 3 = .ok (.iload_n 3, 1) := by decide +kernel
theorem d_Adjust_darkened_4 : decode b_Adjust_darkened 4 = .ok (.iaload, 1) := by decide +kernel
theorem d_Adjust_darkened_5 : decode b_Adjust_darkened 5 = .ok (.i2l, 1) := by decide +kernel
theorem d_Adjust_darkened_6 : decode b_Adjust_darkened 6 = .ok (.getstatic 46, 3) := by decide +kernel
theorem d_Adjust_darkened_9 : decode b_Adjust_darkened 9 = .ok (.iload_n 3, 1) := by decide +kernel
theorem d_Adjust_darkened_10 : decode b_Adjust_darkened 10 = .ok (.iaload, 1) := by decide +kernel
theorem d_Adjust_darkened_11 : decode b_Adjust_darkened 11 = .ok (.i2l, 1) := by decide +kernel
theorem d_Adjust_darkened_12 : decode b_Adjust_darkened 12 = .ok (.lload_n 1, 1) := by decide +kernel
theorem d_Adjust_darkened_13 : decode b_Adjust_darkened 13 = .ok (.lsub, 1) := by decide +kernel
theorem d_Adjust_darkened_14 : decode b_Adjust_darkened 14 = .ok (.ldc 49, 2) := by decide +kernel
theorem d_Adjust_darkened_16 : decode b_Adjust_darkened 16 = .ok (.aload_n 0, 1) := by decide +kernel
theorem d_Adjust_darkened_17 : decode b_Adjust_darkened 17 = .ok (.getfield 15, 3) := by decide +kernel
theorem d_Adjust_darkened_20 : decode b_Adjust_darkened 20 = .ok (.aload_n 0, 1) := by decide +kernel
theorem d_Adjust_darkened_21 : decode b_Adjust_darkened 21 = .ok (.getfield 18, 3) := by decide +kernel
theorem d_Adjust_darkened_24 : decode b_Adjust_darkened 24 = .ok (.invokevirtual 50, 3) := by decide +kernel
theorem d_Adjust_darkened_27 : decode b_Adjust_darkened 27 = .ok (.isub, 1) := by decide +kernel
theorem d_Adjust_darkened_28 : decode b_Adjust_darkened 28 = .ok (.i2l, 1) := by decide +kernel
theorem d_Adjust_darkened_29 : decode b_Adjust_darkened 29 = .ok (.lmul, 1) := by decide +kernel
theorem d_Adjust_darkened_30 : decode b_Adjust_darkened 30 = .ok (.ldc 49, 2) := by decide +kernel
theorem d_Adjust_darkened_32 : decode b_Adjust_darkened 32 = .ok (.aload_n 0, 1) := by decide +kernel
theorem d_Adjust_darkened_33 : decode b_Adjust_darkened 33 = .ok (.getfield 9, 3) := by decide +kernel
theorem d_Adjust_darkened_36 : decode b_Adjust_darkened 36 = .ok (.aload_n 0, 1) := by decide +kernel
theorem d_Adjust_darkened_37 : decode b_Adjust_darkened 37 = .ok (.getfield 18, 3) := by decide +kernel
theorem d_Adjust_darkened_40 : decode b_Adjust_darkened 40 = .ok (.invokevirtual 50, 3) := by decide +kernel
theorem d_Adjust_darkened_43 : decode b_Adjust_darkened 43 = .ok (.isub, 1) := by decide +kernel
theorem d_Adjust_darkened_44 : decode b_Adjust_darkened 44 = .ok (.i2l, 1) := by decide +kernel
theorem d_Adjust_darkened_45 : decode b_Adjust_darkened 45 = .ok (.invokestatic 42, 3) := by decide +kernel
theorem d_Adjust_darkened_48 : decode b_Adjust_darkened 48 = .ok (.lsub, 1) := by decide +kernel
theorem d_Adjust_darkened_49 : decode b_Adjust_darkened 49 = .ok (.lreturn, 1) := by decide +kernel
theorem d_CL_clip_0 : decode b_CL_clip 0 = .ok (.lconst 0, 1) := by decide +kernel
theorem d_CL_clip_1 : decode b_CL_clip 1 = .ok (.ldc2_w 254, 3) := by decide +kernel
theorem d_CL_clip_4 : decode b_CL_clip 4 = .ok (.lload_n 0, 1) := by decide +kernel
theorem d_CL_clip_5 : decode b_CL_clip 5 = .ok (.invokestatic 256, 3) := by decide +kernel
theorem d_CL_clip_8 : decode b_CL_clip 8 = .ok (.invokestatic 262, 3) := by decide +kernel
theorem d_CL_clip_11 : decode b_CL_clip 11 = .ok (.l2i, 1) := by decide +kernel
theorem d_CL_clip_12 : decode b_CL_clip 12 = .ok (.ireturn, 1) := by decide +kernel
theorem d_Adjust_run_0 : decode b_Adjust_run 0 = .ok (.iconst (0), 1) := by decide +kernel
theorem d_Adjust_run_1 : decode b_Adjust_run 1 = .ok (.istore_n 2, 1) := by decide +kernel
theorem d_Adjust_run_2 : decode b_Adjust_run 2 = .ok (.iload_n 2, 1) := by decide +kernel
theorem d_Adjust_run_3 : decode b_Adjust_run 3 = .ok (.iconst (3), 1) := by decide +kernel
theorem d_Adjust_run_4 : decode b_Adjust_run 4 = .ok (.if_icmp .ge (45), 3) := by decide +kernel
theorem d_Adjust_run_7 : decode b_Adjust_run 7 = .ok (.aload_n 1, 1) := by decide +kernel
theorem d_Adjust_run_8 : decode b_Adjust_run 8 = .ok (.iload_n 2, 1) := by decide +kernel
theorem d_Adjust_run_9 : decode b_Adjust_run 9 = .ok (.aload_n 0, 1) := by decide +kernel
theorem d_Adjust_run_10 : decode b_Adjust_run 10 = .ok (.getfield 22, 3) := by decide +kernel
theorem d_Adjust_run_13 : decode b_Adjust_run 13 = .ok (.bipush (7), 2) := by decide +kernel
theorem d_Adjust_run_15 : decode b_Adjust_run 15 = .ok (.if_icmp .ne (15), 3) := by decide +kernel
theorem d_Adjust_run_18 : decode b_Adjust_run 18 = .ok (.aload_n 0, 1) := by decide +kernel
theorem d_Adjust_run_19 : decode b_Adjust_run 19 = .ok (.aload_n 1, 1) := by decide +kernel
theorem d_Adjust_run_20 : decode b_Adjust_run 20 = .ok (.iload_n 2, 1) := by decide +kernel
theorem d_Adjust_run_21 : decode b_Adjust_run 21 = .ok (.iaload, 1) := by decide +kernel
theorem d_Adjust_run_22 : decode b_Adjust_run 22 = .ok (.i2l, 1) := by decide +kernel
theorem d_Adjust_run_23 : decode b_Adjust_run 23 = .ok (.iload_n 2, 1) := by decide +kernel
theorem d_Adjust_run_24 : decode b_Adjust_run 24 = .ok (.invokevirtual 25, 3) := by decide +kernel
theorem d_Adjust_run_27 : decode b_Adjust_run 27 = .ok (.goto (12), 3) := by decide +kernel
theorem d_Adjust_run_30 : decode b_Adjust_run 30 = .ok (.aload_n 0, 1) := by decide +kernel
theorem d_Adjust_run_31 : decode b_Adjust_run 31 = .ok (.aload_n 1, 1) := by decide +kernel
theorem d_Adjust_run_32 : decode b_Adjust_run 32 = .ok (.iload_n 2, 1) := by decide +kernel
theorem d_Adjust_run_33 : decode b_Adjust_run 33 = .ok (.iaload, 1) := by decide +kernel
theorem d_Adjust_run_34 : decode b_Adjust_run 34 = .ok (.i2l, 1) := by decide +kernel
theorem d_Adjust_run_35 : decode b_Adjust_run 35 = .ok (.iload_n 2, 1) := by decide +kernel
theorem d_Adjust_run_36 : decode b_Adjust_run 36 = .ok (.invokevirtual 29, 3) := by decide +kernel
theorem d_Adjust_run_39 : decode b_Adjust_run 39 = .ok (.invokestatic 32, 3) := by decide +kernel
theorem d_Adjust_run_42 : decode b_Adjust_run 42 = .ok (.iastore, 1) := by decide +kernel
theorem d_Adjust_run_43 : decode b_Adjust_run 43 = .ok (.iinc 2 (1), 3) := by decide +kernel
theorem d_Adjust_run_46 : decode b_Adjust_run 46 = .ok (.goto (-44), 3) := by decide +kernel
theorem d_Adjust_run_49 : decode b_Adjust_run 49 = .ok (.return_, 1) := by decide +kernel
theorem d_Curve_lineAt_0 : decode b_Curve_lineAt 0 = .ok (.aload_n 0, 1) := by decide +kernel
theorem d_Curve_lineAt_1 : decode b_Curve_lineAt 1 = .ok (.getfield 15, 3) := by decide +kernel
theorem d_Curve_lineAt_4 : decode b_Curve_lineAt 4 = .ok (.iconst (0), 1) := by decide +kernel
theorem d_Curve_lineAt_5 : decode b_Curve_lineAt 5 = .ok (.iaload, 1) := by decide +kernel
theorem d_Curve_lineAt_6 : decode b_Curve_lineAt 6 = .ok (.i2l, 1) := by decide +kernel
theorem d_Curve_lineAt_7 : decode b_Curve_lineAt 7 = .ok (.iload_n 1, 1) := by decide +kernel
theorem d_Curve_lineAt_8 : decode b_Curve_lineAt 8 = .ok (.i2l, 1) := by decide +kernel
theorem d_Curve_lineAt_9 : decode b_Curve_lineAt 9 = .ok (.lmul, 1) := by decide +kernel
theorem d_Curve_lineAt_10 : decode b_Curve_lineAt 10 = .ok (.ldc2_w 33, 3) := by decide +kernel
theorem d_Curve_lineAt_13 : decode b_Curve_lineAt 13 = .ok (.invokestatic 35, 3) := by decide +kernel
theorem d_Curve_lineAt_16 : decode b_Curve_lineAt 16 = .ok (.invokestatic 39, 3) := by decide +kernel
theorem d_Curve_lineAt_19 : decode b_Curve_lineAt 19 = .ok (.ireturn, 1) := by decide +kernel
theorem d_Curve_powerAt_0 : decode b_Curve_powerAt 0 = .ok (.iload_n 1, 1) := by decide +kernel
theorem d_Curve_powerAt_1 : decode b_Curve_powerAt 1 = .ok (.i2l, 1) := by decide +kernel
theorem d_Curve_powerAt_2 : decode b_Curve_powerAt 2 = .ok (.lstore_n 2, 1) := by decide +kernel
theorem d_Curve_powerAt_3 : decode b_Curve_powerAt 3 = .ok (.iconst (1), 1) := by decide +kernel
theorem d_Curve_powerAt_4 : decode b_Curve_powerAt 4 = .ok (.istore 4, 2) := by decide +kernel
theorem d_Curve_powerAt_6 : decode b_Curve_powerAt 6 = .ok (.iload 4, 2) := by decide +kernel
theorem d_Curve_powerAt_8 : decode b_Curve_powerAt 8 = .ok (.aload_n 0, 1) := by decide +kernel
theorem d_Curve_powerAt_9 : decode b_Curve_powerAt 9 = .ok (.getfield 9, 3) := by decide +kernel
theorem d_Curve_powerAt_12 : decode b_Curve_powerAt 12 = .ok (.if_icmp .ge (20), 3) := by decide +kernel
theorem d_Curve_powerAt_15 : decode b_Curve_powerAt 15 = .ok (.lload_n 2, 1) := by decide +kernel
theorem d_Curve_powerAt_16 : decode b_Curve_powerAt 16 = .ok (.iload_n 1, 1) := by decide +kernel
theorem d_Curve_powerAt_17 : decode b_Curve_powerAt 17 = .ok (.i2l, 1) := by decide +kernel
theorem d_Curve_powerAt_18 : decode b_Curve_powerAt 18 = .ok (.lmul, 1) := by decide +kernel
theorem d_Curve_powerAt_19 : decode b_Curve_powerAt 19 = .ok (.ldc2_w 43, 3) := by decide +kernel
theorem d_Curve_powerAt_22 : decode b_Curve_powerAt 22 = .ok (.invokestatic 35, 3) := by decide +kernel
theorem d_Curve_powerAt_25 : decode b_Curve_powerAt 25 = .ok (.lstore_n 2, 1) := by decide +kernel
theorem d_Curve_powerAt_26 : decode b_Curve_powerAt 26 = .ok (.iinc 4 (1), 3) := by decide +kernel
theorem d_Curve_powerAt_29 : decode b_Curve_powerAt 29 = .ok (.goto (-23), 3) := by decide +kernel
theorem d_Curve_powerAt_32 : decode b_Curve_powerAt 32 = .ok (.lload_n 2, 1) := by decide +kernel
theorem d_Curve_powerAt_33 : decode b_Curve_powerAt 33 = .ok (.l2i, 1) := by decide +kernel
theorem d_Curve_powerAt_34 : decode b_Curve_powerAt 34 = .ok (.ireturn, 1) := by decide +kernel
theorem d_Curve_sampleAt_0 : decode b_Curve_sampleAt 0 = .ok (.iload_n 1, 1) := by decide +kernel
theorem d_Curve_sampleAt_1 : decode b_Curve_sampleAt 1 = .ok (.aload_n 0, 1) := by decide +kernel
theorem d_Curve_sampleAt_2 : decode b_Curve_sampleAt 2 = .ok (.getfield 15, 3) := by decide +kernel
theorem d_Curve_sampleAt_5 : decode b_Curve_sampleAt 5 = .ok (.arraylength, 1) := by decide +kernel
theorem d_Curve_sampleAt_6 : decode b_Curve_sampleAt 6 = .ok (.iconst (1), 1) := by decide +kernel
theorem d_Curve_sampleAt_7 : decode b_Curve_sampleAt 7 = .ok (.isub, 1) := by decide +kernel
theorem d_Curve_sampleAt_8 : decode b_Curve_sampleAt 8 = .ok (.imul, 1) := by decide +kernel
theorem d_Curve_sampleAt_9 : decode b_Curve_sampleAt 9 = .ok (.istore_n 2, 1) := by decide +kernel
theorem d_Curve_sampleAt_10 : decode b_Curve_sampleAt 10 = .ok (.aload_n 0, 1) := by decide +kernel
theorem d_Curve_sampleAt_11 : decode b_Curve_sampleAt 11 = .ok (.getfield 15, 3) := by decide +kernel
theorem d_Curve_sampleAt_14 : decode b_Curve_sampleAt 14 = .ok (.arraylength, 1) := by decide +kernel
theorem d_Curve_sampleAt_15 : decode b_Curve_sampleAt 15 = .ok (.iconst (2), 1) := by decide +kernel
theorem d_Curve_sampleAt_16 : decode b_Curve_sampleAt 16 = .ok (.isub, 1) := by decide +kernel
theorem d_Curve_sampleAt_17 : decode b_Curve_sampleAt 17 = .ok (.iload_n 2, 1) := by decide +kernel
theorem d_Curve_sampleAt_18 : decode b_Curve_sampleAt 18 = .ok (.ldc 45, 2) := by decide +kernel
theorem d_Curve_sampleAt_20 : decode b_Curve_sampleAt 20 = .ok (.idiv, 1) := by decide +kernel
theorem d_Curve_sampleAt_21 : decode b_Curve_sampleAt 21 = .ok (.invokestatic 46, 3) := by decide +kernel
theorem d_Curve_sampleAt_24 : decode b_Curve_sampleAt 24 = .ok (.istore_n 3, 1) := by decide +kernel
theorem d_Curve_sampleAt_25 : decode b_Curve_sampleAt 25 = .ok (.iload_n 2, 1) := by decide +kernel
theorem d_Curve_sampleAt_26 : decode b_Curve_sampleAt 26 = .ok (.ldc 45, 2) := by decide +kernel
theorem d_Curve_sampleAt_28 : decode b_Curve_sampleAt 28 = .ok (.iload_n 3, 1) := by decide +kernel
theorem d_Curve_sampleAt_29 : decode b_Curve_sampleAt 29 = .ok (.imul, 1) := by decide +kernel
theorem d_Curve_sampleAt_30 : decode b_Curve_sampleAt 30 = .ok (.isub, 1) := by decide +kernel
theorem d_Curve_sampleAt_31 : decode b_Curve_sampleAt 31 = .ok (.i2l, 1) := by decide +kernel
theorem d_Curve_sampleAt_32 : decode b_Curve_sampleAt 32 = .ok (.lstore 4, 2) := by decide +kernel
theorem d_Curve_sampleAt_34 : decode b_Curve_sampleAt 34 = .ok (.aload_n 0, 1) := by decide +kernel
theorem d_Curve_sampleAt_35 : decode b_Curve_sampleAt 35 = .ok (.getfield 15, 3) := by decide +kernel
theorem d_Curve_sampleAt_38 : decode b_Curve_sampleAt 38 = .ok (.iload_n 3, 1) := by decide +kernel
theorem d_Curve_sampleAt_39 : decode b_Curve_sampleAt 39 = .ok (.iaload, 1) := by decide +kernel
theorem d_Curve_sampleAt_40 : decode b_Curve_sampleAt 40 = .ok (.aload_n 0, 1) := by decide +kernel
theorem d_Curve_sampleAt_41 : decode b_Curve_sampleAt 41 = .ok (.getfield 15, 3) := by decide +kernel
theorem d_Curve_sampleAt_44 : decode b_Curve_sampleAt 44 = .ok (.iload_n 3, 1) := by decide +kernel
theorem d_Curve_sampleAt_45 : decode b_Curve_sampleAt 45 = .ok (.iconst (1), 1) := by decide +kernel
theorem d_Curve_sampleAt_46 : decode b_Curve_sampleAt 46 = .ok (.iadd, 1) := by decide +kernel
theorem d_Curve_sampleAt_47 : decode b_Curve_sampleAt 47 = .ok (.iaload, 1) := by decide +kernel
theorem d_Curve_sampleAt_48 : decode b_Curve_sampleAt 48 = .ok (.aload_n 0, 1) := by decide +kernel
theorem d_Curve_sampleAt_49 : decode b_Curve_sampleAt 49 = .ok (.getfield 15, 3) := by decide +kernel
theorem d_Curve_sampleAt_52 : decode b_Curve_sampleAt 52 = .ok (.iload_n 3, 1) := by decide +kernel
theorem d_Curve_sampleAt_53 : decode b_Curve_sampleAt 53 = .ok (.iaload, 1) := by decide +kernel
theorem d_Curve_sampleAt_54 : decode b_Curve_sampleAt 54 = .ok (.isub, 1) := by decide +kernel
theorem d_Curve_sampleAt_55 : decode b_Curve_sampleAt 55 = .ok (.i2l, 1) := by decide +kernel
theorem d_Curve_sampleAt_56 : decode b_Curve_sampleAt 56 = .ok (.lload 4, 2) := by decide +kernel
theorem d_Curve_sampleAt_58 : decode b_Curve_sampleAt 58 = .ok (.lmul, 1) := by decide +kernel
theorem d_Curve_sampleAt_59 : decode b_Curve_sampleAt 59 = .ok (.ldc2_w 43, 3) := by decide +kernel
theorem d_Curve_sampleAt_62 : decode b_Curve_sampleAt 62 = .ok (.invokestatic 35, 3) := by decide +kernel
theorem d_Curve_sampleAt_65 : decode b_Curve_sampleAt 65 = .ok (.l2i, 1) := by decide +kernel
theorem d_Curve_sampleAt_66 : decode b_Curve_sampleAt 66 = .ok (.iadd, 1) := by decide +kernel
theorem d_Curve_sampleAt_67 : decode b_Curve_sampleAt 67 = .ok (.ireturn, 1) := by decide +kernel
theorem d_Curve_valueAt_0 : decode b_Curve_valueAt 0 = .ok (.aload_n 0, 1) := by decide +kernel
theorem d_Curve_valueAt_1 : decode b_Curve_valueAt 1 = .ok (.getfield 9, 3) := by decide +kernel
theorem d_Curve_valueAt_4 : decode b_Curve_valueAt 4 = .ok (.ifCond .le (27), 3) := by decide +kernel
theorem d_Curve_valueAt_7 : decode b_Curve_valueAt 7 = .ok (.iload_n 1, 1) := by decide +kernel
theorem d_Curve_valueAt_8 : decode b_Curve_valueAt 8 = .ok (.aload_n 0, 1) := by decide +kernel
theorem d_Curve_valueAt_9 : decode b_Curve_valueAt 9 = .ok (.getfield 15, 3) := by decide +kernel
theorem d_Curve_valueAt_12 : decode b_Curve_valueAt 12 = .ok (.iconst (1), 1) := by decide +kernel
theorem d_Curve_valueAt_13 : decode b_Curve_valueAt 13 = .ok (.iaload, 1) := by decide +kernel
theorem d_Curve_valueAt_14 : decode b_Curve_valueAt 14 = .ok (.if_icmp .ge (11), 3) := by decide +kernel
theorem d_Curve_valueAt_17 : decode b_Curve_valueAt 17 = .ok (.aload_n 0, 1) := by decide +kernel
theorem d_Curve_valueAt_18 : decode b_Curve_valueAt 18 = .ok (.iload_n 1, 1) := by decide +kernel
theorem d_Curve_valueAt_19 : decode b_Curve_valueAt 19 = .ok (.invokevirtual 23, 3) := by decide +kernel
theorem d_Curve_valueAt_22 : decode b_Curve_valueAt 22 = .ok (.goto (8), 3) := by decide +kernel
theorem d_Curve_valueAt_25 : decode b_Curve_valueAt 25 = .ok (.aload_n 0, 1) := by decide +kernel
theorem d_Curve_valueAt_26 : decode b_Curve_valueAt 26 = .ok (.iload_n 1, 1) := by decide +kernel
theorem d_Curve_valueAt_27 : decode b_Curve_valueAt 27 = .ok (.invokevirtual 27, 3) := by decide +kernel
theorem d_Curve_valueAt_30 : decode b_Curve_valueAt 30 = .ok (.ireturn, 1) := by decide +kernel
theorem d_Curve_valueAt_31 : decode b_Curve_valueAt 31 = .ok (.aload_n 0, 1) := by decide +kernel
theorem d_Curve_valueAt_32 : decode b_Curve_valueAt 32 = .ok (.getfield 15, 3) := by decide +kernel
theorem d_Curve_valueAt_35 : decode b_Curve_valueAt 35 = .ok (.arraylength, 1) := by decide +kernel
theorem d_Curve_valueAt_36 : decode b_Curve_valueAt 36 = .ok (.iconst (2), 1) := by decide +kernel
theorem d_Curve_valueAt_37 : decode b_Curve_valueAt 37 = .ok (.if_icmp .ge (7), 3) := by decide +kernel
theorem d_Curve_valueAt_40 : decode b_Curve_valueAt 40 = .ok (.iload_n 1, 1) := by decide +kernel
theorem d_Curve_valueAt_41 : decode b_Curve_valueAt 41 = .ok (.goto (8), 3) := by decide +kernel
theorem d_Curve_valueAt_44 : decode b_Curve_valueAt 44 = .ok (.aload_n 0, 1) := by decide +kernel
theorem d_Curve_valueAt_45 : decode b_Curve_valueAt 45 = .ok (.iload_n 1, 1) := by decide +kernel
theorem d_Curve_valueAt_46 : decode b_Curve_valueAt 46 = .ok (.invokevirtual 30, 3) := by decide +kernel
theorem d_Curve_valueAt_49 : decode b_Curve_valueAt 49 = .ok (.ireturn, 1) := by decide +kernel
theorem d_Curve_inverseAt_0 : decode b_Curve_inverseAt 0 = .ok (.iconst (0), 1) := by decide +kernel
theorem d_Curve_inverseAt_1 : decode b_Curve_inverseAt 1 = .ok (.istore_n 2, 1) := by decide +kernel
theorem d_Curve_inverseAt_2 : decode b_Curve_inverseAt 2 = .ok (.ldc 52, 2) := by decide +kernel
theorem d_Curve_inverseAt_4 : decode b_Curve_inverseAt 4 = .ok (.istore_n 3, 1) := by decide +kernel
theorem d_Curve_inverseAt_5 : decode b_Curve_inverseAt 5 = .ok (.iload_n 3, 1) := by decide +kernel
theorem d_Curve_inverseAt_6 : decode b_Curve_inverseAt 6 = .ok (.ifCond .le (27), 3) := by decide +kernel
theorem d_Curve_inverseAt_9 : decode b_Curve_inverseAt 9 = .ok (.aload_n 0, 1) := by decide +kernel
theorem d_Curve_inverseAt_10 : decode b_Curve_inverseAt 10 = .ok (.iload_n 2, 1) := by decide +kernel
theorem d_Curve_inverseAt_11 : decode b_Curve_inverseAt 11 = .ok (.iload_n 3, 1) := by decide +kernel
theorem d_Curve_inverseAt_12 : decode b_Curve_inverseAt 12 = .ok (.iadd, 1) := by decide +kernel
theorem d_Curve_inverseAt_13 : decode b_Curve_inverseAt 13 = .ok (.iconst (1), 1) := by decide +kernel
theorem d_Curve_inverseAt_14 : decode b_Curve_inverseAt 14 = .ok (.isub, 1) := by decide +kernel
theorem d_Curve_inverseAt_15 : decode b_Curve_inverseAt 15 = .ok (.invokevirtual 53, 3) := by decide +kernel
theorem d_Curve_inverseAt_18 : decode b_Curve_inverseAt 18 = .ok (.iload_n 1, 1) := by decide +kernel
theorem d_Curve_inverseAt_19 : decode b_Curve_inverseAt 19 = .ok (.if_icmp .ge (7), 3) := by decide +kernel
theorem d_Curve_inverseAt_22 : decode b_Curve_inverseAt 22 = .ok (.iload_n 2, 1) := by decide +kernel
theorem d_Curve_inverseAt_23 : decode b_Curve_inverseAt 23 = .ok (.iload_n 3, 1) := by decide +kernel
theorem d_Curve_inverseAt_24 : decode b_Curve_inverseAt 24 = .ok (.iadd, 1) := by decide +kernel
theorem d_Curve_inverseAt_25 : decode b_Curve_inverseAt 25 = .ok (.istore_n 2, 1) := by decide +kernel
theorem d_Curve_inverseAt_26 : decode b_Curve_inverseAt 26 = .ok (.iload_n 3, 1) := by decide +kernel
theorem d_Curve_inverseAt_27 : decode b_Curve_inverseAt 27 = .ok (.iconst (2), 1) := by decide +kernel
theorem d_Curve_inverseAt_28 : decode b_Curve_inverseAt 28 = .ok (.idiv, 1) := by decide +kernel
theorem d_Curve_inverseAt_29 : decode b_Curve_inverseAt 29 = .ok (.istore_n 3, 1) := by decide +kernel
theorem d_Curve_inverseAt_30 : decode b_Curve_inverseAt 30 = .ok (.goto (-25), 3) := by decide +kernel
theorem d_Curve_inverseAt_33 : decode b_Curve_inverseAt 33 = .ok (.iload_n 2, 1) := by decide +kernel
theorem d_Curve_inverseAt_34 : decode b_Curve_inverseAt 34 = .ok (.ireturn, 1) := by decide +kernel
theorem d_Curves_run_0 : decode b_Curves_run 0 = .ok (.iconst (0), 1) := by decide +kernel
theorem d_Curves_run_1 : decode b_Curves_run 1 = .ok (.istore_n 2, 1) := by decide +kernel
theorem d_Curves_run_2 : decode b_Curves_run 2 = .ok (.iload_n 2, 1) := by decide +kernel
theorem d_Curves_run_3 : decode b_Curves_run 3 = .ok (.aload_n 0, 1) := by decide +kernel
theorem d_Curves_run_4 : decode b_Curves_run 4 = .ok (.getfield 15, 3) := by decide +kernel
theorem d_Curves_run_7 : decode b_Curves_run 7 = .ok (.arraylength, 1) := by decide +kernel
theorem d_Curves_run_8 : decode b_Curves_run 8 = .ok (.if_icmp .ge (47), 3) := by decide +kernel
theorem d_Curves_run_11 : decode b_Curves_run 11 = .ok (.aload_n 1, 1) := by decide +kernel
theorem d_Curves_run_12 : decode b_Curves_run 12 = .ok (.iload_n 2, 1) := by decide +kernel
theorem d_Curves_run_13 : decode b_Curves_run 13 = .ok (.aload_n 0, 1) := by decide +kernel
theorem d_Curves_run_14 : decode b_Curves_run 14 = .ok (.getfield 28, 3) := by decide +kernel
theorem d_Curves_run_17 : decode b_Curves_run 17 = .ok (.iconst (1), 1) := by decide +kernel
theorem d_Curves_run_18 : decode b_Curves_run 18 = .ok (.if_icmp .ne (18), 3) := by decide +kernel
theorem d_Curves_run_21 : decode b_Curves_run 21 = .ok (.aload_n 0, 1) := by decide +kernel
theorem d_Curves_run_22 : decode b_Curves_run 22 = .ok (.getfield 15, 3) := by decide +kernel
theorem d_Curves_run_25 : decode b_Curves_run 25 = .ok (.iload_n 2, 1) := by decide +kernel
theorem d_Curves_run_26 : decode b_Curves_run 26 = .ok (.aaload, 1) := by decide +kernel
theorem d_Curves_run_27 : decode b_Curves_run 27 = .ok (.aload_n 1, 1) := by decide +kernel
theorem d_Curves_run_28 : decode b_Curves_run 28 = .ok (.iload_n 2, 1) := by decide +kernel
theorem d_Curves_run_29 : decode b_Curves_run 29 = .ok (.iaload, 1) := by decide +kernel
theorem d_Curves_run_30 : decode b_Curves_run 30 = .ok (.invokevirtual 32, 3) := by decide +kernel
theorem d_Curves_run_33 : decode b_Curves_run 33 = .ok (.goto (15), 3) := by decide +kernel
theorem d_Curves_run_36 : decode b_Curves_run 36 = .ok (.aload_n 0, 1) := by decide +kernel
theorem d_Curves_run_37 : decode b_Curves_run 37 = .ok (.getfield 15, 3) := by decide +kernel
theorem d_Curves_run_40 : decode b_Curves_run 40 = .ok (.iload_n 2, 1) := by decide +kernel
theorem d_Curves_run_41 : decode b_Curves_run 41 = .ok (.aaload, 1) := by decide +kernel
theorem d_Curves_run_42 : decode b_Curves_run 42 = .ok (.aload_n 1, 1) := by decide +kernel
theorem d_Curves_run_43 : decode b_Curves_run 43 = .ok (.iload_n 2, 1) := by decide +kernel
theorem d_Curves_run_44 : decode b_Curves_run 44 = .ok (.iaload, 1) := by decide +kernel
theorem d_Curves_run_45 : decode b_Curves_run 45 = .ok (.invokevirtual 36, 3) := by decide +kernel
theorem d_Curves_run_48 : decode b_Curves_run 48 = .ok (.iastore, 1) := by decide +kernel
theorem d_Curves_run_49 : decode b_Curves_run 49 = .ok (.iinc 2 (1), 3) := by decide +kernel
theorem d_Curves_run_52 : decode b_Curves_run 52 = .ok (.goto (-50), 3) := by decide +kernel
theorem d_Curves_run_55 : decode b_Curves_run 55 = .ok (.return_, 1) := by decide +kernel
