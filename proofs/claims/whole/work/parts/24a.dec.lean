theorem d_Curves_areRising_0 : decode b_Curves_areRising 0 = .ok (.iconst (1), 1) := by decide +kernel
theorem d_Curves_areRising_1 : decode b_Curves_areRising 1 = .ok (.istore_n 1, 1) := by decide +kernel
theorem d_Curves_areRising_2 : decode b_Curves_areRising 2 = .ok (.iconst (0), 1) := by decide +kernel
theorem d_Curves_areRising_3 : decode b_Curves_areRising 3 = .ok (.istore_n 2, 1) := by decide +kernel
theorem d_Curves_areRising_4 : decode b_Curves_areRising 4 = .ok (.iload_n 2, 1) := by decide +kernel
theorem d_Curves_areRising_5 : decode b_Curves_areRising 5 = .ok (.aload_n 0, 1) := by decide +kernel
theorem d_Curves_areRising_6 : decode b_Curves_areRising 6 = .ok (.getfield 15, 3) := by decide +kernel
theorem d_Curves_areRising_9 : decode b_Curves_areRising 9 = .ok (.arraylength, 1) := by decide +kernel
theorem d_Curves_areRising_10 : decode b_Curves_areRising 10 = .ok (.if_icmp .ge (31), 3) := by decide +kernel
theorem d_Curves_areRising_13 : decode b_Curves_areRising 13 = .ok (.iload_n 1, 1) := by decide +kernel
theorem d_Curves_areRising_14 : decode b_Curves_areRising 14 = .ok (.ifCond .eq (19), 3) := by decide +kernel
theorem d_Curves_areRising_17 : decode b_Curves_areRising 17 = .ok (.aload_n 0, 1) := by decide +kernel
theorem d_Curves_areRising_18 : decode b_Curves_areRising 18 = .ok (.getfield 15, 3) := by decide +kernel
theorem d_Curves_areRising_21 : decode b_Curves_areRising 21 = .ok (.iload_n 2, 1) := by decide +kernel
theorem d_Curves_areRising_22 : decode b_Curves_areRising 22 = .ok (.aaload, 1) := by decide +kernel
theorem d_Curves_areRising_23 : decode b_Curves_areRising 23 = .ok (.invokevirtual 25, 3) := by decide +kernel
theorem d_Curves_areRising_26 : decode b_Curves_areRising 26 = .ok (.ifCond .eq (7), 3) := by decide +kernel
theorem d_Curves_areRising_29 : decode b_Curves_areRising 29 = .ok (.iconst (1), 1) := by decide +kernel
theorem d_Curves_areRising_30 : decode b_Curves_areRising 30 = .ok (.goto (4), 3) := by decide +kernel
theorem d_Curves_areRising_33 : decode b_Curves_areRising 33 = .ok (.iconst (0), 1) := by decide +kernel
theorem d_Curves_areRising_34 : decode b_Curves_areRising 34 = .ok (.istore_n 1, 1) := by decide +kernel
theorem d_Curves_areRising_35 : decode b_Curves_areRising 35 = .ok (.iinc 2 (1), 3) := by decide +kernel
theorem d_Curves_areRising_38 : decode b_Curves_areRising 38 = .ok (.goto (-34), 3) := by decide +kernel
theorem d_Curves_areRising_41 : decode b_Curves_areRising 41 = .ok (.iload_n 1, 1) := by decide +kernel
theorem d_Curves_areRising_42 : decode b_Curves_areRising 42 = .ok (.ireturn, 1) := by decide +kernel
theorem d_Profile_hasWhiteOf_0 : decode b_Profile_hasWhiteOf 0 = .ok (.aload_n 0, 1) := by decide +kernel
theorem d_Profile_hasWhiteOf_1 : decode b_Profile_hasWhiteOf 1 = .ok (.getfield 27, 3) := by decide +kernel
theorem d_Profile_hasWhiteOf_4 : decode b_Profile_hasWhiteOf 4 = .ok (.iconst (0), 1) := by decide +kernel
theorem d_Profile_hasWhiteOf_5 : decode b_Profile_hasWhiteOf 5 = .ok (.iaload, 1) := by decide +kernel
theorem d_Profile_hasWhiteOf_6 : decode b_Profile_hasWhiteOf 6 = .ok (.aload_n 1, 1) := by decide +kernel
theorem d_Profile_hasWhiteOf_7 : decode b_Profile_hasWhiteOf 7 = .ok (.getfield 27, 3) := by decide +kernel
theorem d_Profile_hasWhiteOf_10 : decode b_Profile_hasWhiteOf 10 = .ok (.iconst (0), 1) := by decide +kernel
theorem d_Profile_hasWhiteOf_11 : decode b_Profile_hasWhiteOf 11 = .ok (.iaload, 1) := by decide +kernel
theorem d_Profile_hasWhiteOf_12 : decode b_Profile_hasWhiteOf 12 = .ok (.if_icmp .ne (37), 3) := by decide +kernel
theorem d_Profile_hasWhiteOf_15 : decode b_Profile_hasWhiteOf 15 = .ok (.aload_n 0, 1) := by decide +kernel
theorem d_Profile_hasWhiteOf_16 : decode b_Profile_hasWhiteOf 16 = .ok (.getfield 27, 3) := by decide +kernel
theorem d_Profile_hasWhiteOf_19 : decode b_Profile_hasWhiteOf 19 = .ok (.iconst (1), 1) := by decide +kernel
theorem d_Profile_hasWhiteOf_20 : decode b_Profile_hasWhiteOf 20 = .ok (.iaload, 1) := by decide +kernel
theorem d_Profile_hasWhiteOf_21 : decode b_Profile_hasWhiteOf 21 = .ok (.aload_n 1, 1) := by decide +kernel
theorem d_Profile_hasWhiteOf_22 : decode b_Profile_hasWhiteOf 22 = .ok (.getfield 27, 3) := by decide +kernel
theorem d_Profile_hasWhiteOf_25 : decode b_Profile_hasWhiteOf 25 = .ok (.iconst (1), 1) := by decide +kernel
theorem d_Profile_hasWhiteOf_26 : decode b_Profile_hasWhiteOf 26 = .ok (.iaload, 1) := by decide +kernel
theorem d_Profile_hasWhiteOf_27 : decode b_Profile_hasWhiteOf 27 = .ok (.if_icmp .ne (22), 3) := by decide +kernel
theorem d_Profile_hasWhiteOf_30 : decode b_Profile_hasWhiteOf 30 = .ok (.aload_n 0, 1) := by decide +kernel
theorem d_Profile_hasWhiteOf_31 : decode b_Profile_hasWhiteOf 31 = .ok (.getfield 27, 3) := by decide +kernel
theorem d_Profile_hasWhiteOf_34 : decode b_Profile_hasWhiteOf 34 = .ok (.iconst (2), 1) := by decide +kernel
theorem d_Profile_hasWhiteOf_35 : decode b_Profile_hasWhiteOf 35 = .ok (.iaload, 1) := by decide +kernel
theorem d_Profile_hasWhiteOf_36 : decode b_Profile_hasWhiteOf 36 = .ok (.aload_n 1, 1) := by decide +kernel
theorem d_Profile_hasWhiteOf_37 : decode b_Profile_hasWhiteOf 37 = .ok (.getfield 27, 3) := by decide +kernel
theorem d_Profile_hasWhiteOf_40 : decode b_Profile_hasWhiteOf 40 = .ok (.iconst (2), 1) := by decide +kernel
theorem d_Profile_hasWhiteOf_41 : decode b_Profile_hasWhiteOf 41 = .ok (.iaload, 1) := by decide +kernel
theorem d_Profile_hasWhiteOf_42 : decode b_Profile_hasWhiteOf 42 = .ok (.if_icmp .ne (7), 3) := by decide +kernel
theorem d_Profile_hasWhiteOf_45 : decode b_Profile_hasWhiteOf 45 = .ok (.iconst (1), 1) := by decide +kernel
theorem d_Profile_hasWhiteOf_46 : decode b_Profile_hasWhiteOf 46 = .ok (.goto (4), 3) := by decide +kernel
theorem d_Profile_hasWhiteOf_49 : decode b_Profile_hasWhiteOf 49 = .ok (.iconst (0), 1) := by decide +kernel
theorem d_Profile_hasWhiteOf_50 : decode b_Profile_hasWhiteOf 50 = .ok (.ireturn, 1) := by decide +kernel
theorem d_CL_needsScale_0 : decode b_CL_needsScale 0 = .ok (.iload_n 2, 1) := by decide +kernel
theorem d_CL_needsScale_1 : decode b_CL_needsScale 1 = .ok (.iconst (3), 1) := by decide +kernel
theorem d_CL_needsScale_2 : decode b_CL_needsScale 2 = .ok (.if_icmp .ne (15), 3) := by decide +kernel
theorem d_CL_needsScale_5 : decode b_CL_needsScale 5 = .ok (.aload_n 0, 1) := by decide +kernel
theorem d_CL_needsScale_6 : decode b_CL_needsScale 6 = .ok (.aload_n 1, 1) := by decide +kernel
theorem d_CL_needsScale_7 : decode b_CL_needsScale 7 = .ok (.invokevirtual 223, 3) := by decide +kernel
theorem d_CL_needsScale_10 : decode b_CL_needsScale 10 = .ok (.ifCond .ne (7), 3) := by decide +kernel
theorem d_CL_needsScale_13 : decode b_CL_needsScale 13 = .ok (.iconst (1), 1) := by decide +kernel
theorem d_CL_needsScale_14 : decode b_CL_needsScale 14 = .ok (.goto (4), 3) := by decide +kernel
theorem d_CL_needsScale_17 : decode b_CL_needsScale 17 = .ok (.iconst (0), 1) := by decide +kernel
theorem d_CL_needsScale_18 : decode b_CL_needsScale 18 = .ok (.ireturn, 1) := by decide +kernel
theorem d_Profile_whiteHasZero_0 : decode b_Profile_whiteHasZero 0 = .ok (.aload_n 0, 1) := by decide +kernel
theorem d_Profile_whiteHasZero_1 : decode b_Profile_whiteHasZero 1 = .ok (.getfield 27, 3) := by decide +kernel
theorem d_Profile_whiteHasZero_4 : decode b_Profile_whiteHasZero 4 = .ok (.iconst (0), 1) := by decide +kernel
theorem d_Profile_whiteHasZero_5 : decode b_Profile_whiteHasZero 5 = .ok (.iaload, 1) := by decide +kernel
theorem d_Profile_whiteHasZero_6 : decode b_Profile_whiteHasZero 6 = .ok (.ifCond .eq (21), 3) := by decide +kernel
theorem d_Profile_whiteHasZero_9 : decode b_Profile_whiteHasZero 9 = .ok (.aload_n 0, 1) := by decide +kernel
theorem d_Profile_whiteHasZero_10 : decode b_Profile_whiteHasZero 10 = .ok (.getfield 27, 3) := by decide +kernel
theorem d_Profile_whiteHasZero_13 : decode b_Profile_whiteHasZero 13 = .ok (.iconst (1), 1) := by decide +kernel
theorem d_Profile_whiteHasZero_14 : decode b_Profile_whiteHasZero 14 = .ok (.iaload, 1) := by decide +kernel
theorem d_Profile_whiteHasZero_15 : decode b_Profile_whiteHasZero 15 = .ok (.ifCond .eq (12), 3) := by decide +kernel
theorem d_Profile_whiteHasZero_18 : decode b_Profile_whiteHasZero 18 = .ok (.aload_n 0, 1) := by decide +kernel
theorem d_Profile_whiteHasZero_19 : decode b_Profile_whiteHasZero 19 = .ok (.getfield 27, 3) := by decide +kernel
theorem d_Profile_whiteHasZero_22 : decode b_Profile_whiteHasZero 22 = .ok (.iconst (2), 1) := by decide +kernel
theorem d_Profile_whiteHasZero_23 : decode b_Profile_whiteHasZero 23 = .ok (.iaload, 1) := by decide +kernel
theorem d_Profile_whiteHasZero_24 : decode b_Profile_whiteHasZero 24 = .ok (.ifCond .ne (7), 3) := by decide +kernel
theorem d_Profile_whiteHasZero_27 : decode b_Profile_whiteHasZero 27 = .ok (.iconst (1), 1) := by decide +kernel
theorem d_Profile_whiteHasZero_28 : decode b_Profile_whiteHasZero 28 = .ok (.goto (4), 3) := by decide +kernel
theorem d_Profile_whiteHasZero_31 : decode b_Profile_whiteHasZero 31 = .ok (.iconst (0), 1) := by decide +kernel
theorem d_Profile_whiteHasZero_32 : decode b_Profile_whiteHasZero 32 = .ok (.ireturn, 1) := by decide +kernel
theorem d_CL_refusal_0 : decode b_CL_refusal 0 = .ok (.iload_n 2, 1) := by decide +kernel
theorem d_CL_refusal_1 : decode b_CL_refusal 1 = .ok (.ifCond .lt (8), 3) := by decide +kernel
theorem d_CL_refusal_4 : decode b_CL_refusal 4 = .ok (.iload_n 2, 1) := by decide +kernel
theorem d_CL_refusal_5 : decode b_CL_refusal 5 = .ok (.iconst (3), 1) := by decide +kernel
theorem d_CL_refusal_6 : decode b_CL_refusal 6 = .ok (.if_icmp .le (6), 3) := by decide +kernel
theorem d_CL_refusal_9 : decode b_CL_refusal 9 = .ok (.bipush (-2), 2) := by decide +kernel
theorem d_CL_refusal_11 : decode b_CL_refusal 11 = .ok (.ireturn, 1) := by decide +kernel
theorem d_CL_refusal_12 : decode b_CL_refusal 12 = .ok (.aload_n 1, 1) := by decide +kernel
theorem d_CL_refusal_13 : decode b_CL_refusal 13 = .ok (.invokevirtual 195, 3) := by decide +kernel
theorem d_CL_refusal_16 : decode b_CL_refusal 16 = .ok (.ifCond .eq (6), 3) := by decide +kernel
theorem d_CL_refusal_19 : decode b_CL_refusal 19 = .ok (.bipush (-3), 2) := by decide +kernel
theorem d_CL_refusal_21 : decode b_CL_refusal 21 = .ok (.ireturn, 1) := by decide +kernel
theorem d_CL_refusal_22 : decode b_CL_refusal 22 = .ok (.aload_n 1, 1) := by decide +kernel
theorem d_CL_refusal_23 : decode b_CL_refusal 23 = .ok (.iload_n 2, 1) := by decide +kernel
theorem d_CL_refusal_24 : decode b_CL_refusal 24 = .ok (.iconst (0), 1) := by decide +kernel
theorem d_CL_refusal_25 : decode b_CL_refusal 25 = .ok (.invokevirtual 198, 3) := by decide +kernel
theorem d_CL_refusal_28 : decode b_CL_refusal 28 = .ok (.astore 4, 2) := by decide +kernel
theorem d_CL_refusal_30 : decode b_CL_refusal 30 = .ok (.aload 4, 2) := by decide +kernel
theorem d_CL_refusal_32 : decode b_CL_refusal 32 = .ok (.ifnonnull (6), 3) := by decide +kernel
theorem d_CL_refusal_35 : decode b_CL_refusal 35 = .ok (.bipush (-4), 2) := by decide +kernel
theorem d_CL_refusal_37 : decode b_CL_refusal 37 = .ok (.ireturn, 1) := by decide +kernel
theorem d_CL_refusal_38 : decode b_CL_refusal 38 = .ok (.aload 4, 2) := by decide +kernel
theorem d_CL_refusal_40 : decode b_CL_refusal 40 = .ok (.instanceof 202, 3) := by decide +kernel
theorem d_CL_refusal_43 : decode b_CL_refusal 43 = .ok (.ifCond .eq (21), 3) := by decide +kernel
theorem d_CL_refusal_46 : decode b_CL_refusal 46 = .ok (.aload 4, 2) := by decide +kernel
theorem d_CL_refusal_48 : decode b_CL_refusal 48 = .ok (.checkcast 202, 3) := by decide +kernel
theorem d_CL_refusal_51 : decode b_CL_refusal 51 = .ok (.astore 5, 2) := by decide +kernel
theorem d_CL_refusal_53 : decode b_CL_refusal 53 = .ok (.aload 5, 2) := by decide +kernel
theorem d_CL_refusal_55 : decode b_CL_refusal 55 = .ok (.invokevirtual 204, 3) := by decide +kernel
theorem d_CL_refusal_58 : decode b_CL_refusal 58 = .ok (.ifCond .eq (6), 3) := by decide +kernel
theorem d_CL_refusal_61 : decode b_CL_refusal 61 = .ok (.bipush (-5), 2) := by decide +kernel
theorem d_CL_refusal_63 : decode b_CL_refusal 63 = .ok (.ireturn, 1) := by decide +kernel
theorem d_CL_refusal_64 : decode b_CL_refusal 64 = .ok (.aload_n 1, 1) := by decide +kernel
theorem d_CL_refusal_65 : decode b_CL_refusal 65 = .ok (.iload_n 2, 1) := by decide +kernel
theorem d_CL_refusal_66 : decode b_CL_refusal 66 = .ok (.iconst (1), 1) := by decide +kernel
theorem d_CL_refusal_67 : decode b_CL_refusal 67 = .ok (.invokevirtual 198, 3) := by decide +kernel
theorem d_CL_refusal_70 : decode b_CL_refusal 70 = .ok (.astore 6, 2) := by decide +kernel
theorem d_CL_refusal_72 : decode b_CL_refusal 72 = .ok (.aload 6, 2) := by decide +kernel
theorem d_CL_refusal_74 : decode b_CL_refusal 74 = .ok (.instanceof 207, 3) := by decide +kernel
theorem d_CL_refusal_77 : decode b_CL_refusal 77 = .ok (.ifCond .eq (21), 3) := by decide +kernel
theorem d_CL_refusal_80 : decode b_CL_refusal 80 = .ok (.aload 6, 2) := by decide +kernel
theorem d_CL_refusal_82 : decode b_CL_refusal 82 = .ok (.checkcast 207, 3) := by decide +kernel
theorem d_CL_refusal_85 : decode b_CL_refusal 85 = .ok (.astore 5, 2) := by decide +kernel
theorem d_CL_refusal_87 : decode b_CL_refusal 87 = .ok (.aload 5, 2) := by decide +kernel
theorem d_CL_refusal_89 : decode b_CL_refusal 89 = .ok (.invokevirtual 209, 3) := by decide +kernel
theorem d_CL_refusal_92 : decode b_CL_refusal 92 = .ok (.ifCond .ne (6), 3) := by decide +kernel
theorem d_CL_refusal_95 : decode b_CL_refusal 95 = .ok (.bipush (-6), 2) := by decide +kernel
theorem d_CL_refusal_97 : decode b_CL_refusal 97 = .ok (.ireturn, 1) := by decide +kernel
theorem d_CL_refusal_98 : decode b_CL_refusal 98 = .ok (.aload_n 0, 1) := by decide +kernel
theorem d_CL_refusal_99 : decode b_CL_refusal 99 = .ok (.aload_n 1, 1) := by decide +kernel
theorem d_CL_refusal_100 : decode b_CL_refusal 100 = .ok (.iload_n 2, 1) := by decide +kernel
theorem d_CL_refusal_101 : decode b_CL_refusal 101 = .ok (.invokestatic 212, 3) := by decide +kernel
theorem d_CL_refusal_104 : decode b_CL_refusal 104 = .ok (.ifCond .eq (13), 3) := by decide +kernel
theorem d_CL_refusal_107 : decode b_CL_refusal 107 = .ok (.aload_n 1, 1) := by decide +kernel
theorem d_CL_refusal_108 : decode b_CL_refusal 108 = .ok (.invokevirtual 216, 3) := by decide +kernel
theorem d_CL_refusal_111 : decode b_CL_refusal 111 = .ok (.ifCond .eq (6), 3) := by decide +kernel
theorem d_CL_refusal_114 : decode b_CL_refusal 114 = .ok (.bipush (-7), 2) := by decide +kernel
theorem d_CL_refusal_116 : decode b_CL_refusal 116 = .ok (.ireturn, 1) := by decide +kernel
theorem d_CL_refusal_117 : decode b_CL_refusal 117 = .ok (.iload_n 3, 1) := by decide +kernel
theorem d_CL_refusal_118 : decode b_CL_refusal 118 = .ok (.ifCond .eq (26), 3) := by decide +kernel
theorem d_CL_refusal_121 : decode b_CL_refusal 121 = .ok (.aload_n 0, 1) := by decide +kernel
theorem d_CL_refusal_122 : decode b_CL_refusal 122 = .ok (.iload_n 2, 1) := by decide +kernel
theorem d_CL_refusal_123 : decode b_CL_refusal 123 = .ok (.invokevirtual 219, 3) := by decide +kernel
theorem d_CL_refusal_126 : decode b_CL_refusal 126 = .ok (.ldc 222, 2) := by decide +kernel
theorem d_CL_refusal_128 : decode b_CL_refusal 128 = .ok (.if_icmp .ge (13), 3) := by decide +kernel
theorem d_CL_refusal_131 : decode b_CL_refusal 131 = .ok (.aload_n 1, 1) := by decide +kernel
theorem d_CL_refusal_132 : decode b_CL_refusal 132 = .ok (.iload_n 2, 1) := by decide +kernel
theorem d_CL_refusal_133 : decode b_CL_refusal 133 = .ok (.invokevirtual 219, 3) := by decide +kernel
theorem d_CL_refusal_136 : decode b_CL_refusal 136 = .ok (.ldc 222, 2) := by decide +kernel
theorem d_CL_refusal_138 : decode b_CL_refusal 138 = .ok (.if_icmp .lt (6), 3) := by decide +kernel
theorem d_CL_refusal_141 : decode b_CL_refusal 141 = .ok (.bipush (-7), 2) := by decide +kernel
theorem d_CL_refusal_143 : decode b_CL_refusal 143 = .ok (.ireturn, 1) := by decide +kernel
theorem d_CL_refusal_144 : decode b_CL_refusal 144 = .ok (.iconst (0), 1) := by decide +kernel
theorem d_CL_refusal_145 : decode b_CL_refusal 145 = .ok (.ireturn, 1) := by decide +kernel
theorem d_Link_wasMadeFrom_0 : decode b_Link_wasMadeFrom 0 = .ok (.aload_n 0, 1) := by decide +kernel
theorem d_Link_wasMadeFrom_1 : decode b_Link_wasMadeFrom 1 = .ok (.getfield 20, 3) := by decide +kernel
theorem d_Link_wasMadeFrom_4 : decode b_Link_wasMadeFrom 4 = .ok (.aload_n 1, 1) := by decide +kernel
theorem d_Link_wasMadeFrom_5 : decode b_Link_wasMadeFrom 5 = .ok (.if_acmp .ne (41), 3) := by decide +kernel
theorem d_Link_wasMadeFrom_8 : decode b_Link_wasMadeFrom 8 = .ok (.aload_n 0, 1) := by decide +kernel
theorem d_Link_wasMadeFrom_9 : decode b_Link_wasMadeFrom 9 = .ok (.getfield 24, 3) := by decide +kernel
theorem d_Link_wasMadeFrom_12 : decode b_Link_wasMadeFrom 12 = .ok (.aload_n 2, 1) := by decide +kernel
theorem d_Link_wasMadeFrom_13 : decode b_Link_wasMadeFrom 13 = .ok (.if_acmp .ne (33), 3) := by decide +kernel
theorem d_Link_wasMadeFrom_16 : decode b_Link_wasMadeFrom 16 = .ok (.aload_n 0, 1) := by decide +kernel
theorem d_Link_wasMadeFrom_17 : decode b_Link_wasMadeFrom 17 = .ok (.getfield 28, 3) := by decide +kernel
theorem d_Link_wasMadeFrom_20 : decode b_Link_wasMadeFrom 20 = .ok (.aload_n 3, 1) := by decide +kernel
theorem d_Link_wasMadeFrom_21 : decode b_Link_wasMadeFrom 21 = .ok (.if_acmp .ne (25), 3) := by decide +kernel
theorem d_Link_wasMadeFrom_24 : decode b_Link_wasMadeFrom 24 = .ok (.aload_n 0, 1) := by decide +kernel
theorem d_Link_wasMadeFrom_25 : decode b_Link_wasMadeFrom 25 = .ok (.getfield 31, 3) := by decide +kernel
theorem d_Link_wasMadeFrom_28 : decode b_Link_wasMadeFrom 28 = .ok (.iload 4, 2) := by decide +kernel
theorem d_Link_wasMadeFrom_30 : decode b_Link_wasMadeFrom 30 = .ok (.if_icmp .ne (16), 3) := by decide +kernel
theorem d_Link_wasMadeFrom_33 : decode b_Link_wasMadeFrom 33 = .ok (.aload_n 0, 1) := by decide +kernel
theorem d_Link_wasMadeFrom_34 : decode b_Link_wasMadeFrom 34 = .ok (.getfield 35, 3) := by decide +kernel
theorem d_Link_wasMadeFrom_37 : decode b_Link_wasMadeFrom 37 = .ok (.iload 5, 2) := by decide +kernel
theorem d_Link_wasMadeFrom_39 : decode b_Link_wasMadeFrom 39 = .ok (.if_icmp .ne (7), 3) := by decide +kernel
theorem d_Link_wasMadeFrom_42 : decode b_Link_wasMadeFrom 42 = .ok (.iconst (1), 1) := by decide +kernel
theorem d_Link_wasMadeFrom_43 : decode b_Link_wasMadeFrom 43 = .ok (.goto (4), 3) := by decide +kernel
theorem d_Link_wasMadeFrom_46 : decode b_Link_wasMadeFrom 46 = .ok (.iconst (0), 1) := by decide +kernel
theorem d_Link_wasMadeFrom_47 : decode b_Link_wasMadeFrom 47 = .ok (.ireturn, 1) := by decide +kernel
theorem d_CL_findMade_0 : decode b_CL_findMade 0 = .ok (.iconst (0), 1) := by decide +kernel
theorem d_CL_findMade_1 : decode b_CL_findMade 1 = .ok (.istore 6, 2) := by decide +kernel
theorem d_CL_findMade_3 : decode b_CL_findMade 3 = .ok (.iload 6, 2) := by decide +kernel
theorem d_CL_findMade_5 : decode b_CL_findMade 5 = .ok (.aload_n 0, 1) := by decide +kernel
theorem d_CL_findMade_6 : decode b_CL_findMade 6 = .ok (.getfield 135, 3) := by decide +kernel
theorem d_CL_findMade_9 : decode b_CL_findMade 9 = .ok (.if_icmp .ge (32), 3) := by decide +kernel
theorem d_CL_findMade_12 : decode b_CL_findMade 12 = .ok (.aload_n 0, 1) := by decide +kernel
theorem d_CL_findMade_13 : decode b_CL_findMade 13 = .ok (.getfield 24, 3) := by decide +kernel
theorem d_CL_findMade_16 : decode b_CL_findMade 16 = .ok (.iload 6, 2) := by decide +kernel
theorem d_CL_findMade_18 : decode b_CL_findMade 18 = .ok (.aaload, 1) := by decide +kernel
theorem d_CL_findMade_19 : decode b_CL_findMade 19 = .ok (.aload_n 1, 1) := by decide +kernel
theorem d_CL_findMade_20 : decode b_CL_findMade 20 = .ok (.aload_n 2, 1) := by decide +kernel
theorem d_CL_findMade_21 : decode b_CL_findMade 21 = .ok (.aload_n 3, 1) := by decide +kernel
theorem d_CL_findMade_22 : decode b_CL_findMade 22 = .ok (.iload 4, 2) := by decide +kernel
theorem d_CL_findMade_24 : decode b_CL_findMade 24 = .ok (.iload 5, 2) := by decide +kernel
theorem d_CL_findMade_26 : decode b_CL_findMade 26 = .ok (.invokevirtual 226, 3) := by decide +kernel
theorem d_CL_findMade_29 : decode b_CL_findMade 29 = .ok (.ifCond .eq (6), 3) := by decide +kernel
theorem d_CL_findMade_32 : decode b_CL_findMade 32 = .ok (.iload 6, 2) := by decide +kernel
theorem d_CL_findMade_34 : decode b_CL_findMade 34 = .ok (.ireturn, 1) := by decide +kernel
theorem d_CL_findMade_35 : decode b_CL_findMade 35 = .ok (.iinc 6 (1), 3) := by decide +kernel
theorem d_CL_findMade_38 : decode b_CL_findMade 38 = .ok (.goto (-35), 3) := by decide +kernel
theorem d_CL_findMade_41 : decode b_CL_findMade 41 = .ok (.iconst (-1), 1) := by decide +kernel
theorem d_CL_findMade_42 : decode b_CL_findMade 42 = .ok (.ireturn, 1) := by decide +kernel
theorem d_CL_chainPiece_0 : decode b_CL_chainPiece 0 = .ok (.aload_n 1, 1) := by decide +kernel
theorem d_CL_chainPiece_1 : decode b_CL_chainPiece 1 = .ok (.ifnull (22), 3) := by decide +kernel
theorem d_CL_chainPiece_4 : decode b_CL_chainPiece 4 = .ok (.aload_n 1, 1) := by decide +kernel
theorem d_CL_chainPiece_5 : decode b_CL_chainPiece 5 = .ok (.getfield 244, 3) := by decide +kernel
theorem d_CL_chainPiece_8 : decode b_CL_chainPiece 8 = .ok (.ifCond .ne (15), 3) := by decide +kernel
theorem d_CL_chainPiece_11 : decode b_CL_chainPiece 11 = .ok (.aload_n 0, 1) := by decide +kernel
theorem d_CL_chainPiece_12 : decode b_CL_chainPiece 12 = .ok (.getfield 181, 3) := by decide +kernel
theorem d_CL_chainPiece_15 : decode b_CL_chainPiece 15 = .ok (.aload_n 0, 1) := by decide +kernel
theorem d_CL_chainPiece_16 : decode b_CL_chainPiece 16 = .ok (.getfield 42, 3) := by decide +kernel
theorem d_CL_chainPiece_19 : decode b_CL_chainPiece 19 = .ok (.arraylength, 1) := by decide +kernel
theorem d_CL_chainPiece_20 : decode b_CL_chainPiece 20 = .ok (.if_icmp .lt (4), 3) := by decide +kernel
theorem d_CL_chainPiece_23 : decode b_CL_chainPiece 23 = .ok (.return_, 1) := by decide +kernel
theorem d_CL_chainPiece_24 : decode b_CL_chainPiece 24 = .ok (.aload_n 0, 1) := by decide +kernel
theorem d_CL_chainPiece_25 : decode b_CL_chainPiece 25 = .ok (.getfield 42, 3) := by decide +kernel
theorem d_CL_chainPiece_28 : decode b_CL_chainPiece 28 = .ok (.aload_n 0, 1) := by decide +kernel
theorem d_CL_chainPiece_29 : decode b_CL_chainPiece 29 = .ok (.getfield 181, 3) := by decide +kernel
theorem d_CL_chainPiece_32 : decode b_CL_chainPiece 32 = .ok (.aload_n 1, 1) := by decide +kernel
theorem d_CL_chainPiece_33 : decode b_CL_chainPiece 33 = .ok (.aastore, 1) := by decide +kernel
theorem d_CL_chainPiece_34 : decode b_CL_chainPiece 34 = .ok (.aload_n 0, 1) := by decide +kernel
theorem d_CL_chainPiece_35 : decode b_CL_chainPiece 35 = .ok (.dup, 1) := by decide +kernel
theorem d_CL_chainPiece_36 : decode b_CL_chainPiece 36 = .ok (.getfield 181, 3) := by decide +kernel
theorem d_CL_chainPiece_39 : decode b_CL_chainPiece 39 = .ok (.iconst (1), 1) := by decide +kernel
theorem d_CL_chainPiece_40 : decode b_CL_chainPiece 40 = .ok (.iadd, 1) := by decide +kernel
theorem d_CL_chainPiece_41 : decode b_CL_chainPiece 41 = .ok (.putfield 181, 3) := by decide +kernel
theorem d_CL_chainPiece_44 : decode b_CL_chainPiece 44 = .ok (.return_, 1) := by decide +kernel
theorem d_CL_chainLink_0 : decode b_CL_chainLink 0 = .ok (.aload_n 1, 1) := by decide +kernel
theorem d_CL_chainLink_1 : decode b_CL_chainLink 1 = .ok (.ifnonnull (4), 3) := by decide +kernel
theorem d_CL_chainLink_4 : decode b_CL_chainLink 4 = .ok (.return_, 1) := by decide +kernel
theorem d_CL_chainLink_5 : decode b_CL_chainLink 5 = .ok (.iconst (0), 1) := by decide +kernel
theorem d_CL_chainLink_6 : decode b_CL_chainLink 6 = .ok (.istore_n 2, 1) := by decide +kernel
theorem d_CL_chainLink_7 : decode b_CL_chainLink 7 = .ok (.iload_n 2, 1) := by decide +kernel
theorem d_CL_chainLink_8 : decode b_CL_chainLink 8 = .ok (.aload_n 1, 1) := by decide +kernel
theorem d_CL_chainLink_9 : decode b_CL_chainLink 9 = .ok (.getfield 138, 3) := by decide +kernel
theorem d_CL_chainLink_12 : decode b_CL_chainLink 12 = .ok (.arraylength, 1) := by decide +kernel
theorem d_CL_chainLink_13 : decode b_CL_chainLink 13 = .ok (.if_icmp .ge (19), 3) := by decide +kernel
theorem d_CL_chainLink_16 : decode b_CL_chainLink 16 = .ok (.aload_n 0, 1) := by decide +kernel
theorem d_CL_chainLink_17 : decode b_CL_chainLink 17 = .ok (.aload_n 1, 1) := by decide +kernel
theorem d_CL_chainLink_18 : decode b_CL_chainLink 18 = .ok (.getfield 138, 3) := by decide +kernel
theorem d_CL_chainLink_21 : decode b_CL_chainLink 21 = .ok (.iload_n 2, 1) := by decide +kernel
theorem d_CL_chainLink_22 : decode b_CL_chainLink 22 = .ok (.aaload, 1) := by decide +kernel
theorem d_CL_chainLink_23 : decode b_CL_chainLink 23 = .ok (.invokevirtual 230, 3) := by decide +kernel
theorem d_CL_chainLink_26 : decode b_CL_chainLink 26 = .ok (.iinc 2 (1), 3) := by decide +kernel
theorem d_CL_chainLink_29 : decode b_CL_chainLink 29 = .ok (.goto (-22), 3) := by decide +kernel
theorem d_CL_chainLink_32 : decode b_CL_chainLink 32 = .ok (.return_, 1) := by decide +kernel
theorem d_Adjust_init_0 : decode b_Adjust_init 0 = .ok (.aload_n 0, 1) := by decide +kernel
theorem d_Adjust_init_1 : decode b_Adjust_init 1 = .ok (.iload_n 1, 1) := by decide +kernel
theorem d_Adjust_init_2 : decode b_Adjust_init 2 = .ok (.iconst (0), 1) := by decide +kernel
theorem d_Adjust_init_3 : decode b_Adjust_init 3 = .ok (.invokespecial 3, 3) := by decide +kernel
theorem d_Adjust_init_6 : decode b_Adjust_init 6 = .ok (.aload_n 0, 1) := by decide +kernel
theorem d_Adjust_init_7 : decode b_Adjust_init 7 = .ok (.aload_n 2, 1) := by decide +kernel
theorem d_Adjust_init_8 : decode b_Adjust_init 8 = .ok (.putfield 9, 3) := by decide +kernel
theorem d_Adjust_init_11 : decode b_Adjust_init 11 = .ok (.aload_n 0, 1) := by decide +kernel
theorem d_Adjust_init_12 : decode b_Adjust_init 12 = .ok (.aload_n 3, 1) := by decide +kernel
theorem d_Adjust_init_13 : decode b_Adjust_init 13 = .ok (.putfield 15, 3) := by decide +kernel
theorem d_Adjust_init_16 : decode b_Adjust_init 16 = .ok (.aload_n 0, 1) := by decide +kernel
theorem d_Adjust_init_17 : decode b_Adjust_init 17 = .ok (.iload 4, 2) := by decide +kernel
theorem d_Adjust_init_19 : decode b_Adjust_init 19 = .ok (.putfield 18, 3) := by decide +kernel
theorem d_Adjust_init_22 : decode b_Adjust_init 22 = .ok (.return_, 1) := by decide +kernel
theorem d_CL_adjustment_0 : decode b_CL_adjustment 0 = .ok (.aload_n 0, 1) := by decide +kernel
theorem d_CL_adjustment_1 : decode b_CL_adjustment 1 = .ok (.aload_n 1, 1) := by decide +kernel
theorem d_CL_adjustment_2 : decode b_CL_adjustment 2 = .ok (.iload_n 2, 1) := by decide +kernel
theorem d_CL_adjustment_3 : decode b_CL_adjustment 3 = .ok (.invokestatic 212, 3) := by decide +kernel
theorem d_CL_adjustment_6 : decode b_CL_adjustment 6 = .ok (.ifCond .eq (16), 3) := by decide +kernel
theorem d_CL_adjustment_9 : decode b_CL_adjustment 9 = .ok (.new 248, 3) := by decide +kernel
theorem d_CL_adjustment_12 : decode b_CL_adjustment 12 = .ok (.dup, 1) := by decide +kernel
theorem d_CL_adjustment_13 : decode b_CL_adjustment 13 = .ok (.bipush (7), 2) := by decide +kernel
theorem d_CL_adjustment_15 : decode b_CL_adjustment 15 = .ok (.aload_n 0, 1) := by decide +kernel
theorem d_CL_adjustment_16 : decode b_CL_adjustment 16 = .ok (.aload_n 1, 1) := by decide +kernel
theorem d_CL_adjustment_17 : decode b_CL_adjustment 17 = .ok (.iload_n 2, 1) := by decide +kernel
theorem d_CL_adjustment_18 : decode b_CL_adjustment 18 = .ok (.invokespecial 250, 3) := by decide +kernel
theorem d_CL_adjustment_21 : decode b_CL_adjustment 21 = .ok (.areturn, 1) := by decide +kernel
theorem d_CL_adjustment_22 : decode b_CL_adjustment 22 = .ok (.iload_n 3, 1) := by decide +kernel
theorem d_CL_adjustment_23 : decode b_CL_adjustment 23 = .ok (.ifCond .eq (29), 3) := by decide +kernel
theorem d_CL_adjustment_26 : decode b_CL_adjustment 26 = .ok (.aload_n 0, 1) := by decide +kernel
theorem d_CL_adjustment_27 : decode b_CL_adjustment 27 = .ok (.iload_n 2, 1) := by decide +kernel
theorem d_CL_adjustment_28 : decode b_CL_adjustment 28 = .ok (.invokevirtual 219, 3) := by decide +kernel
theorem d_CL_adjustment_31 : decode b_CL_adjustment 31 = .ok (.aload_n 1, 1) := by decide +kernel
theorem d_CL_adjustment_32 : decode b_CL_adjustment 32 = .ok (.iload_n 2, 1) := by decide +kernel
theorem d_CL_adjustment_33 : decode b_CL_adjustment 33 = .ok (.invokevirtual 219, 3) := by decide +kernel
theorem d_CL_adjustment_36 : decode b_CL_adjustment 36 = .ok (.if_icmp .eq (16), 3) := by decide +kernel
theorem d_CL_adjustment_39 : decode b_CL_adjustment 39 = .ok (.new 248, 3) := by decide +kernel
theorem d_CL_adjustment_42 : decode b_CL_adjustment 42 = .ok (.dup, 1) := by decide +kernel
theorem d_CL_adjustment_43 : decode b_CL_adjustment 43 = .ok (.bipush (8), 2) := by decide +kernel
theorem d_CL_adjustment_45 : decode b_CL_adjustment 45 = .ok (.aload_n 0, 1) := by decide +kernel
theorem d_CL_adjustment_46 : decode b_CL_adjustment 46 = .ok (.aload_n 1, 1) := by decide +kernel
theorem d_CL_adjustment_47 : decode b_CL_adjustment 47 = .ok (.iload_n 2, 1) := by decide +kernel
theorem d_CL_adjustment_48 : decode b_CL_adjustment 48 = .ok (.invokespecial 250, 3) := by decide +kernel
theorem d_CL_adjustment_51 : decode b_CL_adjustment 51 = .ok (.areturn, 1) := by decide +kernel
theorem d_CL_adjustment_52 : decode b_CL_adjustment 52 = .ok (.aconst_null, 1) := by decide +kernel
theorem d_CL_adjustment_53 : decode b_CL_adjustment 53 = .ok (.areturn, 1) := by decide +kernel
