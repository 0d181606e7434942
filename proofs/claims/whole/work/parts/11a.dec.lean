theorem d_Buffer_isHeadByte_0 : decode b_Buffer_isHeadByte 0 = .ok (.iload_n 1, 1) := by decide +kernel
theorem d_Buffer_isHeadByte_1 : decode b_Buffer_isHeadByte 1 = .ok (.tableswitch (112) (2) (6) #[(35), (51), (67), (112), (82)], 35) := by decide +kernel
theorem d_Buffer_isHeadByte_36 : decode b_Buffer_isHeadByte 36 = .ok (.iload_n 2, 1) := by decide +kernel
theorem d_Buffer_isHeadByte_37 : decode b_Buffer_isHeadByte 37 = .ok (.iconst (1), 1) := by decide +kernel
theorem d_Buffer_isHeadByte_38 : decode b_Buffer_isHeadByte 38 = .ok (.if_icmp .eq (8), 3) := by decide +kernel
theorem d_Buffer_isHeadByte_41 : decode b_Buffer_isHeadByte 41 = .ok (.iload_n 2, 1) := by decide +kernel
theorem d_Buffer_isHeadByte_42 : decode b_Buffer_isHeadByte 42 = .ok (.iconst (2), 1) := by decide +kernel
theorem d_Buffer_isHeadByte_43 : decode b_Buffer_isHeadByte 43 = .ok (.if_icmp .ne (7), 3) := by decide +kernel
theorem d_Buffer_isHeadByte_46 : decode b_Buffer_isHeadByte 46 = .ok (.iconst (1), 1) := by decide +kernel
theorem d_Buffer_isHeadByte_47 : decode b_Buffer_isHeadByte 47 = .ok (.goto (4), 3) := by decide +kernel
theorem d_Buffer_isHeadByte_50 : decode b_Buffer_isHeadByte 50 = .ok (.iconst (0), 1) := by decide +kernel
theorem d_Buffer_isHeadByte_51 : decode b_Buffer_isHeadByte 51 = .ok (.ireturn, 1) := by decide +kernel
theorem d_Buffer_isHeadByte_52 : decode b_Buffer_isHeadByte 52 = .ok (.iload_n 2, 1) := by decide +kernel
theorem d_Buffer_isHeadByte_53 : decode b_Buffer_isHeadByte 53 = .ok (.iconst (1), 1) := by decide +kernel
theorem d_Buffer_isHeadByte_54 : decode b_Buffer_isHeadByte 54 = .ok (.if_icmp .eq (8), 3) := by decide +kernel
theorem d_Buffer_isHeadByte_57 : decode b_Buffer_isHeadByte 57 = .ok (.iload_n 2, 1) := by decide +kernel
theorem d_Buffer_isHeadByte_58 : decode b_Buffer_isHeadByte 58 = .ok (.iconst (3), 1) := by decide +kernel
theorem d_Buffer_isHeadByte_59 : decode b_Buffer_isHeadByte 59 = .ok (.if_icmp .ne (7), 3) := by decide +kernel
theorem d_Buffer_isHeadByte_62 : decode b_Buffer_isHeadByte 62 = .ok (.iconst (1), 1) := by decide +kernel
theorem d_Buffer_isHeadByte_63 : decode b_Buffer_isHeadByte 63 = .ok (.goto (4), 3) := by decide +kernel
theorem d_Buffer_isHeadByte_66 : decode b_Buffer_isHeadByte 66 = .ok (.iconst (0), 1) := by decide +kernel
theorem d_Buffer_isHeadByte_67 : decode b_Buffer_isHeadByte 67 = .ok (.ireturn, 1) := by decide +kernel
theorem d_Buffer_isHeadByte_68 : decode b_Buffer_isHeadByte 68 = .ok (.iload_n 2, 1) := by decide +kernel
theorem d_Buffer_isHeadByte_69 : decode b_Buffer_isHeadByte 69 = .ok (.ifCond .eq (8), 3) := by decide +kernel
theorem d_Buffer_isHeadByte_72 : decode b_Buffer_isHeadByte 72 = .ok (.iload_n 2, 1) := by decide +kernel
theorem d_Buffer_isHeadByte_73 : decode b_Buffer_isHeadByte 73 = .ok (.iconst (1), 1) := by decide +kernel
theorem d_Buffer_isHeadByte_74 : decode b_Buffer_isHeadByte 74 = .ok (.if_icmp .ne (7), 3) := by decide +kernel
theorem d_Buffer_isHeadByte_77 : decode b_Buffer_isHeadByte 77 = .ok (.iconst (1), 1) := by decide +kernel
theorem d_Buffer_isHeadByte_78 : decode b_Buffer_isHeadByte 78 = .ok (.goto (4), 3) := by decide +kernel
theorem d_Buffer_isHeadByte_81 : decode b_Buffer_isHeadByte 81 = .ok (.iconst (0), 1) := by decide +kernel
theorem d_Buffer_isHeadByte_82 : decode b_Buffer_isHeadByte 82 = .ok (.ireturn, 1) := by decide +kernel
theorem d_Buffer_isHeadByte_83 : decode b_Buffer_isHeadByte 83 = .ok (.iload_n 2, 1) := by decide +kernel
theorem d_Buffer_isHeadByte_84 : decode b_Buffer_isHeadByte 84 = .ok (.iconst (1), 1) := by decide +kernel
theorem d_Buffer_isHeadByte_85 : decode b_Buffer_isHeadByte 85 = .ok (.if_icmp .lt (26), 3) := by decide +kernel
theorem d_Buffer_isHeadByte_88 : decode b_Buffer_isHeadByte 88 = .ok (.iload_n 2, 1) := by decide +kernel
theorem d_Buffer_isHeadByte_89 : decode b_Buffer_isHeadByte 89 = .ok (.bipush (12), 2) := by decide +kernel
theorem d_Buffer_isHeadByte_91 : decode b_Buffer_isHeadByte 91 = .ok (.if_icmp .gt (20), 3) := by decide +kernel
theorem d_Buffer_isHeadByte_94 : decode b_Buffer_isHeadByte 94 = .ok (.bipush (8), 2) := by decide +kernel
theorem d_Buffer_isHeadByte_96 : decode b_Buffer_isHeadByte 96 = .ok (.iconst (4), 1) := by decide +kernel
theorem d_Buffer_isHeadByte_97 : decode b_Buffer_isHeadByte 97 = .ok (.iload_n 2, 1) := by decide +kernel
theorem d_Buffer_isHeadByte_98 : decode b_Buffer_isHeadByte 98 = .ok (.imul, 1) := by decide +kernel
theorem d_Buffer_isHeadByte_99 : decode b_Buffer_isHeadByte 99 = .ok (.iadd, 1) := by decide +kernel
theorem d_Buffer_isHeadByte_100 : decode b_Buffer_isHeadByte 100 = .ok (.aload_n 0, 1) := by decide +kernel
theorem d_Buffer_isHeadByte_101 : decode b_Buffer_isHeadByte 101 = .ok (.getfield 15, 3) := by decide +kernel
theorem d_Buffer_isHeadByte_104 : decode b_Buffer_isHeadByte 104 = .ok (.if_icmp .gt (7), 3) := by decide +kernel
theorem d_Buffer_isHeadByte_107 : decode b_Buffer_isHeadByte 107 = .ok (.iconst (1), 1) := by decide +kernel
theorem d_Buffer_isHeadByte_108 : decode b_Buffer_isHeadByte 108 = .ok (.goto (4), 3) := by decide +kernel
theorem d_Buffer_isHeadByte_111 : decode b_Buffer_isHeadByte 111 = .ok (.iconst (0), 1) := by decide +kernel
theorem d_Buffer_isHeadByte_112 : decode b_Buffer_isHeadByte 112 = .ok (.ireturn, 1) := by decide +kernel
theorem d_Buffer_isHeadByte_113 : decode b_Buffer_isHeadByte 113 = .ok (.iload_n 2, 1) := by decide +kernel
theorem d_Buffer_isHeadByte_114 : decode b_Buffer_isHeadByte 114 = .ok (.ifCond .ne (7), 3) := by decide +kernel
theorem d_Buffer_isHeadByte_117 : decode b_Buffer_isHeadByte 117 = .ok (.iconst (1), 1) := by decide +kernel
theorem d_Buffer_isHeadByte_118 : decode b_Buffer_isHeadByte 118 = .ok (.goto (4), 3) := by decide +kernel
theorem d_Buffer_isHeadByte_121 : decode b_Buffer_isHeadByte 121 = .ok (.iconst (0), 1) := by decide +kernel
theorem d_Buffer_isHeadByte_122 : decode b_Buffer_isHeadByte 122 = .ok (.ireturn, 1) := by decide +kernel
theorem d_Buffer_headFault_0 : decode b_Buffer_headFault 0 = .ok (.iconst (2), 1) := by decide +kernel
theorem d_Buffer_headFault_1 : decode b_Buffer_headFault 1 = .ok (.istore_n 1, 1) := by decide +kernel
theorem d_Buffer_headFault_2 : decode b_Buffer_headFault 2 = .ok (.iload_n 1, 1) := by decide +kernel
theorem d_Buffer_headFault_3 : decode b_Buffer_headFault 3 = .ok (.bipush (8), 2) := by decide +kernel
theorem d_Buffer_headFault_5 : decode b_Buffer_headFault 5 = .ok (.if_icmp .ge (29), 3) := by decide +kernel
theorem d_Buffer_headFault_8 : decode b_Buffer_headFault 8 = .ok (.aload_n 0, 1) := by decide +kernel
theorem d_Buffer_headFault_9 : decode b_Buffer_headFault 9 = .ok (.iload_n 1, 1) := by decide +kernel
theorem d_Buffer_headFault_10 : decode b_Buffer_headFault 10 = .ok (.aload_n 0, 1) := by decide +kernel
theorem d_Buffer_headFault_11 : decode b_Buffer_headFault 11 = .ok (.getfield 9, 3) := by decide +kernel
theorem d_Buffer_headFault_14 : decode b_Buffer_headFault 14 = .ok (.iload_n 1, 1) := by decide +kernel
theorem d_Buffer_headFault_15 : decode b_Buffer_headFault 15 = .ok (.iaload, 1) := by decide +kernel
theorem d_Buffer_headFault_16 : decode b_Buffer_headFault 16 = .ok (.invokevirtual 50, 3) := by decide +kernel
theorem d_Buffer_headFault_19 : decode b_Buffer_headFault 19 = .ok (.ifCond .ne (9), 3) := by decide +kernel
theorem d_Buffer_headFault_22 : decode b_Buffer_headFault 22 = .ok (.iconst (2), 1) := by decide +kernel
theorem d_Buffer_headFault_23 : decode b_Buffer_headFault 23 = .ok (.iload_n 1, 1) := by decide +kernel
theorem d_Buffer_headFault_24 : decode b_Buffer_headFault 24 = .ok (.invokestatic 35, 3) := by decide +kernel
theorem d_Buffer_headFault_27 : decode b_Buffer_headFault 27 = .ok (.ireturn, 1) := by decide +kernel
theorem d_Buffer_headFault_28 : decode b_Buffer_headFault 28 = .ok (.iinc 1 (1), 3) := by decide +kernel
theorem d_Buffer_headFault_31 : decode b_Buffer_headFault 31 = .ok (.goto (-29), 3) := by decide +kernel
theorem d_Buffer_headFault_34 : decode b_Buffer_headFault 34 = .ok (.iconst (0), 1) := by decide +kernel
theorem d_Buffer_headFault_35 : decode b_Buffer_headFault 35 = .ok (.ireturn, 1) := by decide +kernel
theorem d_Buffer_hasEntry_0 : decode b_Buffer_hasEntry 0 = .ok (.iconst (0), 1) := by decide +kernel
theorem d_Buffer_hasEntry_1 : decode b_Buffer_hasEntry 1 = .ok (.istore_n 3, 1) := by decide +kernel
theorem d_Buffer_hasEntry_2 : decode b_Buffer_hasEntry 2 = .ok (.iload_n 3, 1) := by decide +kernel
theorem d_Buffer_hasEntry_3 : decode b_Buffer_hasEntry 3 = .ok (.iload_n 2, 1) := by decide +kernel
theorem d_Buffer_hasEntry_4 : decode b_Buffer_hasEntry 4 = .ok (.if_icmp .ge (26), 3) := by decide +kernel
theorem d_Buffer_hasEntry_7 : decode b_Buffer_hasEntry 7 = .ok (.aload_n 0, 1) := by decide +kernel
theorem d_Buffer_hasEntry_8 : decode b_Buffer_hasEntry 8 = .ok (.getfield 9, 3) := by decide +kernel
theorem d_Buffer_hasEntry_11 : decode b_Buffer_hasEntry 11 = .ok (.bipush (8), 2) := by decide +kernel
theorem d_Buffer_hasEntry_13 : decode b_Buffer_hasEntry 13 = .ok (.iconst (4), 1) := by decide +kernel
theorem d_Buffer_hasEntry_14 : decode b_Buffer_hasEntry 14 = .ok (.iload_n 3, 1) := by decide +kernel
theorem d_Buffer_hasEntry_15 : decode b_Buffer_hasEntry 15 = .ok (.imul, 1) := by decide +kernel
theorem d_Buffer_hasEntry_16 : decode b_Buffer_hasEntry 16 = .ok (.iadd, 1) := by decide +kernel
theorem d_Buffer_hasEntry_17 : decode b_Buffer_hasEntry 17 = .ok (.iaload, 1) := by decide +kernel
theorem d_Buffer_hasEntry_18 : decode b_Buffer_hasEntry 18 = .ok (.iload_n 1, 1) := by decide +kernel
theorem d_Buffer_hasEntry_19 : decode b_Buffer_hasEntry 19 = .ok (.if_icmp .ne (5), 3) := by decide +kernel
theorem d_Buffer_hasEntry_22 : decode b_Buffer_hasEntry 22 = .ok (.iconst (1), 1) := by decide +kernel
theorem d_Buffer_hasEntry_23 : decode b_Buffer_hasEntry 23 = .ok (.ireturn, 1) := by decide +kernel
theorem d_Buffer_hasEntry_24 : decode b_Buffer_hasEntry 24 = .ok (.iinc 3 (1), 3) := by decide +kernel
theorem d_Buffer_hasEntry_27 : decode b_Buffer_hasEntry 27 = .ok (.goto (-25), 3) := by decide +kernel
theorem d_Buffer_hasEntry_30 : decode b_Buffer_hasEntry 30 = .ok (.iconst (0), 1) := by decide +kernel
theorem d_Buffer_hasEntry_31 : decode b_Buffer_hasEntry 31 = .ok (.ireturn, 1) := by decide +kernel
theorem d_Buffer_overlapsEarlier_0 : decode b_Buffer_overlapsEarlier 0 = .ok (.iconst (0), 1) := by decide +kernel
theorem d_Buffer_overlapsEarlier_1 : decode b_Buffer_overlapsEarlier 1 = .ok (.istore 4, 2) := by decide +kernel
theorem d_Buffer_overlapsEarlier_3 : decode b_Buffer_overlapsEarlier 3 = .ok (.iload 4, 2) := by decide +kernel
theorem d_Buffer_overlapsEarlier_5 : decode b_Buffer_overlapsEarlier 5 = .ok (.iload_n 1, 1) := by decide +kernel
theorem d_Buffer_overlapsEarlier_6 : decode b_Buffer_overlapsEarlier 6 = .ok (.if_icmp .ge (92), 3) := by decide +kernel
theorem d_Buffer_overlapsEarlier_9 : decode b_Buffer_overlapsEarlier 9 = .ok (.aload_n 0, 1) := by decide +kernel
theorem d_Buffer_overlapsEarlier_10 : decode b_Buffer_overlapsEarlier 10 = .ok (.getfield 9, 3) := by decide +kernel
theorem d_Buffer_overlapsEarlier_13 : decode b_Buffer_overlapsEarlier 13 = .ok (.bipush (9), 2) := by decide +kernel
theorem d_Buffer_overlapsEarlier_15 : decode b_Buffer_overlapsEarlier 15 = .ok (.iconst (4), 1) := by decide +kernel
theorem d_Buffer_overlapsEarlier_16 : decode b_Buffer_overlapsEarlier 16 = .ok (.iload 4, 2) := by decide +kernel
theorem d_Buffer_overlapsEarlier_18 : decode b_Buffer_overlapsEarlier 18 = .ok (.imul, 1) := by decide +kernel
theorem d_Buffer_overlapsEarlier_19 : decode b_Buffer_overlapsEarlier 19 = .ok (.iadd, 1) := by decide +kernel
theorem d_Buffer_overlapsEarlier_20 : decode b_Buffer_overlapsEarlier 20 = .ok (.iaload, 1) := by decide +kernel
theorem d_Buffer_overlapsEarlier_21 : decode b_Buffer_overlapsEarlier 21 = .ok (.istore 5, 2) := by decide +kernel
theorem d_Buffer_overlapsEarlier_23 : decode b_Buffer_overlapsEarlier 23 = .ok (.aload_n 0, 1) := by decide +kernel
theorem d_Buffer_overlapsEarlier_24 : decode b_Buffer_overlapsEarlier 24 = .ok (.getfield 9, 3) := by decide +kernel
theorem d_Buffer_overlapsEarlier_27 : decode b_Buffer_overlapsEarlier 27 = .ok (.bipush (10), 2) := by decide +kernel
theorem d_Buffer_overlapsEarlier_29 : decode b_Buffer_overlapsEarlier 29 = .ok (.iconst (4), 1) := by decide +kernel
theorem d_Buffer_overlapsEarlier_30 : decode b_Buffer_overlapsEarlier 30 = .ok (.iload 4, 2) := by decide +kernel
theorem d_Buffer_overlapsEarlier_32 : decode b_Buffer_overlapsEarlier 32 = .ok (.imul, 1) := by decide +kernel
theorem d_Buffer_overlapsEarlier_33 : decode b_Buffer_overlapsEarlier 33 = .ok (.iadd, 1) := by decide +kernel
theorem d_Buffer_overlapsEarlier_34 : decode b_Buffer_overlapsEarlier 34 = .ok (.iaload, 1) := by decide +kernel
theorem d_Buffer_overlapsEarlier_35 : decode b_Buffer_overlapsEarlier 35 = .ok (.istore 6, 2) := by decide +kernel
theorem d_Buffer_overlapsEarlier_37 : decode b_Buffer_overlapsEarlier 37 = .ok (.iload 5, 2) := by decide +kernel
theorem d_Buffer_overlapsEarlier_39 : decode b_Buffer_overlapsEarlier 39 = .ok (.iload_n 2, 1) := by decide +kernel
theorem d_Buffer_overlapsEarlier_40 : decode b_Buffer_overlapsEarlier 40 = .ok (.if_icmp .ne (13), 3) := by decide +kernel
theorem d_Buffer_overlapsEarlier_43 : decode b_Buffer_overlapsEarlier 43 = .ok (.iload 6, 2) := by decide +kernel
theorem d_Buffer_overlapsEarlier_45 : decode b_Buffer_overlapsEarlier 45 = .ok (.iload_n 3, 1) := by decide +kernel
theorem d_Buffer_overlapsEarlier_46 : decode b_Buffer_overlapsEarlier 46 = .ok (.if_icmp .ne (7), 3) := by decide +kernel
theorem d_Buffer_overlapsEarlier_49 : decode b_Buffer_overlapsEarlier 49 = .ok (.iconst (1), 1) := by decide +kernel
theorem d_Buffer_overlapsEarlier_50 : decode b_Buffer_overlapsEarlier 50 = .ok (.goto (4), 3) := by decide +kernel
theorem d_Buffer_overlapsEarlier_53 : decode b_Buffer_overlapsEarlier 53 = .ok (.iconst (0), 1) := by decide +kernel
theorem d_Buffer_overlapsEarlier_54 : decode b_Buffer_overlapsEarlier 54 = .ok (.istore 7, 2) := by decide +kernel
theorem d_Buffer_overlapsEarlier_56 : decode b_Buffer_overlapsEarlier 56 = .ok (.iload 5, 2) := by decide +kernel
theorem d_Buffer_overlapsEarlier_58 : decode b_Buffer_overlapsEarlier 58 = .ok (.iload 6, 2) := by decide +kernel
theorem d_Buffer_overlapsEarlier_60 : decode b_Buffer_overlapsEarlier 60 = .ok (.iadd, 1) := by decide +kernel
theorem d_Buffer_overlapsEarlier_61 : decode b_Buffer_overlapsEarlier 61 = .ok (.iload_n 2, 1) := by decide +kernel
theorem d_Buffer_overlapsEarlier_62 : decode b_Buffer_overlapsEarlier 62 = .ok (.if_icmp .le (11), 3) := by decide +kernel
theorem d_Buffer_overlapsEarlier_65 : decode b_Buffer_overlapsEarlier 65 = .ok (.iload_n 2, 1) := by decide +kernel
theorem d_Buffer_overlapsEarlier_66 : decode b_Buffer_overlapsEarlier 66 = .ok (.iload_n 3, 1) := by decide +kernel
theorem d_Buffer_overlapsEarlier_67 : decode b_Buffer_overlapsEarlier 67 = .ok (.iadd, 1) := by decide +kernel
theorem d_Buffer_overlapsEarlier_68 : decode b_Buffer_overlapsEarlier 68 = .ok (.iload 5, 2) := by decide +kernel
theorem d_Buffer_overlapsEarlier_70 : decode b_Buffer_overlapsEarlier 70 = .ok (.if_icmp .gt (7), 3) := by decide +kernel
theorem d_Buffer_overlapsEarlier_73 : decode b_Buffer_overlapsEarlier 73 = .ok (.iconst (1), 1) := by decide +kernel
theorem d_Buffer_overlapsEarlier_74 : decode b_Buffer_overlapsEarlier 74 = .ok (.goto (4), 3) := by decide +kernel
theorem d_Buffer_overlapsEarlier_77 : decode b_Buffer_overlapsEarlier 77 = .ok (.iconst (0), 1) := by decide +kernel
theorem d_Buffer_overlapsEarlier_78 : decode b_Buffer_overlapsEarlier 78 = .ok (.istore 8, 2) := by decide +kernel
theorem d_Buffer_overlapsEarlier_80 : decode b_Buffer_overlapsEarlier 80 = .ok (.iload 7, 2) := by decide +kernel
theorem d_Buffer_overlapsEarlier_82 : decode b_Buffer_overlapsEarlier 82 = .ok (.ifCond .ne (10), 3) := by decide +kernel
theorem d_Buffer_overlapsEarlier_85 : decode b_Buffer_overlapsEarlier 85 = .ok (.iload 8, 2) := by decide +kernel
theorem d_Buffer_overlapsEarlier_87 : decode b_Buffer_overlapsEarlier 87 = .ok (.ifCond .ne (5), 3) := by decide +kernel
theorem d_Buffer_overlapsEarlier_90 : decode b_Buffer_overlapsEarlier 90 = .ok (.iconst (1), 1) := by decide +kernel
theorem d_Buffer_overlapsEarlier_91 : decode b_Buffer_overlapsEarlier 91 = .ok (.ireturn, 1) := by decide +kernel
theorem d_Buffer_overlapsEarlier_92 : decode b_Buffer_overlapsEarlier 92 = .ok (.iinc 4 (1), 3) := by decide +kernel
theorem d_Buffer_overlapsEarlier_95 : decode b_Buffer_overlapsEarlier 95 = .ok (.goto (-92), 3) := by decide +kernel
theorem d_Buffer_overlapsEarlier_98 : decode b_Buffer_overlapsEarlier 98 = .ok (.iconst (0), 1) := by decide +kernel
theorem d_Buffer_overlapsEarlier_99 : decode b_Buffer_overlapsEarlier 99 = .ok (.ireturn, 1) := by decide +kernel
theorem d_Buffer_isTypeFor_0 : decode b_Buffer_isTypeFor 0 = .ok (.iload_n 0, 1) := by decide +kernel
theorem d_Buffer_isTypeFor_1 : decode b_Buffer_isTypeFor 1 = .ok (.iconst (4), 1) := by decide +kernel
theorem d_Buffer_isTypeFor_2 : decode b_Buffer_isTypeFor 2 = .ok (.if_icmp .gt (19), 3) := by decide +kernel
theorem d_Buffer_isTypeFor_5 : decode b_Buffer_isTypeFor 5 = .ok (.iload_n 1, 1) := by decide +kernel
theorem d_Buffer_isTypeFor_6 : decode b_Buffer_isTypeFor 6 = .ok (.iconst (1), 1) := by decide +kernel
theorem d_Buffer_isTypeFor_7 : decode b_Buffer_isTypeFor 7 = .ok (.if_icmp .eq (8), 3) := by decide +kernel
theorem d_Buffer_isTypeFor_10 : decode b_Buffer_isTypeFor 10 = .ok (.iload_n 1, 1) := by decide +kernel
theorem d_Buffer_isTypeFor_11 : decode b_Buffer_isTypeFor 11 = .ok (.iconst (2), 1) := by decide +kernel
theorem d_Buffer_isTypeFor_12 : decode b_Buffer_isTypeFor 12 = .ok (.if_icmp .ne (7), 3) := by decide +kernel
theorem d_Buffer_isTypeFor_15 : decode b_Buffer_isTypeFor 15 = .ok (.iconst (1), 1) := by decide +kernel
theorem d_Buffer_isTypeFor_16 : decode b_Buffer_isTypeFor 16 = .ok (.goto (4), 3) := by decide +kernel
theorem d_Buffer_isTypeFor_19 : decode b_Buffer_isTypeFor 19 = .ok (.iconst (0), 1) := by decide +kernel
theorem d_Buffer_isTypeFor_20 : decode b_Buffer_isTypeFor 20 = .ok (.ireturn, 1) := by decide +kernel
theorem d_Buffer_isTypeFor_21 : decode b_Buffer_isTypeFor 21 = .ok (.iload_n 0, 1) := by decide +kernel
theorem d_Buffer_isTypeFor_22 : decode b_Buffer_isTypeFor 22 = .ok (.iconst (5), 1) := by decide +kernel
theorem d_Buffer_isTypeFor_23 : decode b_Buffer_isTypeFor 23 = .ok (.if_icmp .ne (14), 3) := by decide +kernel
theorem d_Buffer_isTypeFor_26 : decode b_Buffer_isTypeFor 26 = .ok (.iload_n 1, 1) := by decide +kernel
theorem d_Buffer_isTypeFor_27 : decode b_Buffer_isTypeFor 27 = .ok (.iconst (3), 1) := by decide +kernel
theorem d_Buffer_isTypeFor_28 : decode b_Buffer_isTypeFor 28 = .ok (.if_icmp .ne (7), 3) := by decide +kernel
theorem d_Buffer_isTypeFor_31 : decode b_Buffer_isTypeFor 31 = .ok (.iconst (1), 1) := by decide +kernel
theorem d_Buffer_isTypeFor_32 : decode b_Buffer_isTypeFor 32 = .ok (.goto (4), 3) := by decide +kernel
theorem d_Buffer_isTypeFor_35 : decode b_Buffer_isTypeFor 35 = .ok (.iconst (0), 1) := by decide +kernel
theorem d_Buffer_isTypeFor_36 : decode b_Buffer_isTypeFor 36 = .ok (.ireturn, 1) := by decide +kernel
theorem d_Buffer_isTypeFor_37 : decode b_Buffer_isTypeFor 37 = .ok (.iload_n 1, 1) := by decide +kernel
theorem d_Buffer_isTypeFor_38 : decode b_Buffer_isTypeFor 38 = .ok (.iload_n 0, 1) := by decide +kernel
theorem d_Buffer_isTypeFor_39 : decode b_Buffer_isTypeFor 39 = .ok (.bipush (11), 2) := by decide +kernel
theorem d_Buffer_isTypeFor_41 : decode b_Buffer_isTypeFor 41 = .ok (.if_icmp .gt (7), 3) := by decide +kernel
theorem d_Buffer_isTypeFor_44 : decode b_Buffer_isTypeFor 44 = .ok (.iconst (4), 1) := by decide +kernel
theorem d_Buffer_isTypeFor_45 : decode b_Buffer_isTypeFor 45 = .ok (.goto (4), 3) := by decide +kernel
theorem d_Buffer_isTypeFor_48 : decode b_Buffer_isTypeFor 48 = .ok (.iconst (5), 1) := by decide +kernel
theorem d_Buffer_isTypeFor_49 : decode b_Buffer_isTypeFor 49 = .ok (.if_icmp .ne (7), 3) := by decide +kernel
theorem d_Buffer_isTypeFor_52 : decode b_Buffer_isTypeFor 52 = .ok (.iconst (1), 1) := by decide +kernel
theorem d_Buffer_isTypeFor_53 : decode b_Buffer_isTypeFor 53 = .ok (.goto (4), 3) := by decide +kernel
theorem d_Buffer_isTypeFor_56 : decode b_Buffer_isTypeFor 56 = .ok (.iconst (0), 1) := by decide +kernel
theorem d_Buffer_isTypeFor_57 : decode b_Buffer_isTypeFor 57 = .ok (.ireturn, 1) := by decide +kernel
theorem d_Buffer_isLengthFor_0 : decode b_Buffer_isLengthFor 0 = .ok (.iload_n 0, 1) := by decide +kernel
theorem d_Buffer_isLengthFor_1 : decode b_Buffer_isLengthFor 1 = .ok (.tableswitch (124) (1) (4) #[(31), (57), (79), (95)], 31) := by decide +kernel
theorem d_Buffer_isLengthFor_32 : decode b_Buffer_isLengthFor 32 = .ok (.iload_n 1, 1) := by decide +kernel
theorem d_Buffer_isLengthFor_33 : decode b_Buffer_isLengthFor 33 = .ok (.bipush (24), 2) := by decide +kernel
theorem d_Buffer_isLengthFor_35 : decode b_Buffer_isLengthFor 35 = .ok (.if_icmp .gt (21), 3) := by decide +kernel
theorem d_Buffer_isLengthFor_38 : decode b_Buffer_isLengthFor 38 = .ok (.iload_n 1, 1) := by decide +kernel
theorem d_Buffer_isLengthFor_39 : decode b_Buffer_isLengthFor 39 = .ok (.iconst (1), 1) := by decide +kernel
theorem d_Buffer_isLengthFor_40 : decode b_Buffer_isLengthFor 40 = .ok (.if_icmp .eq (16), 3) := by decide +kernel
theorem d_Buffer_isLengthFor_43 : decode b_Buffer_isLengthFor 43 = .ok (.iload_n 2, 1) := by decide +kernel
theorem d_Buffer_isLengthFor_44 : decode b_Buffer_isLengthFor 44 = .ok (.iconst (2), 1) := by decide +kernel
theorem d_Buffer_isLengthFor_45 : decode b_Buffer_isLengthFor 45 = .ok (.iconst (2), 1) := by decide +kernel
theorem d_Buffer_isLengthFor_46 : decode b_Buffer_isLengthFor 46 = .ok (.iload_n 1, 1) := by decide +kernel
theorem d_Buffer_isLengthFor_47 : decode b_Buffer_isLengthFor 47 = .ok (.imul, 1) := by decide +kernel
theorem d_Buffer_isLengthFor_48 : decode b_Buffer_isLengthFor 48 = .ok (.iadd, 1) := by decide +kernel
theorem d_Buffer_isLengthFor_49 : decode b_Buffer_isLengthFor 49 = .ok (.if_icmp .ne (7), 3) := by decide +kernel
theorem d_Buffer_isLengthFor_52 : decode b_Buffer_isLengthFor 52 = .ok (.iconst (1), 1) := by decide +kernel
theorem d_Buffer_isLengthFor_53 : decode b_Buffer_isLengthFor 53 = .ok (.goto (4), 3) := by decide +kernel
theorem d_Buffer_isLengthFor_56 : decode b_Buffer_isLengthFor 56 = .ok (.iconst (0), 1) := by decide +kernel
theorem d_Buffer_isLengthFor_57 : decode b_Buffer_isLengthFor 57 = .ok (.ireturn, 1) := by decide +kernel
theorem d_Buffer_isLengthFor_58 : decode b_Buffer_isLengthFor 58 = .ok (.iload_n 1, 1) := by decide +kernel
theorem d_Buffer_isLengthFor_59 : decode b_Buffer_isLengthFor 59 = .ok (.iconst (1), 1) := by decide +kernel
theorem d_Buffer_isLengthFor_60 : decode b_Buffer_isLengthFor 60 = .ok (.if_icmp .lt (18), 3) := by decide +kernel
theorem d_Buffer_isLengthFor_63 : decode b_Buffer_isLengthFor 63 = .ok (.iload_n 1, 1) := by decide +kernel
theorem d_Buffer_isLengthFor_64 : decode b_Buffer_isLengthFor 64 = .ok (.iconst (4), 1) := by decide +kernel
theorem d_Buffer_isLengthFor_65 : decode b_Buffer_isLengthFor 65 = .ok (.if_icmp .gt (13), 3) := by decide +kernel
theorem d_Buffer_isLengthFor_68 : decode b_Buffer_isLengthFor 68 = .ok (.iload_n 2, 1) := by decide +kernel
theorem d_Buffer_isLengthFor_69 : decode b_Buffer_isLengthFor 69 = .ok (.bipush (6), 2) := by decide +kernel
theorem d_Buffer_isLengthFor_71 : decode b_Buffer_isLengthFor 71 = .ok (.if_icmp .ne (7), 3) := by decide +kernel
theorem d_Buffer_isLengthFor_74 : decode b_Buffer_isLengthFor 74 = .ok (.iconst (1), 1) := by decide +kernel
theorem d_Buffer_isLengthFor_75 : decode b_Buffer_isLengthFor 75 = .ok (.goto (4), 3) := by decide +kernel
theorem d_Buffer_isLengthFor_78 : decode b_Buffer_isLengthFor 78 = .ok (.iconst (0), 1) := by decide +kernel
theorem d_Buffer_isLengthFor_79 : decode b_Buffer_isLengthFor 79 = .ok (.ireturn, 1) := by decide +kernel
theorem d_Buffer_isLengthFor_80 : decode b_Buffer_isLengthFor 80 = .ok (.iload_n 1, 1) := by decide +kernel
theorem d_Buffer_isLengthFor_81 : decode b_Buffer_isLengthFor 81 = .ok (.ifCond .ne (13), 3) := by decide +kernel
theorem d_Buffer_isLengthFor_84 : decode b_Buffer_isLengthFor 84 = .ok (.iload_n 2, 1) := by decide +kernel
theorem d_Buffer_isLengthFor_85 : decode b_Buffer_isLengthFor 85 = .ok (.bipush (20), 2) := by decide +kernel
theorem d_Buffer_isLengthFor_87 : decode b_Buffer_isLengthFor 87 = .ok (.if_icmp .ne (7), 3) := by decide +kernel
theorem d_Buffer_isLengthFor_90 : decode b_Buffer_isLengthFor 90 = .ok (.iconst (1), 1) := by decide +kernel
theorem d_Buffer_isLengthFor_91 : decode b_Buffer_isLengthFor 91 = .ok (.goto (4), 3) := by decide +kernel
theorem d_Buffer_isLengthFor_94 : decode b_Buffer_isLengthFor 94 = .ok (.iconst (0), 1) := by decide +kernel
theorem d_Buffer_isLengthFor_95 : decode b_Buffer_isLengthFor 95 = .ok (.ireturn, 1) := by decide +kernel
theorem d_Buffer_isLengthFor_96 : decode b_Buffer_isLengthFor 96 = .ok (.iload_n 1, 1) := by decide +kernel
theorem d_Buffer_isLengthFor_97 : decode b_Buffer_isLengthFor 97 = .ok (.iconst (2), 1) := by decide +kernel
theorem d_Buffer_isLengthFor_98 : decode b_Buffer_isLengthFor 98 = .ok (.if_icmp .eq (8), 3) := by decide +kernel
theorem d_Buffer_isLengthFor_101 : decode b_Buffer_isLengthFor 101 = .ok (.iload_n 1, 1) := by decide +kernel
theorem d_Buffer_isLengthFor_102 : decode b_Buffer_isLengthFor 102 = .ok (.iconst (3), 1) := by decide +kernel
theorem d_Buffer_isLengthFor_103 : decode b_Buffer_isLengthFor 103 = .ok (.if_icmp .ne (20), 3) := by decide +kernel
theorem d_Buffer_isLengthFor_106 : decode b_Buffer_isLengthFor 106 = .ok (.iload_n 2, 1) := by decide +kernel
theorem d_Buffer_isLengthFor_107 : decode b_Buffer_isLengthFor 107 = .ok (.iconst (2), 1) := by decide +kernel
theorem d_Buffer_isLengthFor_108 : decode b_Buffer_isLengthFor 108 = .ok (.iconst (3), 1) := by decide +kernel
theorem d_Buffer_isLengthFor_109 : decode b_Buffer_isLengthFor 109 = .ok (.iload_n 1, 1) := by decide +kernel
theorem d_Buffer_isLengthFor_110 : decode b_Buffer_isLengthFor 110 = .ok (.imul, 1) := by decide +kernel
theorem d_Buffer_isLengthFor_111 : decode b_Buffer_isLengthFor 111 = .ok (.iload_n 1, 1) := by decide +kernel
theorem d_Buffer_isLengthFor_112 : decode b_Buffer_isLengthFor 112 = .ok (.imul, 1) := by decide +kernel
theorem d_Buffer_isLengthFor_113 : decode b_Buffer_isLengthFor 113 = .ok (.iload_n 1, 1) := by decide +kernel
theorem d_Buffer_isLengthFor_114 : decode b_Buffer_isLengthFor 114 = .ok (.imul, 1) := by decide +kernel
theorem d_Buffer_isLengthFor_115 : decode b_Buffer_isLengthFor 115 = .ok (.iadd, 1) := by decide +kernel
theorem d_Buffer_isLengthFor_116 : decode b_Buffer_isLengthFor 116 = .ok (.if_icmp .ne (7), 3) := by decide +kernel
theorem d_Buffer_isLengthFor_119 : decode b_Buffer_isLengthFor 119 = .ok (.iconst (1), 1) := by decide +kernel
theorem d_Buffer_isLengthFor_120 : decode b_Buffer_isLengthFor 120 = .ok (.goto (4), 3) := by decide +kernel
theorem d_Buffer_isLengthFor_123 : decode b_Buffer_isLengthFor 123 = .ok (.iconst (0), 1) := by decide +kernel
theorem d_Buffer_isLengthFor_124 : decode b_Buffer_isLengthFor 124 = .ok (.ireturn, 1) := by decide +kernel
theorem d_Buffer_isLengthFor_125 : decode b_Buffer_isLengthFor 125 = .ok (.iload_n 1, 1) := by decide +kernel
theorem d_Buffer_isLengthFor_126 : decode b_Buffer_isLengthFor 126 = .ok (.ifCond .ne (13), 3) := by decide +kernel
theorem d_Buffer_isLengthFor_129 : decode b_Buffer_isLengthFor 129 = .ok (.iload_n 2, 1) := by decide +kernel
theorem d_Buffer_isLengthFor_130 : decode b_Buffer_isLengthFor 130 = .ok (.bipush (8), 2) := by decide +kernel
theorem d_Buffer_isLengthFor_132 : decode b_Buffer_isLengthFor 132 = .ok (.if_icmp .ne (7), 3) := by decide +kernel
theorem d_Buffer_isLengthFor_135 : decode b_Buffer_isLengthFor 135 = .ok (.iconst (1), 1) := by decide +kernel
theorem d_Buffer_isLengthFor_136 : decode b_Buffer_isLengthFor 136 = .ok (.goto (4), 3) := by decide +kernel
theorem d_Buffer_isLengthFor_139 : decode b_Buffer_isLengthFor 139 = .ok (.iconst (0), 1) := by decide +kernel
theorem d_Buffer_isLengthFor_140 : decode b_Buffer_isLengthFor 140 = .ok (.ireturn, 1) := by decide +kernel
