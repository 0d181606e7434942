theorem d_CL_chainPassage_0 : decode b_CL_chainPassage 0 = .ok (.aload_n 0, 1) := by decide +kernel
theorem d_CL_chainPassage_1 : decode b_CL_chainPassage 1 = .ok (.aload_n 1, 1) := by decide +kernel
theorem d_CL_chainPassage_2 : decode b_CL_chainPassage 2 = .ok (.iload_n 3, 1) := by decide +kernel
theorem d_CL_chainPassage_3 : decode b_CL_chainPassage 3 = .ok (.iconst (0), 1) := by decide +kernel
theorem d_CL_chainPassage_4 : decode b_CL_chainPassage 4 = .ok (.invokevirtual 234, 3) := by decide +kernel
theorem d_CL_chainPassage_7 : decode b_CL_chainPassage 7 = .ok (.invokevirtual 230, 3) := by decide +kernel
theorem d_CL_chainPassage_10 : decode b_CL_chainPassage 10 = .ok (.aload_n 0, 1) := by decide +kernel
theorem d_CL_chainPassage_11 : decode b_CL_chainPassage 11 = .ok (.aload_n 1, 1) := by decide +kernel
theorem d_CL_chainPassage_12 : decode b_CL_chainPassage 12 = .ok (.iload_n 3, 1) := by decide +kernel
theorem d_CL_chainPassage_13 : decode b_CL_chainPassage 13 = .ok (.iconst (1), 1) := by decide +kernel
theorem d_CL_chainPassage_14 : decode b_CL_chainPassage 14 = .ok (.invokevirtual 234, 3) := by decide +kernel
theorem d_CL_chainPassage_17 : decode b_CL_chainPassage 17 = .ok (.invokevirtual 230, 3) := by decide +kernel
theorem d_CL_chainPassage_20 : decode b_CL_chainPassage 20 = .ok (.aload_n 1, 1) := by decide +kernel
theorem d_CL_chainPassage_21 : decode b_CL_chainPassage 21 = .ok (.invokevirtual 237, 3) := by decide +kernel
theorem d_CL_chainPassage_24 : decode b_CL_chainPassage 24 = .ok (.istore 5, 2) := by decide +kernel
theorem d_CL_chainPassage_26 : decode b_CL_chainPassage 26 = .ok (.aload_n 1, 1) := by decide +kernel
theorem d_CL_chainPassage_27 : decode b_CL_chainPassage 27 = .ok (.aload_n 2, 1) := by decide +kernel
theorem d_CL_chainPassage_28 : decode b_CL_chainPassage 28 = .ok (.iload_n 3, 1) := by decide +kernel
theorem d_CL_chainPassage_29 : decode b_CL_chainPassage 29 = .ok (.iload 4, 2) := by decide +kernel
theorem d_CL_chainPassage_31 : decode b_CL_chainPassage 31 = .ok (.invokestatic 240, 3) := by decide +kernel
theorem d_CL_chainPassage_34 : decode b_CL_chainPassage 34 = .ok (.astore 6, 2) := by decide +kernel
theorem d_CL_chainPassage_36 : decode b_CL_chainPassage 36 = .ok (.aload 6, 2) := by decide +kernel
theorem d_CL_chainPassage_38 : decode b_CL_chainPassage 38 = .ok (.ifnull (30), 3) := by decide +kernel
theorem d_CL_chainPassage_41 : decode b_CL_chainPassage 41 = .ok (.aload_n 0, 1) := by decide +kernel
theorem d_CL_chainPassage_42 : decode b_CL_chainPassage 42 = .ok (.iload 5, 2) := by decide +kernel
theorem d_CL_chainPassage_44 : decode b_CL_chainPassage 44 = .ok (.iconst (1), 1) := by decide +kernel
theorem d_CL_chainPassage_45 : decode b_CL_chainPassage 45 = .ok (.if_icmp .ne (10), 3) := by decide +kernel
theorem d_CL_chainPassage_48 : decode b_CL_chainPassage 48 = .ok (.aload_n 0, 1) := by decide +kernel
theorem d_CL_chainPassage_49 : decode b_CL_chainPassage 49 = .ok (.getfield 37, 3) := by decide +kernel
theorem d_CL_chainPassage_52 : decode b_CL_chainPassage 52 = .ok (.goto (4), 3) := by decide +kernel
theorem d_CL_chainPassage_55 : decode b_CL_chainPassage 55 = .ok (.aconst_null, 1) := by decide +kernel
theorem d_CL_chainPassage_56 : decode b_CL_chainPassage 56 = .ok (.invokevirtual 230, 3) := by decide +kernel
theorem d_CL_chainPassage_59 : decode b_CL_chainPassage 59 = .ok (.aload_n 0, 1) := by decide +kernel
theorem d_CL_chainPassage_60 : decode b_CL_chainPassage 60 = .ok (.aload 6, 2) := by decide +kernel
theorem d_CL_chainPassage_62 : decode b_CL_chainPassage 62 = .ok (.invokevirtual 230, 3) := by decide +kernel
theorem d_CL_chainPassage_65 : decode b_CL_chainPassage 65 = .ok (.iconst (0), 1) := by decide +kernel
theorem d_CL_chainPassage_66 : decode b_CL_chainPassage 66 = .ok (.istore 5, 2) := by decide +kernel
theorem d_CL_chainPassage_68 : decode b_CL_chainPassage 68 = .ok (.iload 5, 2) := by decide +kernel
theorem d_CL_chainPassage_70 : decode b_CL_chainPassage 70 = .ok (.aload_n 2, 1) := by decide +kernel
theorem d_CL_chainPassage_71 : decode b_CL_chainPassage 71 = .ok (.invokevirtual 237, 3) := by decide +kernel
theorem d_CL_chainPassage_74 : decode b_CL_chainPassage 74 = .ok (.if_icmp .eq (24), 3) := by decide +kernel
theorem d_CL_chainPassage_77 : decode b_CL_chainPassage 77 = .ok (.aload_n 0, 1) := by decide +kernel
theorem d_CL_chainPassage_78 : decode b_CL_chainPassage 78 = .ok (.iload 5, 2) := by decide +kernel
theorem d_CL_chainPassage_80 : decode b_CL_chainPassage 80 = .ok (.iconst (1), 1) := by decide +kernel
theorem d_CL_chainPassage_81 : decode b_CL_chainPassage 81 = .ok (.if_icmp .ne (10), 3) := by decide +kernel
theorem d_CL_chainPassage_84 : decode b_CL_chainPassage 84 = .ok (.aload_n 0, 1) := by decide +kernel
theorem d_CL_chainPassage_85 : decode b_CL_chainPassage 85 = .ok (.getfield 37, 3) := by decide +kernel
theorem d_CL_chainPassage_88 : decode b_CL_chainPassage 88 = .ok (.goto (7), 3) := by decide +kernel
theorem d_CL_chainPassage_91 : decode b_CL_chainPassage 91 = .ok (.aload_n 0, 1) := by decide +kernel
theorem d_CL_chainPassage_92 : decode b_CL_chainPassage 92 = .ok (.getfield 33, 3) := by decide +kernel
theorem d_CL_chainPassage_95 : decode b_CL_chainPassage 95 = .ok (.invokevirtual 230, 3) := by decide +kernel
theorem d_CL_chainPassage_98 : decode b_CL_chainPassage 98 = .ok (.aload_n 0, 1) := by decide +kernel
theorem d_CL_chainPassage_99 : decode b_CL_chainPassage 99 = .ok (.aload_n 2, 1) := by decide +kernel
theorem d_CL_chainPassage_100 : decode b_CL_chainPassage 100 = .ok (.iload_n 3, 1) := by decide +kernel
theorem d_CL_chainPassage_101 : decode b_CL_chainPassage 101 = .ok (.iconst (0), 1) := by decide +kernel
theorem d_CL_chainPassage_102 : decode b_CL_chainPassage 102 = .ok (.invokevirtual 198, 3) := by decide +kernel
theorem d_CL_chainPassage_105 : decode b_CL_chainPassage 105 = .ok (.invokevirtual 230, 3) := by decide +kernel
theorem d_CL_chainPassage_108 : decode b_CL_chainPassage 108 = .ok (.aload_n 0, 1) := by decide +kernel
theorem d_CL_chainPassage_109 : decode b_CL_chainPassage 109 = .ok (.aload_n 2, 1) := by decide +kernel
theorem d_CL_chainPassage_110 : decode b_CL_chainPassage 110 = .ok (.iload_n 3, 1) := by decide +kernel
theorem d_CL_chainPassage_111 : decode b_CL_chainPassage 111 = .ok (.iconst (1), 1) := by decide +kernel
theorem d_CL_chainPassage_112 : decode b_CL_chainPassage 112 = .ok (.invokevirtual 198, 3) := by decide +kernel
theorem d_CL_chainPassage_115 : decode b_CL_chainPassage 115 = .ok (.invokevirtual 230, 3) := by decide +kernel
theorem d_CL_chainPassage_118 : decode b_CL_chainPassage 118 = .ok (.return_, 1) := by decide +kernel
theorem d_Link_init_0 : decode b_Link_init 0 = .ok (.aload_n 0, 1) := by decide +kernel
theorem d_Link_init_1 : decode b_Link_init 1 = .ok (.invokespecial 3, 3) := by decide +kernel
theorem d_Link_init_4 : decode b_Link_init 4 = .ok (.aload_n 0, 1) := by decide +kernel
theorem d_Link_init_5 : decode b_Link_init 5 = .ok (.ldc2_w 9, 3) := by decide +kernel
theorem d_Link_init_8 : decode b_Link_init 8 = .ok (.putfield 11, 3) := by decide +kernel
theorem d_Link_init_11 : decode b_Link_init 11 = .ok (.aload_n 0, 1) := by decide +kernel
theorem d_Link_init_12 : decode b_Link_init 12 = .ok (.ldc2_w 9, 3) := by decide +kernel
theorem d_Link_init_15 : decode b_Link_init 15 = .ok (.putfield 17, 3) := by decide +kernel
theorem d_Link_init_18 : decode b_Link_init 18 = .ok (.aload_n 0, 1) := by decide +kernel
theorem d_Link_init_19 : decode b_Link_init 19 = .ok (.aload_n 1, 1) := by decide +kernel
theorem d_Link_init_20 : decode b_Link_init 20 = .ok (.putfield 20, 3) := by decide +kernel
theorem d_Link_init_23 : decode b_Link_init 23 = .ok (.aload_n 0, 1) := by decide +kernel
theorem d_Link_init_24 : decode b_Link_init 24 = .ok (.aload_n 2, 1) := by decide +kernel
theorem d_Link_init_25 : decode b_Link_init 25 = .ok (.putfield 24, 3) := by decide +kernel
theorem d_Link_init_28 : decode b_Link_init 28 = .ok (.aload_n 0, 1) := by decide +kernel
theorem d_Link_init_29 : decode b_Link_init 29 = .ok (.aload_n 3, 1) := by decide +kernel
theorem d_Link_init_30 : decode b_Link_init 30 = .ok (.putfield 28, 3) := by decide +kernel
theorem d_Link_init_33 : decode b_Link_init 33 = .ok (.aload_n 0, 1) := by decide +kernel
theorem d_Link_init_34 : decode b_Link_init 34 = .ok (.iload 4, 2) := by decide +kernel
theorem d_Link_init_36 : decode b_Link_init 36 = .ok (.putfield 31, 3) := by decide +kernel
theorem d_Link_init_39 : decode b_Link_init 39 = .ok (.aload_n 0, 1) := by decide +kernel
theorem d_Link_init_40 : decode b_Link_init 40 = .ok (.iload 5, 2) := by decide +kernel
theorem d_Link_init_42 : decode b_Link_init 42 = .ok (.putfield 35, 3) := by decide +kernel
theorem d_Link_init_45 : decode b_Link_init 45 = .ok (.aload_n 0, 1) := by decide +kernel
theorem d_Link_init_46 : decode b_Link_init 46 = .ok (.aload_n 1, 1) := by decide +kernel
theorem d_Link_init_47 : decode b_Link_init 47 = .ok (.ifnonnull (7), 3) := by decide +kernel
theorem d_Link_init_50 : decode b_Link_init 50 = .ok (.aload_n 2, 1) := by decide +kernel
theorem d_Link_init_51 : decode b_Link_init 51 = .ok (.goto (7), 3) := by decide +kernel
theorem d_Link_init_54 : decode b_Link_init 54 = .ok (.aload_n 1, 1) := by decide +kernel
theorem d_Link_init_55 : decode b_Link_init 55 = .ok (.getfield 39, 3) := by decide +kernel
theorem d_Link_init_58 : decode b_Link_init 58 = .ok (.putfield 39, 3) := by decide +kernel
theorem d_Link_init_61 : decode b_Link_init 61 = .ok (.aload_n 0, 1) := by decide +kernel
theorem d_Link_init_62 : decode b_Link_init 62 = .ok (.iload 7, 2) := by decide +kernel
theorem d_Link_init_64 : decode b_Link_init 64 = .ok (.anewarray 42, 3) := by decide +kernel
theorem d_Link_init_67 : decode b_Link_init 67 = .ok (.putfield 44, 3) := by decide +kernel
theorem d_Link_init_70 : decode b_Link_init 70 = .ok (.iconst (0), 1) := by decide +kernel
theorem d_Link_init_71 : decode b_Link_init 71 = .ok (.istore 8, 2) := by decide +kernel
theorem d_Link_init_73 : decode b_Link_init 73 = .ok (.iload 8, 2) := by decide +kernel
theorem d_Link_init_75 : decode b_Link_init 75 = .ok (.iload 7, 2) := by decide +kernel
theorem d_Link_init_77 : decode b_Link_init 77 = .ok (.if_icmp .ge (21), 3) := by decide +kernel
theorem d_Link_init_80 : decode b_Link_init 80 = .ok (.aload_n 0, 1) := by decide +kernel
theorem d_Link_init_81 : decode b_Link_init 81 = .ok (.getfield 44, 3) := by decide +kernel
theorem d_Link_init_84 : decode b_Link_init 84 = .ok (.iload 8, 2) := by decide +kernel
theorem d_Link_init_86 : decode b_Link_init 86 = .ok (.aload 6, 2) := by decide +kernel
theorem d_Link_init_88 : decode b_Link_init 88 = .ok (.iload 8, 2) := by decide +kernel
theorem d_Link_init_90 : decode b_Link_init 90 = .ok (.aaload, 1) := by decide +kernel
theorem d_Link_init_91 : decode b_Link_init 91 = .ok (.aastore, 1) := by decide +kernel
theorem d_Link_init_92 : decode b_Link_init 92 = .ok (.iinc 8 (1), 3) := by decide +kernel
theorem d_Link_init_95 : decode b_Link_init 95 = .ok (.goto (-22), 3) := by decide +kernel
theorem d_Link_init_98 : decode b_Link_init 98 = .ok (.return_, 1) := by decide +kernel
theorem d_CL_join_0 : decode b_CL_join 0 = .ok (.aload_n 2, 1) := by decide +kernel
theorem d_CL_join_1 : decode b_CL_join 1 = .ok (.ifnull (7), 3) := by decide +kernel
theorem d_CL_join_4 : decode b_CL_join 4 = .ok (.aload_n 3, 1) := by decide +kernel
theorem d_CL_join_5 : decode b_CL_join 5 = .ok (.ifnonnull (5), 3) := by decide +kernel
theorem d_CL_join_8 : decode b_CL_join 8 = .ok (.iconst (-1), 1) := by decide +kernel
theorem d_CL_join_9 : decode b_CL_join 9 = .ok (.ireturn, 1) := by decide +kernel
theorem d_CL_join_10 : decode b_CL_join 10 = .ok (.iload 5, 2) := by decide +kernel
theorem d_CL_join_12 : decode b_CL_join 12 = .ok (.ifCond .eq (13), 3) := by decide +kernel
theorem d_CL_join_15 : decode b_CL_join 15 = .ok (.iload 4, 2) := by decide +kernel
theorem d_CL_join_17 : decode b_CL_join 17 = .ok (.iconst (3), 1) := by decide +kernel
theorem d_CL_join_18 : decode b_CL_join 18 = .ok (.if_icmp .eq (7), 3) := by decide +kernel
theorem d_CL_join_21 : decode b_CL_join 21 = .ok (.iconst (1), 1) := by decide +kernel
theorem d_CL_join_22 : decode b_CL_join 22 = .ok (.goto (4), 3) := by decide +kernel
theorem d_CL_join_25 : decode b_CL_join 25 = .ok (.iconst (0), 1) := by decide +kernel
theorem d_CL_join_26 : decode b_CL_join 26 = .ok (.istore 6, 2) := by decide +kernel
theorem d_CL_join_28 : decode b_CL_join 28 = .ok (.aload_n 2, 1) := by decide +kernel
theorem d_CL_join_29 : decode b_CL_join 29 = .ok (.aload_n 3, 1) := by decide +kernel
theorem d_CL_join_30 : decode b_CL_join 30 = .ok (.iload 4, 2) := by decide +kernel
theorem d_CL_join_32 : decode b_CL_join 32 = .ok (.iload 6, 2) := by decide +kernel
theorem d_CL_join_34 : decode b_CL_join 34 = .ok (.invokestatic 174, 3) := by decide +kernel
theorem d_CL_join_37 : decode b_CL_join 37 = .ok (.istore 7, 2) := by decide +kernel
theorem d_CL_join_39 : decode b_CL_join 39 = .ok (.iload 7, 2) := by decide +kernel
theorem d_CL_join_41 : decode b_CL_join 41 = .ok (.ifCond .eq (6), 3) := by decide +kernel
theorem d_CL_join_44 : decode b_CL_join 44 = .ok (.iload 7, 2) := by decide +kernel
theorem d_CL_join_46 : decode b_CL_join 46 = .ok (.ireturn, 1) := by decide +kernel
theorem d_CL_join_47 : decode b_CL_join 47 = .ok (.aload_n 0, 1) := by decide +kernel
theorem d_CL_join_48 : decode b_CL_join 48 = .ok (.aload_n 1, 1) := by decide +kernel
theorem d_CL_join_49 : decode b_CL_join 49 = .ok (.aload_n 2, 1) := by decide +kernel
theorem d_CL_join_50 : decode b_CL_join 50 = .ok (.aload_n 3, 1) := by decide +kernel
theorem d_CL_join_51 : decode b_CL_join 51 = .ok (.iload 4, 2) := by decide +kernel
theorem d_CL_join_53 : decode b_CL_join 53 = .ok (.iload 6, 2) := by decide +kernel
theorem d_CL_join_55 : decode b_CL_join 55 = .ok (.invokevirtual 178, 3) := by decide +kernel
theorem d_CL_join_58 : decode b_CL_join 58 = .ok (.istore 8, 2) := by decide +kernel
theorem d_CL_join_60 : decode b_CL_join 60 = .ok (.iload 8, 2) := by decide +kernel
theorem d_CL_join_62 : decode b_CL_join 62 = .ok (.iconst (-1), 1) := by decide +kernel
theorem d_CL_join_63 : decode b_CL_join 63 = .ok (.if_icmp .eq (6), 3) := by decide +kernel
theorem d_CL_join_66 : decode b_CL_join 66 = .ok (.iload 8, 2) := by decide +kernel
theorem d_CL_join_68 : decode b_CL_join 68 = .ok (.ireturn, 1) := by decide +kernel
theorem d_CL_join_69 : decode b_CL_join 69 = .ok (.aload_n 0, 1) := by decide +kernel
theorem d_CL_join_70 : decode b_CL_join 70 = .ok (.iconst (0), 1) := by decide +kernel
theorem d_CL_join_71 : decode b_CL_join 71 = .ok (.putfield 181, 3) := by decide +kernel
theorem d_CL_join_74 : decode b_CL_join 74 = .ok (.aload_n 0, 1) := by decide +kernel
theorem d_CL_join_75 : decode b_CL_join 75 = .ok (.aload_n 1, 1) := by decide +kernel
theorem d_CL_join_76 : decode b_CL_join 76 = .ok (.invokevirtual 184, 3) := by decide +kernel
theorem d_CL_join_79 : decode b_CL_join 79 = .ok (.aload_n 0, 1) := by decide +kernel
theorem d_CL_join_80 : decode b_CL_join 80 = .ok (.aload_n 2, 1) := by decide +kernel
theorem d_CL_join_81 : decode b_CL_join 81 = .ok (.aload_n 3, 1) := by decide +kernel
theorem d_CL_join_82 : decode b_CL_join 82 = .ok (.iload 4, 2) := by decide +kernel
theorem d_CL_join_84 : decode b_CL_join 84 = .ok (.iload 6, 2) := by decide +kernel
theorem d_CL_join_86 : decode b_CL_join 86 = .ok (.invokevirtual 188, 3) := by decide +kernel
theorem d_CL_join_89 : decode b_CL_join 89 = .ok (.aload_n 0, 1) := by decide +kernel
theorem d_CL_join_90 : decode b_CL_join 90 = .ok (.getfield 181, 3) := by decide +kernel
theorem d_CL_join_93 : decode b_CL_join 93 = .ok (.bipush (24), 2) := by decide +kernel
theorem d_CL_join_95 : decode b_CL_join 95 = .ok (.if_icmp .le (6), 3) := by decide +kernel
theorem d_CL_join_98 : decode b_CL_join 98 = .ok (.bipush (-9), 2) := by decide +kernel
theorem d_CL_join_100 : decode b_CL_join 100 = .ok (.ireturn, 1) := by decide +kernel
theorem d_CL_join_101 : decode b_CL_join 101 = .ok (.aload_n 0, 1) := by decide +kernel
theorem d_CL_join_102 : decode b_CL_join 102 = .ok (.getfield 135, 3) := by decide +kernel
theorem d_CL_join_105 : decode b_CL_join 105 = .ok (.bipush (16), 2) := by decide +kernel
theorem d_CL_join_107 : decode b_CL_join 107 = .ok (.if_icmp .lt (6), 3) := by decide +kernel
theorem d_CL_join_110 : decode b_CL_join 110 = .ok (.bipush (-8), 2) := by decide +kernel
theorem d_CL_join_112 : decode b_CL_join 112 = .ok (.ireturn, 1) := by decide +kernel
theorem d_CL_join_113 : decode b_CL_join 113 = .ok (.aload_n 0, 1) := by decide +kernel
theorem d_CL_join_114 : decode b_CL_join 114 = .ok (.getfield 24, 3) := by decide +kernel
theorem d_CL_join_117 : decode b_CL_join 117 = .ok (.aload_n 0, 1) := by decide +kernel
theorem d_CL_join_118 : decode b_CL_join 118 = .ok (.getfield 135, 3) := by decide +kernel
theorem d_CL_join_121 : decode b_CL_join 121 = .ok (.new 22, 3) := by decide +kernel
theorem d_CL_join_124 : decode b_CL_join 124 = .ok (.dup, 1) := by decide +kernel
theorem d_CL_join_125 : decode b_CL_join 125 = .ok (.aload_n 1, 1) := by decide +kernel
theorem d_CL_join_126 : decode b_CL_join 126 = .ok (.aload_n 2, 1) := by decide +kernel
theorem d_CL_join_127 : decode b_CL_join 127 = .ok (.aload_n 3, 1) := by decide +kernel
theorem d_CL_join_128 : decode b_CL_join 128 = .ok (.iload 4, 2) := by decide +kernel
theorem d_CL_join_130 : decode b_CL_join 130 = .ok (.iload 6, 2) := by decide +kernel
theorem d_CL_join_132 : decode b_CL_join 132 = .ok (.aload_n 0, 1) := by decide +kernel
theorem d_CL_join_133 : decode b_CL_join 133 = .ok (.getfield 42, 3) := by decide +kernel
theorem d_CL_join_136 : decode b_CL_join 136 = .ok (.aload_n 0, 1) := by decide +kernel
theorem d_CL_join_137 : decode b_CL_join 137 = .ok (.getfield 181, 3) := by decide +kernel
theorem d_CL_join_140 : decode b_CL_join 140 = .ok (.invokespecial 192, 3) := by decide +kernel
theorem d_CL_join_143 : decode b_CL_join 143 = .ok (.aastore, 1) := by decide +kernel
theorem d_CL_join_144 : decode b_CL_join 144 = .ok (.aload_n 0, 1) := by decide +kernel
theorem d_CL_join_145 : decode b_CL_join 145 = .ok (.dup, 1) := by decide +kernel
theorem d_CL_join_146 : decode b_CL_join 146 = .ok (.getfield 135, 3) := by decide +kernel
theorem d_CL_join_149 : decode b_CL_join 149 = .ok (.iconst (1), 1) := by decide +kernel
theorem d_CL_join_150 : decode b_CL_join 150 = .ok (.iadd, 1) := by decide +kernel
theorem d_CL_join_151 : decode b_CL_join 151 = .ok (.putfield 135, 3) := by decide +kernel
theorem d_CL_join_154 : decode b_CL_join 154 = .ok (.aload_n 0, 1) := by decide +kernel
theorem d_CL_join_155 : decode b_CL_join 155 = .ok (.getfield 135, 3) := by decide +kernel
theorem d_CL_join_158 : decode b_CL_join 158 = .ok (.iconst (1), 1) := by decide +kernel
theorem d_CL_join_159 : decode b_CL_join 159 = .ok (.isub, 1) := by decide +kernel
theorem d_CL_join_160 : decode b_CL_join 160 = .ok (.ireturn, 1) := by decide +kernel
theorem d_CL_link_0 : decode b_CL_link 0 = .ok (.aload_n 0, 1) := by decide +kernel
theorem d_CL_link_1 : decode b_CL_link 1 = .ok (.aconst_null, 1) := by decide +kernel
theorem d_CL_link_2 : decode b_CL_link 2 = .ok (.aload_n 0, 1) := by decide +kernel
theorem d_CL_link_3 : decode b_CL_link 3 = .ok (.iload_n 1, 1) := by decide +kernel
theorem d_CL_link_4 : decode b_CL_link 4 = .ok (.invokevirtual 85, 3) := by decide +kernel
theorem d_CL_link_7 : decode b_CL_link 7 = .ok (.aload_n 0, 1) := by decide +kernel
theorem d_CL_link_8 : decode b_CL_link 8 = .ok (.iload_n 2, 1) := by decide +kernel
theorem d_CL_link_9 : decode b_CL_link 9 = .ok (.invokevirtual 85, 3) := by decide +kernel
theorem d_CL_link_12 : decode b_CL_link 12 = .ok (.iload_n 3, 1) := by decide +kernel
theorem d_CL_link_13 : decode b_CL_link 13 = .ok (.iload 4, 2) := by decide +kernel
theorem d_CL_link_15 : decode b_CL_link 15 = .ok (.invokevirtual 123, 3) := by decide +kernel
theorem d_CL_link_18 : decode b_CL_link 18 = .ok (.ireturn, 1) := by decide +kernel
theorem d_Mo_single_0 : decode b_Mo_single 0 = .ok (.aload_n 0, 1) := by decide +kernel
theorem d_Mo_single_1 : decode b_Mo_single 1 = .ok (.iload_n 1, 1) := by decide +kernel
theorem d_Mo_single_2 : decode b_Mo_single 2 = .ok (.iconst (3), 1) := by decide +kernel
theorem d_Mo_single_3 : decode b_Mo_single 3 = .ok (.invokevirtual 79, 3) := by decide +kernel
theorem d_Mo_single_6 : decode b_Mo_single 6 = .ok (.iconst (1), 1) := by decide +kernel
theorem d_Mo_single_7 : decode b_Mo_single 7 = .ok (.if_icmp .ne (7), 3) := by decide +kernel
theorem d_Mo_single_10 : decode b_Mo_single 10 = .ok (.iconst (1), 1) := by decide +kernel
theorem d_Mo_single_11 : decode b_Mo_single 11 = .ok (.goto (4), 3) := by decide +kernel
theorem d_Mo_single_14 : decode b_Mo_single 14 = .ok (.iconst (0), 1) := by decide +kernel
theorem d_Mo_single_15 : decode b_Mo_single 15 = .ok (.ireturn, 1) := by decide +kernel
theorem d_Mo_grid_0 : decode b_Mo_grid 0 = .ok (.iload_n 2, 1) := by decide +kernel
theorem d_Mo_grid_1 : decode b_Mo_grid 1 = .ok (.iload_n 3, 1) := by decide +kernel
theorem d_Mo_grid_2 : decode b_Mo_grid 2 = .ok (.iconst (3), 1) := by decide +kernel
theorem d_Mo_grid_3 : decode b_Mo_grid 3 = .ok (.if_icmp .ne (7), 3) := by decide +kernel
theorem d_Mo_grid_6 : decode b_Mo_grid 6 = .ok (.iconst (1), 1) := by decide +kernel
theorem d_Mo_grid_7 : decode b_Mo_grid 7 = .ok (.goto (4), 3) := by decide +kernel
theorem d_Mo_grid_10 : decode b_Mo_grid 10 = .ok (.iload_n 3, 1) := by decide +kernel
theorem d_Mo_grid_11 : decode b_Mo_grid 11 = .ok (.iadd, 1) := by decide +kernel
theorem d_Mo_grid_12 : decode b_Mo_grid 12 = .ok (.istore 4, 2) := by decide +kernel
theorem d_Mo_grid_14 : decode b_Mo_grid 14 = .ok (.aload_n 0, 1) := by decide +kernel
theorem d_Mo_grid_15 : decode b_Mo_grid 15 = .ok (.iload_n 1, 1) := by decide +kernel
theorem d_Mo_grid_16 : decode b_Mo_grid 16 = .ok (.iload 4, 2) := by decide +kernel
theorem d_Mo_grid_18 : decode b_Mo_grid 18 = .ok (.invokevirtual 82, 3) := by decide +kernel
theorem d_Mo_grid_21 : decode b_Mo_grid 21 = .ok (.ifCond .le (8), 3) := by decide +kernel
theorem d_Mo_grid_24 : decode b_Mo_grid 24 = .ok (.iload 4, 2) := by decide +kernel
theorem d_Mo_grid_26 : decode b_Mo_grid 26 = .ok (.goto (17), 3) := by decide +kernel
theorem d_Mo_grid_29 : decode b_Mo_grid 29 = .ok (.aload_n 0, 1) := by decide +kernel
theorem d_Mo_grid_30 : decode b_Mo_grid 30 = .ok (.iload_n 1, 1) := by decide +kernel
theorem d_Mo_grid_31 : decode b_Mo_grid 31 = .ok (.iload_n 2, 1) := by decide +kernel
theorem d_Mo_grid_32 : decode b_Mo_grid 32 = .ok (.invokevirtual 82, 3) := by decide +kernel
theorem d_Mo_grid_35 : decode b_Mo_grid 35 = .ok (.ifCond .le (7), 3) := by decide +kernel
theorem d_Mo_grid_38 : decode b_Mo_grid 38 = .ok (.iload_n 2, 1) := by decide +kernel
theorem d_Mo_grid_39 : decode b_Mo_grid 39 = .ok (.goto (4), 3) := by decide +kernel
theorem d_Mo_grid_42 : decode b_Mo_grid 42 = .ok (.iconst (0), 1) := by decide +kernel
theorem d_Mo_grid_43 : decode b_Mo_grid 43 = .ok (.ireturn, 1) := by decide +kernel
theorem d_Mo_lab_0 : decode b_Mo_lab 0 = .ok (.aload_n 0, 1) := by decide +kernel
theorem d_Mo_lab_1 : decode b_Mo_lab 1 = .ok (.iload_n 1, 1) := by decide +kernel
theorem d_Mo_lab_2 : decode b_Mo_lab 2 = .ok (.iconst (4), 1) := by decide +kernel
theorem d_Mo_lab_3 : decode b_Mo_lab 3 = .ok (.invokevirtual 79, 3) := by decide +kernel
theorem d_Mo_lab_6 : decode b_Mo_lab 6 = .ok (.iconst (1), 1) := by decide +kernel
theorem d_Mo_lab_7 : decode b_Mo_lab 7 = .ok (.if_icmp .ne (7), 3) := by decide +kernel
theorem d_Mo_lab_10 : decode b_Mo_lab 10 = .ok (.iconst (1), 1) := by decide +kernel
theorem d_Mo_lab_11 : decode b_Mo_lab 11 = .ok (.goto (4), 3) := by decide +kernel
theorem d_Mo_lab_14 : decode b_Mo_lab 14 = .ok (.iconst (0), 1) := by decide +kernel
theorem d_Mo_lab_15 : decode b_Mo_lab 15 = .ok (.ireturn, 1) := by decide +kernel
theorem d_Mo_shaped_0 : decode b_Mo_shaped 0 = .ok (.aload_n 0, 1) := by decide +kernel
theorem d_Mo_shaped_1 : decode b_Mo_shaped 1 = .ok (.iload_n 1, 1) := by decide +kernel
theorem d_Mo_shaped_2 : decode b_Mo_shaped 2 = .ok (.iconst (2), 1) := by decide +kernel
theorem d_Mo_shaped_3 : decode b_Mo_shaped 3 = .ok (.invokevirtual 82, 3) := by decide +kernel
theorem d_Mo_shaped_6 : decode b_Mo_shaped 6 = .ok (.ifCond .le (42), 3) := by decide +kernel
theorem d_Mo_shaped_9 : decode b_Mo_shaped 9 = .ok (.aload_n 0, 1) := by decide +kernel
theorem d_Mo_shaped_10 : decode b_Mo_shaped 10 = .ok (.iload_n 1, 1) := by decide +kernel
theorem d_Mo_shaped_11 : decode b_Mo_shaped 11 = .ok (.iconst (3), 1) := by decide +kernel
theorem d_Mo_shaped_12 : decode b_Mo_shaped 12 = .ok (.invokevirtual 82, 3) := by decide +kernel
theorem d_Mo_shaped_15 : decode b_Mo_shaped 15 = .ok (.ifCond .le (33), 3) := by decide +kernel
theorem d_Mo_shaped_18 : decode b_Mo_shaped 18 = .ok (.aload_n 0, 1) := by decide +kernel
theorem d_Mo_shaped_19 : decode b_Mo_shaped 19 = .ok (.iload_n 1, 1) := by decide +kernel
theorem d_Mo_shaped_20 : decode b_Mo_shaped 20 = .ok (.iconst (4), 1) := by decide +kernel
theorem d_Mo_shaped_21 : decode b_Mo_shaped 21 = .ok (.invokevirtual 82, 3) := by decide +kernel
theorem d_Mo_shaped_24 : decode b_Mo_shaped 24 = .ok (.ifCond .le (24), 3) := by decide +kernel
theorem d_Mo_shaped_27 : decode b_Mo_shaped 27 = .ok (.aload_n 0, 1) := by decide +kernel
theorem d_Mo_shaped_28 : decode b_Mo_shaped 28 = .ok (.iload_n 1, 1) := by decide +kernel
theorem d_Mo_shaped_29 : decode b_Mo_shaped 29 = .ok (.iconst (5), 1) := by decide +kernel
theorem d_Mo_shaped_30 : decode b_Mo_shaped 30 = .ok (.invokevirtual 82, 3) := by decide +kernel
theorem d_Mo_shaped_33 : decode b_Mo_shaped 33 = .ok (.ifCond .le (15), 3) := by decide +kernel
theorem d_Mo_shaped_36 : decode b_Mo_shaped 36 = .ok (.aload_n 0, 1) := by decide +kernel
theorem d_Mo_shaped_37 : decode b_Mo_shaped 37 = .ok (.iload_n 1, 1) := by decide +kernel
theorem d_Mo_shaped_38 : decode b_Mo_shaped 38 = .ok (.invokevirtual 85, 3) := by decide +kernel
theorem d_Mo_shaped_41 : decode b_Mo_shaped 41 = .ok (.ifCond .ne (7), 3) := by decide +kernel
theorem d_Mo_shaped_44 : decode b_Mo_shaped 44 = .ok (.iconst (1), 1) := by decide +kernel
theorem d_Mo_shaped_45 : decode b_Mo_shaped 45 = .ok (.goto (4), 3) := by decide +kernel
theorem d_Mo_shaped_48 : decode b_Mo_shaped 48 = .ok (.iconst (0), 1) := by decide +kernel
theorem d_Mo_shaped_49 : decode b_Mo_shaped 49 = .ok (.ireturn, 1) := by decide +kernel
theorem d_Mo_takeMatrix_0 : decode b_Mo_takeMatrix 0 = .ok (.aload_n 0, 1) := by decide +kernel
theorem d_Mo_takeMatrix_1 : decode b_Mo_takeMatrix 1 = .ok (.iload_n 1, 1) := by decide +kernel
theorem d_Mo_takeMatrix_2 : decode b_Mo_takeMatrix 2 = .ok (.iconst (5), 1) := by decide +kernel
theorem d_Mo_takeMatrix_3 : decode b_Mo_takeMatrix 3 = .ok (.invokevirtual 88, 3) := by decide +kernel
theorem d_Mo_takeMatrix_6 : decode b_Mo_takeMatrix 6 = .ok (.istore_n 2, 1) := by decide +kernel
theorem d_Mo_takeMatrix_7 : decode b_Mo_takeMatrix 7 = .ok (.iconst (0), 1) := by decide +kernel
theorem d_Mo_takeMatrix_8 : decode b_Mo_takeMatrix 8 = .ok (.istore_n 3, 1) := by decide +kernel
theorem d_Mo_takeMatrix_9 : decode b_Mo_takeMatrix 9 = .ok (.iload_n 3, 1) := by decide +kernel
theorem d_Mo_takeMatrix_10 : decode b_Mo_takeMatrix 10 = .ok (.bipush (9), 2) := by decide +kernel
theorem d_Mo_takeMatrix_12 : decode b_Mo_takeMatrix 12 = .ok (.if_icmp .ge (49), 3) := by decide +kernel
theorem d_Mo_takeMatrix_15 : decode b_Mo_takeMatrix 15 = .ok (.aload_n 0, 1) := by decide +kernel
theorem d_Mo_takeMatrix_16 : decode b_Mo_takeMatrix 16 = .ok (.iload_n 1, 1) := by decide +kernel
theorem d_Mo_takeMatrix_17 : decode b_Mo_takeMatrix 17 = .ok (.iload_n 2, 1) := by decide +kernel
theorem d_Mo_takeMatrix_18 : decode b_Mo_takeMatrix 18 = .ok (.iconst (2), 1) := by decide +kernel
theorem d_Mo_takeMatrix_19 : decode b_Mo_takeMatrix 19 = .ok (.iadd, 1) := by decide +kernel
theorem d_Mo_takeMatrix_20 : decode b_Mo_takeMatrix 20 = .ok (.iconst (2), 1) := by decide +kernel
theorem d_Mo_takeMatrix_21 : decode b_Mo_takeMatrix 21 = .ok (.iload_n 3, 1) := by decide +kernel
theorem d_Mo_takeMatrix_22 : decode b_Mo_takeMatrix 22 = .ok (.imul, 1) := by decide +kernel
theorem d_Mo_takeMatrix_23 : decode b_Mo_takeMatrix 23 = .ok (.iadd, 1) := by decide +kernel
theorem d_Mo_takeMatrix_24 : decode b_Mo_takeMatrix 24 = .ok (.invokevirtual 95, 3) := by decide +kernel
theorem d_Mo_takeMatrix_27 : decode b_Mo_takeMatrix 27 = .ok (.istore 4, 2) := by decide +kernel
theorem d_Mo_takeMatrix_29 : decode b_Mo_takeMatrix 29 = .ok (.aload_n 0, 1) := by decide +kernel
theorem d_Mo_takeMatrix_30 : decode b_Mo_takeMatrix 30 = .ok (.getfield 57, 3) := by decide +kernel
theorem d_Mo_takeMatrix_33 : decode b_Mo_takeMatrix 33 = .ok (.iload_n 3, 1) := by decide +kernel
theorem d_Mo_takeMatrix_34 : decode b_Mo_takeMatrix 34 = .ok (.iload 4, 2) := by decide +kernel
theorem d_Mo_takeMatrix_36 : decode b_Mo_takeMatrix 36 = .ok (.sipush (32767), 3) := by decide +kernel
theorem d_Mo_takeMatrix_39 : decode b_Mo_takeMatrix 39 = .ok (.if_icmp .le (12), 3) := by decide +kernel
theorem d_Mo_takeMatrix_42 : decode b_Mo_takeMatrix 42 = .ok (.iload 4, 2) := by decide +kernel
theorem d_Mo_takeMatrix_44 : decode b_Mo_takeMatrix 44 = .ok (.ldc 160, 2) := by decide +kernel
theorem d_Mo_takeMatrix_46 : decode b_Mo_takeMatrix 46 = .ok (.isub, 1) := by decide +kernel
theorem d_Mo_takeMatrix_47 : decode b_Mo_takeMatrix 47 = .ok (.i2l, 1) := by decide +kernel
theorem d_Mo_takeMatrix_48 : decode b_Mo_takeMatrix 48 = .ok (.goto (6), 3) := by decide +kernel
theorem d_Mo_takeMatrix_51 : decode b_Mo_takeMatrix 51 = .ok (.iload 4, 2) := by decide +kernel
theorem d_Mo_takeMatrix_53 : decode b_Mo_takeMatrix 53 = .ok (.i2l, 1) := by decide +kernel
theorem d_Mo_takeMatrix_54 : decode b_Mo_takeMatrix 54 = .ok (.lastore, 1) := by decide +kernel
theorem d_Mo_takeMatrix_55 : decode b_Mo_takeMatrix 55 = .ok (.iinc 3 (1), 3) := by decide +kernel
theorem d_Mo_takeMatrix_58 : decode b_Mo_takeMatrix 58 = .ok (.goto (-49), 3) := by decide +kernel
theorem d_Mo_takeMatrix_61 : decode b_Mo_takeMatrix 61 = .ok (.return_, 1) := by decide +kernel
