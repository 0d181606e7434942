theorem d_Mo_backwards_0 : decode b_Mo_backwards 0 = .ok (.aload_n 0, 1) := by decide +kernel
theorem d_Mo_backwards_1 : decode b_Mo_backwards 1 = .ok (.iload_n 1, 1) := by decide +kernel
theorem d_Mo_backwards_2 : decode b_Mo_backwards 2 = .ok (.bipush (9), 2) := by decide +kernel
theorem d_Mo_backwards_4 : decode b_Mo_backwards 4 = .ok (.iload_n 2, 1) := by decide +kernel
theorem d_Mo_backwards_5 : decode b_Mo_backwards 5 = .ok (.invokevirtual 161, 3) := by decide +kernel
theorem d_Mo_backwards_8 : decode b_Mo_backwards 8 = .ok (.istore_n 3, 1) := by decide +kernel
theorem d_Mo_backwards_9 : decode b_Mo_backwards 9 = .ok (.aload_n 0, 1) := by decide +kernel
theorem d_Mo_backwards_10 : decode b_Mo_backwards 10 = .ok (.iload_n 1, 1) := by decide +kernel
theorem d_Mo_backwards_11 : decode b_Mo_backwards 11 = .ok (.invokevirtual 144, 3) := by decide +kernel
theorem d_Mo_backwards_14 : decode b_Mo_backwards 14 = .ok (.ifCond .eq (22), 3) := by decide +kernel
theorem d_Mo_backwards_17 : decode b_Mo_backwards 17 = .ok (.aload_n 0, 1) := by decide +kernel
theorem d_Mo_backwards_18 : decode b_Mo_backwards 18 = .ok (.bipush (9), 2) := by decide +kernel
theorem d_Mo_backwards_20 : decode b_Mo_backwards 20 = .ok (.iload_n 1, 1) := by decide +kernel
theorem d_Mo_backwards_21 : decode b_Mo_backwards 21 = .ok (.iconst (0), 1) := by decide +kernel
theorem d_Mo_backwards_22 : decode b_Mo_backwards 22 = .ok (.iconst (0), 1) := by decide +kernel
theorem d_Mo_backwards_23 : decode b_Mo_backwards 23 = .ok (.invokevirtual 150, 3) := by decide +kernel
theorem d_Mo_backwards_26 : decode b_Mo_backwards 26 = .ok (.aload_n 0, 1) := by decide +kernel
theorem d_Mo_backwards_27 : decode b_Mo_backwards 27 = .ok (.bipush (11), 2) := by decide +kernel
theorem d_Mo_backwards_29 : decode b_Mo_backwards 29 = .ok (.iload_n 1, 1) := by decide +kernel
theorem d_Mo_backwards_30 : decode b_Mo_backwards 30 = .ok (.invokevirtual 164, 3) := by decide +kernel
theorem d_Mo_backwards_33 : decode b_Mo_backwards 33 = .ok (.goto (32), 3) := by decide +kernel
theorem d_Mo_backwards_36 : decode b_Mo_backwards 36 = .ok (.iload_n 3, 1) := by decide +kernel
theorem d_Mo_backwards_37 : decode b_Mo_backwards 37 = .ok (.ifCond .le (14), 3) := by decide +kernel
theorem d_Mo_backwards_40 : decode b_Mo_backwards 40 = .ok (.aload_n 0, 1) := by decide +kernel
theorem d_Mo_backwards_41 : decode b_Mo_backwards 41 = .ok (.iconst (3), 1) := by decide +kernel
theorem d_Mo_backwards_42 : decode b_Mo_backwards 42 = .ok (.iload_n 1, 1) := by decide +kernel
theorem d_Mo_backwards_43 : decode b_Mo_backwards 43 = .ok (.iload_n 3, 1) := by decide +kernel
theorem d_Mo_backwards_44 : decode b_Mo_backwards 44 = .ok (.iconst (0), 1) := by decide +kernel
theorem d_Mo_backwards_45 : decode b_Mo_backwards 45 = .ok (.invokevirtual 150, 3) := by decide +kernel
theorem d_Mo_backwards_48 : decode b_Mo_backwards 48 = .ok (.goto (17), 3) := by decide +kernel
theorem d_Mo_backwards_51 : decode b_Mo_backwards 51 = .ok (.aload_n 0, 1) := by decide +kernel
theorem d_Mo_backwards_52 : decode b_Mo_backwards 52 = .ok (.bipush (10), 2) := by decide +kernel
theorem d_Mo_backwards_54 : decode b_Mo_backwards 54 = .ok (.iload_n 1, 1) := by decide +kernel
theorem d_Mo_backwards_55 : decode b_Mo_backwards 55 = .ok (.invokevirtual 168, 3) := by decide +kernel
theorem d_Mo_backwards_58 : decode b_Mo_backwards 58 = .ok (.aload_n 0, 1) := by decide +kernel
theorem d_Mo_backwards_59 : decode b_Mo_backwards 59 = .ok (.bipush (11), 2) := by decide +kernel
theorem d_Mo_backwards_61 : decode b_Mo_backwards 61 = .ok (.iload_n 1, 1) := by decide +kernel
theorem d_Mo_backwards_62 : decode b_Mo_backwards 62 = .ok (.invokevirtual 164, 3) := by decide +kernel
theorem d_Mo_backwards_65 : decode b_Mo_backwards 65 = .ok (.return_, 1) := by decide +kernel
theorem d_Mo_passage_0 : decode b_Mo_passage 0 = .ok (.iload 4, 2) := by decide +kernel
theorem d_Mo_passage_2 : decode b_Mo_passage 2 = .ok (.ifCond .eq (17), 3) := by decide +kernel
theorem d_Mo_passage_5 : decode b_Mo_passage 5 = .ok (.iload_n 3, 1) := by decide +kernel
theorem d_Mo_passage_6 : decode b_Mo_passage 6 = .ok (.iconst (3), 1) := by decide +kernel
theorem d_Mo_passage_7 : decode b_Mo_passage 7 = .ok (.if_icmp .ge (12), 3) := by decide +kernel
theorem d_Mo_passage_10 : decode b_Mo_passage 10 = .ok (.aload_n 0, 1) := by decide +kernel
theorem d_Mo_passage_11 : decode b_Mo_passage 11 = .ok (.iload_n 1, 1) := by decide +kernel
theorem d_Mo_passage_12 : decode b_Mo_passage 12 = .ok (.iload_n 3, 1) := by decide +kernel
theorem d_Mo_passage_13 : decode b_Mo_passage 13 = .ok (.invokevirtual 194, 3) := by decide +kernel
theorem d_Mo_passage_16 : decode b_Mo_passage 16 = .ok (.goto (4), 3) := by decide +kernel
theorem d_Mo_passage_19 : decode b_Mo_passage 19 = .ok (.lconst 0, 1) := by decide +kernel
theorem d_Mo_passage_20 : decode b_Mo_passage 20 = .ok (.lstore 5, 2) := by decide +kernel
theorem d_Mo_passage_22 : decode b_Mo_passage 22 = .ok (.iload 4, 2) := by decide +kernel
theorem d_Mo_passage_24 : decode b_Mo_passage 24 = .ok (.ifCond .eq (17), 3) := by decide +kernel
theorem d_Mo_passage_27 : decode b_Mo_passage 27 = .ok (.iload_n 3, 1) := by decide +kernel
theorem d_Mo_passage_28 : decode b_Mo_passage 28 = .ok (.iconst (3), 1) := by decide +kernel
theorem d_Mo_passage_29 : decode b_Mo_passage 29 = .ok (.if_icmp .ge (12), 3) := by decide +kernel
theorem d_Mo_passage_32 : decode b_Mo_passage 32 = .ok (.aload_n 0, 1) := by decide +kernel
theorem d_Mo_passage_33 : decode b_Mo_passage 33 = .ok (.iload_n 2, 1) := by decide +kernel
theorem d_Mo_passage_34 : decode b_Mo_passage 34 = .ok (.iload_n 3, 1) := by decide +kernel
theorem d_Mo_passage_35 : decode b_Mo_passage 35 = .ok (.invokevirtual 194, 3) := by decide +kernel
theorem d_Mo_passage_38 : decode b_Mo_passage 38 = .ok (.goto (4), 3) := by decide +kernel
theorem d_Mo_passage_41 : decode b_Mo_passage 41 = .ok (.lconst 0, 1) := by decide +kernel
theorem d_Mo_passage_42 : decode b_Mo_passage 42 = .ok (.lstore 7, 2) := by decide +kernel
theorem d_Mo_passage_44 : decode b_Mo_passage 44 = .ok (.iload_n 3, 1) := by decide +kernel
theorem d_Mo_passage_45 : decode b_Mo_passage 45 = .ok (.iconst (3), 1) := by decide +kernel
theorem d_Mo_passage_46 : decode b_Mo_passage 46 = .ok (.if_icmp .ne (16), 3) := by decide +kernel
theorem d_Mo_passage_49 : decode b_Mo_passage 49 = .ok (.aload_n 0, 1) := by decide +kernel
theorem d_Mo_passage_50 : decode b_Mo_passage 50 = .ok (.iload_n 1, 1) := by decide +kernel
theorem d_Mo_passage_51 : decode b_Mo_passage 51 = .ok (.iload_n 2, 1) := by decide +kernel
theorem d_Mo_passage_52 : decode b_Mo_passage 52 = .ok (.invokevirtual 191, 3) := by decide +kernel
theorem d_Mo_passage_55 : decode b_Mo_passage 55 = .ok (.ifCond .eq (7), 3) := by decide +kernel
theorem d_Mo_passage_58 : decode b_Mo_passage 58 = .ok (.iconst (1), 1) := by decide +kernel
theorem d_Mo_passage_59 : decode b_Mo_passage 59 = .ok (.goto (4), 3) := by decide +kernel
theorem d_Mo_passage_62 : decode b_Mo_passage 62 = .ok (.iconst (0), 1) := by decide +kernel
theorem d_Mo_passage_63 : decode b_Mo_passage 63 = .ok (.istore 9, 2) := by decide +kernel
theorem d_Mo_passage_65 : decode b_Mo_passage 65 = .ok (.iload 9, 2) := by decide +kernel
theorem d_Mo_passage_67 : decode b_Mo_passage 67 = .ok (.ifCond .ne (11), 3) := by decide +kernel
theorem d_Mo_passage_70 : decode b_Mo_passage 70 = .ok (.lload 5, 2) := by decide +kernel
theorem d_Mo_passage_72 : decode b_Mo_passage 72 = .ok (.lload 7, 2) := by decide +kernel
theorem d_Mo_passage_74 : decode b_Mo_passage 74 = .ok (.lcmp, 1) := by decide +kernel
theorem d_Mo_passage_75 : decode b_Mo_passage 75 = .ok (.ifCond .eq (7), 3) := by decide +kernel
theorem d_Mo_passage_78 : decode b_Mo_passage 78 = .ok (.iconst (1), 1) := by decide +kernel
theorem d_Mo_passage_79 : decode b_Mo_passage 79 = .ok (.goto (4), 3) := by decide +kernel
theorem d_Mo_passage_82 : decode b_Mo_passage 82 = .ok (.iconst (0), 1) := by decide +kernel
theorem d_Mo_passage_83 : decode b_Mo_passage 83 = .ok (.istore 10, 2) := by decide +kernel
theorem d_Mo_passage_85 : decode b_Mo_passage 85 = .ok (.aload_n 0, 1) := by decide +kernel
theorem d_Mo_passage_86 : decode b_Mo_passage 86 = .ok (.iload_n 1, 1) := by decide +kernel
theorem d_Mo_passage_87 : decode b_Mo_passage 87 = .ok (.iload_n 3, 1) := by decide +kernel
theorem d_Mo_passage_88 : decode b_Mo_passage 88 = .ok (.invokevirtual 171, 3) := by decide +kernel
theorem d_Mo_passage_91 : decode b_Mo_passage 91 = .ok (.aload_n 0, 1) := by decide +kernel
theorem d_Mo_passage_92 : decode b_Mo_passage 92 = .ok (.iload_n 1, 1) := by decide +kernel
theorem d_Mo_passage_93 : decode b_Mo_passage 93 = .ok (.invokevirtual 85, 3) := by decide +kernel
theorem d_Mo_passage_96 : decode b_Mo_passage 96 = .ok (.istore 11, 2) := by decide +kernel
theorem d_Mo_passage_98 : decode b_Mo_passage 98 = .ok (.iload 10, 2) := by decide +kernel
theorem d_Mo_passage_100 : decode b_Mo_passage 100 = .ok (.ifCond .eq (52), 3) := by decide +kernel
theorem d_Mo_passage_103 : decode b_Mo_passage 103 = .ok (.iload 11, 2) := by decide +kernel
theorem d_Mo_passage_105 : decode b_Mo_passage 105 = .ok (.ifCond .eq (12), 3) := by decide +kernel
theorem d_Mo_passage_108 : decode b_Mo_passage 108 = .ok (.aload_n 0, 1) := by decide +kernel
theorem d_Mo_passage_109 : decode b_Mo_passage 109 = .ok (.bipush (6), 2) := by decide +kernel
theorem d_Mo_passage_111 : decode b_Mo_passage 111 = .ok (.iload_n 1, 1) := by decide +kernel
theorem d_Mo_passage_112 : decode b_Mo_passage 112 = .ok (.iconst (0), 1) := by decide +kernel
theorem d_Mo_passage_113 : decode b_Mo_passage 113 = .ok (.iconst (0), 1) := by decide +kernel
theorem d_Mo_passage_114 : decode b_Mo_passage 114 = .ok (.invokevirtual 150, 3) := by decide +kernel
theorem d_Mo_passage_117 : decode b_Mo_passage 117 = .ok (.iconst (0), 1) := by decide +kernel
theorem d_Mo_passage_118 : decode b_Mo_passage 118 = .ok (.istore 11, 2) := by decide +kernel
theorem d_Mo_passage_120 : decode b_Mo_passage 120 = .ok (.aload_n 0, 1) := by decide +kernel
theorem d_Mo_passage_121 : decode b_Mo_passage 121 = .ok (.iload 9, 2) := by decide +kernel
theorem d_Mo_passage_123 : decode b_Mo_passage 123 = .ok (.ifCond .eq (8), 3) := by decide +kernel
theorem d_Mo_passage_126 : decode b_Mo_passage 126 = .ok (.bipush (7), 2) := by decide +kernel
theorem d_Mo_passage_128 : decode b_Mo_passage 128 = .ok (.goto (5), 3) := by decide +kernel
theorem d_Mo_passage_131 : decode b_Mo_passage 131 = .ok (.bipush (8), 2) := by decide +kernel
theorem d_Mo_passage_133 : decode b_Mo_passage 133 = .ok (.iload_n 1, 1) := by decide +kernel
theorem d_Mo_passage_134 : decode b_Mo_passage 134 = .ok (.iload 9, 2) := by decide +kernel
theorem d_Mo_passage_136 : decode b_Mo_passage 136 = .ok (.ifCond .eq (7), 3) := by decide +kernel
theorem d_Mo_passage_139 : decode b_Mo_passage 139 = .ok (.iload_n 2, 1) := by decide +kernel
theorem d_Mo_passage_140 : decode b_Mo_passage 140 = .ok (.goto (6), 3) := by decide +kernel
theorem d_Mo_passage_143 : decode b_Mo_passage 143 = .ok (.lload 5, 2) := by decide +kernel
theorem d_Mo_passage_145 : decode b_Mo_passage 145 = .ok (.l2i, 1) := by decide +kernel
theorem d_Mo_passage_146 : decode b_Mo_passage 146 = .ok (.lload 7, 2) := by decide +kernel
theorem d_Mo_passage_148 : decode b_Mo_passage 148 = .ok (.l2i, 1) := by decide +kernel
theorem d_Mo_passage_149 : decode b_Mo_passage 149 = .ok (.invokevirtual 150, 3) := by decide +kernel
theorem d_Mo_passage_152 : decode b_Mo_passage 152 = .ok (.iload 11, 2) := by decide +kernel
theorem d_Mo_passage_154 : decode b_Mo_passage 154 = .ok (.aload_n 0, 1) := by decide +kernel
theorem d_Mo_passage_155 : decode b_Mo_passage 155 = .ok (.iload_n 2, 1) := by decide +kernel
theorem d_Mo_passage_156 : decode b_Mo_passage 156 = .ok (.invokevirtual 85, 3) := by decide +kernel
theorem d_Mo_passage_159 : decode b_Mo_passage 159 = .ok (.if_icmp .eq (21), 3) := by decide +kernel
theorem d_Mo_passage_162 : decode b_Mo_passage 162 = .ok (.aload_n 0, 1) := by decide +kernel
theorem d_Mo_passage_163 : decode b_Mo_passage 163 = .ok (.iload 11, 2) := by decide +kernel
theorem d_Mo_passage_165 : decode b_Mo_passage 165 = .ok (.ifCond .eq (8), 3) := by decide +kernel
theorem d_Mo_passage_168 : decode b_Mo_passage 168 = .ok (.bipush (6), 2) := by decide +kernel
theorem d_Mo_passage_170 : decode b_Mo_passage 170 = .ok (.goto (4), 3) := by decide +kernel
theorem d_Mo_passage_173 : decode b_Mo_passage 173 = .ok (.iconst (5), 1) := by decide +kernel
theorem d_Mo_passage_174 : decode b_Mo_passage 174 = .ok (.iload_n 2, 1) := by decide +kernel
theorem d_Mo_passage_175 : decode b_Mo_passage 175 = .ok (.iconst (0), 1) := by decide +kernel
theorem d_Mo_passage_176 : decode b_Mo_passage 176 = .ok (.iconst (0), 1) := by decide +kernel
theorem d_Mo_passage_177 : decode b_Mo_passage 177 = .ok (.invokevirtual 150, 3) := by decide +kernel
theorem d_Mo_passage_180 : decode b_Mo_passage 180 = .ok (.aload_n 0, 1) := by decide +kernel
theorem d_Mo_passage_181 : decode b_Mo_passage 181 = .ok (.iload_n 2, 1) := by decide +kernel
theorem d_Mo_passage_182 : decode b_Mo_passage 182 = .ok (.iload_n 3, 1) := by decide +kernel
theorem d_Mo_passage_183 : decode b_Mo_passage 183 = .ok (.invokevirtual 198, 3) := by decide +kernel
theorem d_Mo_passage_186 : decode b_Mo_passage 186 = .ok (.return_, 1) := by decide +kernel
theorem d_Mo_lay_0 : decode b_Mo_lay 0 = .ok (.iconst (0), 1) := by decide +kernel
theorem d_Mo_lay_1 : decode b_Mo_lay 1 = .ok (.istore_n 2, 1) := by decide +kernel
theorem d_Mo_lay_2 : decode b_Mo_lay 2 = .ok (.iload_n 1, 1) := by decide +kernel
theorem d_Mo_lay_3 : decode b_Mo_lay 3 = .ok (.istore_n 3, 1) := by decide +kernel
theorem d_Mo_lay_4 : decode b_Mo_lay 4 = .ok (.iload_n 3, 1) := by decide +kernel
theorem d_Mo_lay_5 : decode b_Mo_lay 5 = .ok (.ifCond .lt (23), 3) := by decide +kernel
theorem d_Mo_lay_8 : decode b_Mo_lay 8 = .ok (.aload_n 0, 1) := by decide +kernel
theorem d_Mo_lay_9 : decode b_Mo_lay 9 = .ok (.getfield 48, 3) := by decide +kernel
theorem d_Mo_lay_12 : decode b_Mo_lay 12 = .ok (.iload_n 2, 1) := by decide +kernel
theorem d_Mo_lay_13 : decode b_Mo_lay 13 = .ok (.iload_n 3, 1) := by decide +kernel
theorem d_Mo_lay_14 : decode b_Mo_lay 14 = .ok (.iastore, 1) := by decide +kernel
theorem d_Mo_lay_15 : decode b_Mo_lay 15 = .ok (.iinc 2 (1), 3) := by decide +kernel
theorem d_Mo_lay_18 : decode b_Mo_lay 18 = .ok (.aload_n 0, 1) := by decide +kernel
theorem d_Mo_lay_19 : decode b_Mo_lay 19 = .ok (.getfield 16, 3) := by decide +kernel
theorem d_Mo_lay_22 : decode b_Mo_lay 22 = .ok (.iload_n 3, 1) := by decide +kernel
theorem d_Mo_lay_23 : decode b_Mo_lay 23 = .ok (.iaload, 1) := by decide +kernel
theorem d_Mo_lay_24 : decode b_Mo_lay 24 = .ok (.istore_n 3, 1) := by decide +kernel
theorem d_Mo_lay_25 : decode b_Mo_lay 25 = .ok (.goto (-21), 3) := by decide +kernel
theorem d_Mo_lay_28 : decode b_Mo_lay 28 = .ok (.aload_n 0, 1) := by decide +kernel
theorem d_Mo_lay_29 : decode b_Mo_lay 29 = .ok (.iconst (0), 1) := by decide +kernel
theorem d_Mo_lay_30 : decode b_Mo_lay 30 = .ok (.putfield 141, 3) := by decide +kernel
theorem d_Mo_lay_33 : decode b_Mo_lay 33 = .ok (.iload_n 2, 1) := by decide +kernel
theorem d_Mo_lay_34 : decode b_Mo_lay 34 = .ok (.iconst (1), 1) := by decide +kernel
theorem d_Mo_lay_35 : decode b_Mo_lay 35 = .ok (.isub, 1) := by decide +kernel
theorem d_Mo_lay_36 : decode b_Mo_lay 36 = .ok (.istore_n 3, 1) := by decide +kernel
theorem d_Mo_lay_37 : decode b_Mo_lay 37 = .ok (.iload_n 3, 1) := by decide +kernel
theorem d_Mo_lay_38 : decode b_Mo_lay 38 = .ok (.ifCond .lt (57), 3) := by decide +kernel
theorem d_Mo_lay_41 : decode b_Mo_lay 41 = .ok (.aload_n 0, 1) := by decide +kernel
theorem d_Mo_lay_42 : decode b_Mo_lay 42 = .ok (.aload_n 0, 1) := by decide +kernel
theorem d_Mo_lay_43 : decode b_Mo_lay 43 = .ok (.getfield 19, 3) := by decide +kernel
theorem d_Mo_lay_46 : decode b_Mo_lay 46 = .ok (.aload_n 0, 1) := by decide +kernel
theorem d_Mo_lay_47 : decode b_Mo_lay 47 = .ok (.getfield 48, 3) := by decide +kernel
theorem d_Mo_lay_50 : decode b_Mo_lay 50 = .ok (.iload_n 3, 1) := by decide +kernel
theorem d_Mo_lay_51 : decode b_Mo_lay 51 = .ok (.iaload, 1) := by decide +kernel
theorem d_Mo_lay_52 : decode b_Mo_lay 52 = .ok (.iaload, 1) := by decide +kernel
theorem d_Mo_lay_53 : decode b_Mo_lay 53 = .ok (.aload_n 0, 1) := by decide +kernel
theorem d_Mo_lay_54 : decode b_Mo_lay 54 = .ok (.getfield 22, 3) := by decide +kernel
theorem d_Mo_lay_57 : decode b_Mo_lay 57 = .ok (.aload_n 0, 1) := by decide +kernel
theorem d_Mo_lay_58 : decode b_Mo_lay 58 = .ok (.getfield 48, 3) := by decide +kernel
theorem d_Mo_lay_61 : decode b_Mo_lay 61 = .ok (.iload_n 3, 1) := by decide +kernel
theorem d_Mo_lay_62 : decode b_Mo_lay 62 = .ok (.iaload, 1) := by decide +kernel
theorem d_Mo_lay_63 : decode b_Mo_lay 63 = .ok (.iaload, 1) := by decide +kernel
theorem d_Mo_lay_64 : decode b_Mo_lay 64 = .ok (.aload_n 0, 1) := by decide +kernel
theorem d_Mo_lay_65 : decode b_Mo_lay 65 = .ok (.getfield 25, 3) := by decide +kernel
theorem d_Mo_lay_68 : decode b_Mo_lay 68 = .ok (.aload_n 0, 1) := by decide +kernel
theorem d_Mo_lay_69 : decode b_Mo_lay 69 = .ok (.getfield 48, 3) := by decide +kernel
theorem d_Mo_lay_72 : decode b_Mo_lay 72 = .ok (.iload_n 3, 1) := by decide +kernel
theorem d_Mo_lay_73 : decode b_Mo_lay 73 = .ok (.iaload, 1) := by decide +kernel
theorem d_Mo_lay_74 : decode b_Mo_lay 74 = .ok (.iaload, 1) := by decide +kernel
theorem d_Mo_lay_75 : decode b_Mo_lay 75 = .ok (.aload_n 0, 1) := by decide +kernel
theorem d_Mo_lay_76 : decode b_Mo_lay 76 = .ok (.getfield 28, 3) := by decide +kernel
theorem d_Mo_lay_79 : decode b_Mo_lay 79 = .ok (.aload_n 0, 1) := by decide +kernel
theorem d_Mo_lay_80 : decode b_Mo_lay 80 = .ok (.getfield 48, 3) := by decide +kernel
theorem d_Mo_lay_83 : decode b_Mo_lay 83 = .ok (.iload_n 3, 1) := by decide +kernel
theorem d_Mo_lay_84 : decode b_Mo_lay 84 = .ok (.iaload, 1) := by decide +kernel
theorem d_Mo_lay_85 : decode b_Mo_lay 85 = .ok (.baload, 1) := by decide +kernel
theorem d_Mo_lay_86 : decode b_Mo_lay 86 = .ok (.invokevirtual 201, 3) := by decide +kernel
theorem d_Mo_lay_89 : decode b_Mo_lay 89 = .ok (.iinc 3 (-1), 3) := by decide +kernel
theorem d_Mo_lay_92 : decode b_Mo_lay 92 = .ok (.goto (-55), 3) := by decide +kernel
theorem d_Mo_lay_95 : decode b_Mo_lay 95 = .ok (.return_, 1) := by decide +kernel
theorem d_Mo_make_0 : decode b_Mo_make 0 = .ok (.iload 5, 2) := by decide +kernel
theorem d_Mo_make_2 : decode b_Mo_make 2 = .ok (.ifCond .eq (13), 3) := by decide +kernel
theorem d_Mo_make_5 : decode b_Mo_make 5 = .ok (.iload 4, 2) := by decide +kernel
theorem d_Mo_make_7 : decode b_Mo_make 7 = .ok (.iconst (3), 1) := by decide +kernel
theorem d_Mo_make_8 : decode b_Mo_make 8 = .ok (.if_icmp .eq (7), 3) := by decide +kernel
theorem d_Mo_make_11 : decode b_Mo_make 11 = .ok (.iconst (1), 1) := by decide +kernel
theorem d_Mo_make_12 : decode b_Mo_make 12 = .ok (.goto (4), 3) := by decide +kernel
theorem d_Mo_make_15 : decode b_Mo_make 15 = .ok (.iconst (0), 1) := by decide +kernel
theorem d_Mo_make_16 : decode b_Mo_make 16 = .ok (.istore 6, 2) := by decide +kernel
theorem d_Mo_make_18 : decode b_Mo_make 18 = .ok (.aload_n 0, 1) := by decide +kernel
theorem d_Mo_make_19 : decode b_Mo_make 19 = .ok (.iload_n 2, 1) := by decide +kernel
theorem d_Mo_make_20 : decode b_Mo_make 20 = .ok (.iload_n 3, 1) := by decide +kernel
theorem d_Mo_make_21 : decode b_Mo_make 21 = .ok (.iload 4, 2) := by decide +kernel
theorem d_Mo_make_23 : decode b_Mo_make 23 = .ok (.iload 6, 2) := by decide +kernel
theorem d_Mo_make_25 : decode b_Mo_make 25 = .ok (.invokevirtual 205, 3) := by decide +kernel
theorem d_Mo_make_28 : decode b_Mo_make 28 = .ok (.istore 7, 2) := by decide +kernel
theorem d_Mo_make_30 : decode b_Mo_make 30 = .ok (.iload 7, 2) := by decide +kernel
theorem d_Mo_make_32 : decode b_Mo_make 32 = .ok (.ifCond .ge (6), 3) := by decide +kernel
theorem d_Mo_make_35 : decode b_Mo_make 35 = .ok (.iload 7, 2) := by decide +kernel
theorem d_Mo_make_37 : decode b_Mo_make 37 = .ok (.ireturn, 1) := by decide +kernel
theorem d_Mo_make_38 : decode b_Mo_make 38 = .ok (.iconst (0), 1) := by decide +kernel
theorem d_Mo_make_39 : decode b_Mo_make 39 = .ok (.istore 8, 2) := by decide +kernel
theorem d_Mo_make_41 : decode b_Mo_make 41 = .ok (.iload 8, 2) := by decide +kernel
theorem d_Mo_make_43 : decode b_Mo_make 43 = .ok (.aload_n 0, 1) := by decide +kernel
theorem d_Mo_make_44 : decode b_Mo_make 44 = .ok (.getfield 209, 3) := by decide +kernel
theorem d_Mo_make_47 : decode b_Mo_make 47 = .ok (.if_icmp .ge (81), 3) := by decide +kernel
theorem d_Mo_make_50 : decode b_Mo_make 50 = .ok (.aload_n 0, 1) := by decide +kernel
theorem d_Mo_make_51 : decode b_Mo_make 51 = .ok (.getfield 16, 3) := by decide +kernel
theorem d_Mo_make_54 : decode b_Mo_make 54 = .ok (.iload 8, 2) := by decide +kernel
theorem d_Mo_make_56 : decode b_Mo_make 56 = .ok (.iaload, 1) := by decide +kernel
theorem d_Mo_make_57 : decode b_Mo_make 57 = .ok (.iload_n 1, 1) := by decide +kernel
theorem d_Mo_make_58 : decode b_Mo_make 58 = .ok (.if_icmp .ne (29), 3) := by decide +kernel
theorem d_Mo_make_61 : decode b_Mo_make 61 = .ok (.aload_n 0, 1) := by decide +kernel
theorem d_Mo_make_62 : decode b_Mo_make 62 = .ok (.getfield 19, 3) := by decide +kernel
theorem d_Mo_make_65 : decode b_Mo_make 65 = .ok (.iload 8, 2) := by decide +kernel
theorem d_Mo_make_67 : decode b_Mo_make 67 = .ok (.iaload, 1) := by decide +kernel
theorem d_Mo_make_68 : decode b_Mo_make 68 = .ok (.iload_n 2, 1) := by decide +kernel
theorem d_Mo_make_69 : decode b_Mo_make 69 = .ok (.if_icmp .ne (18), 3) := by decide +kernel
theorem d_Mo_make_72 : decode b_Mo_make 72 = .ok (.aload_n 0, 1) := by decide +kernel
theorem d_Mo_make_73 : decode b_Mo_make 73 = .ok (.getfield 22, 3) := by decide +kernel
theorem d_Mo_make_76 : decode b_Mo_make 76 = .ok (.iload 8, 2) := by decide +kernel
theorem d_Mo_make_78 : decode b_Mo_make 78 = .ok (.iaload, 1) := by decide +kernel
theorem d_Mo_make_79 : decode b_Mo_make 79 = .ok (.iload_n 3, 1) := by decide +kernel
theorem d_Mo_make_80 : decode b_Mo_make 80 = .ok (.if_icmp .ne (7), 3) := by decide +kernel
theorem d_Mo_make_83 : decode b_Mo_make 83 = .ok (.iconst (1), 1) := by decide +kernel
theorem d_Mo_make_84 : decode b_Mo_make 84 = .ok (.goto (4), 3) := by decide +kernel
theorem d_Mo_make_87 : decode b_Mo_make 87 = .ok (.iconst (0), 1) := by decide +kernel
theorem d_Mo_make_88 : decode b_Mo_make 88 = .ok (.istore 9, 2) := by decide +kernel
theorem d_Mo_make_90 : decode b_Mo_make 90 = .ok (.iload 9, 2) := by decide +kernel
theorem d_Mo_make_92 : decode b_Mo_make 92 = .ok (.ifCond .eq (30), 3) := by decide +kernel
theorem d_Mo_make_95 : decode b_Mo_make 95 = .ok (.aload_n 0, 1) := by decide +kernel
theorem d_Mo_make_96 : decode b_Mo_make 96 = .ok (.getfield 25, 3) := by decide +kernel
theorem d_Mo_make_99 : decode b_Mo_make 99 = .ok (.iload 8, 2) := by decide +kernel
theorem d_Mo_make_101 : decode b_Mo_make 101 = .ok (.iaload, 1) := by decide +kernel
theorem d_Mo_make_102 : decode b_Mo_make 102 = .ok (.iload 4, 2) := by decide +kernel
theorem d_Mo_make_104 : decode b_Mo_make 104 = .ok (.if_icmp .ne (18), 3) := by decide +kernel
theorem d_Mo_make_107 : decode b_Mo_make 107 = .ok (.aload_n 0, 1) := by decide +kernel
theorem d_Mo_make_108 : decode b_Mo_make 108 = .ok (.getfield 28, 3) := by decide +kernel
theorem d_Mo_make_111 : decode b_Mo_make 111 = .ok (.iload 8, 2) := by decide +kernel
theorem d_Mo_make_113 : decode b_Mo_make 113 = .ok (.baload, 1) := by decide +kernel
theorem d_Mo_make_114 : decode b_Mo_make 114 = .ok (.iload 6, 2) := by decide +kernel
theorem d_Mo_make_116 : decode b_Mo_make 116 = .ok (.if_icmp .ne (6), 3) := by decide +kernel
theorem d_Mo_make_119 : decode b_Mo_make 119 = .ok (.iload 8, 2) := by decide +kernel
theorem d_Mo_make_121 : decode b_Mo_make 121 = .ok (.ireturn, 1) := by decide +kernel
theorem d_Mo_make_122 : decode b_Mo_make 122 = .ok (.iinc 8 (1), 3) := by decide +kernel
theorem d_Mo_make_125 : decode b_Mo_make 125 = .ok (.goto (-84), 3) := by decide +kernel
theorem d_Mo_make_128 : decode b_Mo_make 128 = .ok (.aload_n 0, 1) := by decide +kernel
theorem d_Mo_make_129 : decode b_Mo_make 129 = .ok (.iload_n 1, 1) := by decide +kernel
theorem d_Mo_make_130 : decode b_Mo_make 130 = .ok (.invokevirtual 212, 3) := by decide +kernel
theorem d_Mo_make_133 : decode b_Mo_make 133 = .ok (.aload_n 0, 1) := by decide +kernel
theorem d_Mo_make_134 : decode b_Mo_make 134 = .ok (.iload_n 2, 1) := by decide +kernel
theorem d_Mo_make_135 : decode b_Mo_make 135 = .ok (.iload_n 3, 1) := by decide +kernel
theorem d_Mo_make_136 : decode b_Mo_make 136 = .ok (.iload 4, 2) := by decide +kernel
theorem d_Mo_make_138 : decode b_Mo_make 138 = .ok (.iload 6, 2) := by decide +kernel
theorem d_Mo_make_140 : decode b_Mo_make 140 = .ok (.invokevirtual 201, 3) := by decide +kernel
theorem d_Mo_make_143 : decode b_Mo_make 143 = .ok (.aload_n 0, 1) := by decide +kernel
theorem d_Mo_make_144 : decode b_Mo_make 144 = .ok (.getfield 141, 3) := by decide +kernel
theorem d_Mo_make_147 : decode b_Mo_make 147 = .ok (.bipush (24), 2) := by decide +kernel
theorem d_Mo_make_149 : decode b_Mo_make 149 = .ok (.if_icmp .le (6), 3) := by decide +kernel
theorem d_Mo_make_152 : decode b_Mo_make 152 = .ok (.bipush (-9), 2) := by decide +kernel
theorem d_Mo_make_154 : decode b_Mo_make 154 = .ok (.ireturn, 1) := by decide +kernel
theorem d_Mo_make_155 : decode b_Mo_make 155 = .ok (.aload_n 0, 1) := by decide +kernel
theorem d_Mo_make_156 : decode b_Mo_make 156 = .ok (.getfield 209, 3) := by decide +kernel
theorem d_Mo_make_159 : decode b_Mo_make 159 = .ok (.bipush (16), 2) := by decide +kernel
theorem d_Mo_make_161 : decode b_Mo_make 161 = .ok (.if_icmp .ne (6), 3) := by decide +kernel
theorem d_Mo_make_164 : decode b_Mo_make 164 = .ok (.bipush (-8), 2) := by decide +kernel
theorem d_Mo_make_166 : decode b_Mo_make 166 = .ok (.ireturn, 1) := by decide +kernel
theorem d_Mo_make_167 : decode b_Mo_make 167 = .ok (.aload_n 0, 1) := by decide +kernel
theorem d_Mo_make_168 : decode b_Mo_make 168 = .ok (.getfield 16, 3) := by decide +kernel
theorem d_Mo_make_171 : decode b_Mo_make 171 = .ok (.aload_n 0, 1) := by decide +kernel
theorem d_Mo_make_172 : decode b_Mo_make 172 = .ok (.getfield 209, 3) := by decide +kernel
theorem d_Mo_make_175 : decode b_Mo_make 175 = .ok (.iload_n 1, 1) := by decide +kernel
theorem d_Mo_make_176 : decode b_Mo_make 176 = .ok (.iastore, 1) := by decide +kernel
theorem d_Mo_make_177 : decode b_Mo_make 177 = .ok (.aload_n 0, 1) := by decide +kernel
theorem d_Mo_make_178 : decode b_Mo_make 178 = .ok (.getfield 19, 3) := by decide +kernel
theorem d_Mo_make_181 : decode b_Mo_make 181 = .ok (.aload_n 0, 1) := by decide +kernel
theorem d_Mo_make_182 : decode b_Mo_make 182 = .ok (.getfield 209, 3) := by decide +kernel
theorem d_Mo_make_185 : decode b_Mo_make 185 = .ok (.iload_n 2, 1) := by decide +kernel
theorem d_Mo_make_186 : decode b_Mo_make 186 = .ok (.iastore, 1) := by decide +kernel
theorem d_Mo_make_187 : decode b_Mo_make 187 = .ok (.aload_n 0, 1) := by decide +kernel
theorem d_Mo_make_188 : decode b_Mo_make 188 = .ok (.getfield 22, 3) := by decide +kernel
theorem d_Mo_make_191 : decode b_Mo_make 191 = .ok (.aload_n 0, 1) := by decide +kernel
theorem d_Mo_make_192 : decode b_Mo_make 192 = .ok (.getfield 209, 3) := by decide +kernel
theorem d_Mo_make_195 : decode b_Mo_make 195 = .ok (.iload_n 3, 1) := by decide +kernel
theorem d_Mo_make_196 : decode b_Mo_make 196 = .ok (.iastore, 1) := by decide +kernel
theorem d_Mo_make_197 : decode b_Mo_make 197 = .ok (.aload_n 0, 1) := by decide +kernel
theorem d_Mo_make_198 : decode b_Mo_make 198 = .ok (.getfield 25, 3) := by decide +kernel
theorem d_Mo_make_201 : decode b_Mo_make 201 = .ok (.aload_n 0, 1) := by decide +kernel
theorem d_Mo_make_202 : decode b_Mo_make 202 = .ok (.getfield 209, 3) := by decide +kernel
theorem d_Mo_make_205 : decode b_Mo_make 205 = .ok (.iload 4, 2) := by decide +kernel
theorem d_Mo_make_207 : decode b_Mo_make 207 = .ok (.iastore, 1) := by decide +kernel
theorem d_Mo_make_208 : decode b_Mo_make 208 = .ok (.aload_n 0, 1) := by decide +kernel
theorem d_Mo_make_209 : decode b_Mo_make 209 = .ok (.getfield 28, 3) := by decide +kernel
theorem d_Mo_make_212 : decode b_Mo_make 212 = .ok (.aload_n 0, 1) := by decide +kernel
theorem d_Mo_make_213 : decode b_Mo_make 213 = .ok (.getfield 209, 3) := by decide +kernel
theorem d_Mo_make_216 : decode b_Mo_make 216 = .ok (.iload 6, 2) := by decide +kernel
theorem d_Mo_make_218 : decode b_Mo_make 218 = .ok (.bastore, 1) := by decide +kernel
theorem d_Mo_make_219 : decode b_Mo_make 219 = .ok (.aload_n 0, 1) := by decide +kernel
theorem d_Mo_make_220 : decode b_Mo_make 220 = .ok (.getfield 32, 3) := by decide +kernel
theorem d_Mo_make_223 : decode b_Mo_make 223 = .ok (.aload_n 0, 1) := by decide +kernel
theorem d_Mo_make_224 : decode b_Mo_make 224 = .ok (.getfield 209, 3) := by decide +kernel
theorem d_Mo_make_227 : decode b_Mo_make 227 = .ok (.ldc2_w 215, 3) := by decide +kernel
theorem d_Mo_make_230 : decode b_Mo_make 230 = .ok (.lastore, 1) := by decide +kernel
theorem d_Mo_make_231 : decode b_Mo_make 231 = .ok (.aload_n 0, 1) := by decide +kernel
theorem d_Mo_make_232 : decode b_Mo_make 232 = .ok (.dup, 1) := by decide +kernel
theorem d_Mo_make_233 : decode b_Mo_make 233 = .ok (.getfield 209, 3) := by decide +kernel
theorem d_Mo_make_236 : decode b_Mo_make 236 = .ok (.iconst (1), 1) := by decide +kernel
theorem d_Mo_make_237 : decode b_Mo_make 237 = .ok (.iadd, 1) := by decide +kernel
theorem d_Mo_make_238 : decode b_Mo_make 238 = .ok (.putfield 209, 3) := by decide +kernel
theorem d_Mo_make_241 : decode b_Mo_make 241 = .ok (.aload_n 0, 1) := by decide +kernel
theorem d_Mo_make_242 : decode b_Mo_make 242 = .ok (.getfield 209, 3) := by decide +kernel
theorem d_Mo_make_245 : decode b_Mo_make 245 = .ok (.iconst (1), 1) := by decide +kernel
theorem d_Mo_make_246 : decode b_Mo_make 246 = .ok (.isub, 1) := by decide +kernel
theorem d_Mo_make_247 : decode b_Mo_make 247 = .ok (.ireturn, 1) := by decide +kernel
