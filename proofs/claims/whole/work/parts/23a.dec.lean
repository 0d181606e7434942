theorem d_Mo_value_0 : decode b_Mo_value 0 = .ok (.aload_n 0, 1) := by decide +kernel
theorem d_Mo_value_1 : decode b_Mo_value 1 = .ok (.iload_n 1, 1) := by decide +kernel
theorem d_Mo_value_2 : decode b_Mo_value 2 = .ok (.iload_n 2, 1) := by decide +kernel
theorem d_Mo_value_3 : decode b_Mo_value 3 = .ok (.invokevirtual 88, 3) := by decide +kernel
theorem d_Mo_value_6 : decode b_Mo_value 6 = .ok (.istore 5, 2) := by decide +kernel
theorem d_Mo_value_8 : decode b_Mo_value 8 = .ok (.aload_n 0, 1) := by decide +kernel
theorem d_Mo_value_9 : decode b_Mo_value 9 = .ok (.iload_n 1, 1) := by decide +kernel
theorem d_Mo_value_10 : decode b_Mo_value 10 = .ok (.iload 5, 2) := by decide +kernel
theorem d_Mo_value_12 : decode b_Mo_value 12 = .ok (.iconst (1), 1) := by decide +kernel
theorem d_Mo_value_13 : decode b_Mo_value 13 = .ok (.iadd, 1) := by decide +kernel
theorem d_Mo_value_14 : decode b_Mo_value 14 = .ok (.invokevirtual 79, 3) := by decide +kernel
theorem d_Mo_value_17 : decode b_Mo_value 17 = .ok (.istore 6, 2) := by decide +kernel
theorem d_Mo_value_19 : decode b_Mo_value 19 = .ok (.aload_n 0, 1) := by decide +kernel
theorem d_Mo_value_20 : decode b_Mo_value 20 = .ok (.iload_n 1, 1) := by decide +kernel
theorem d_Mo_value_21 : decode b_Mo_value 21 = .ok (.iload 5, 2) := by decide +kernel
theorem d_Mo_value_23 : decode b_Mo_value 23 = .ok (.invokevirtual 79, 3) := by decide +kernel
theorem d_Mo_value_26 : decode b_Mo_value 26 = .ok (.iconst (1), 1) := by decide +kernel
theorem d_Mo_value_27 : decode b_Mo_value 27 = .ok (.if_icmp .ne (110), 3) := by decide +kernel
theorem d_Mo_value_30 : decode b_Mo_value 30 = .ok (.iload 6, 2) := by decide +kernel
theorem d_Mo_value_32 : decode b_Mo_value 32 = .ok (.ifCond .ne (5), 3) := by decide +kernel
theorem d_Mo_value_35 : decode b_Mo_value 35 = .ok (.lload_n 3, 1) := by decide +kernel
theorem d_Mo_value_36 : decode b_Mo_value 36 = .ok (.lreturn, 1) := by decide +kernel
theorem d_Mo_value_37 : decode b_Mo_value 37 = .ok (.lload_n 3, 1) := by decide +kernel
theorem d_Mo_value_38 : decode b_Mo_value 38 = .ok (.iload 6, 2) := by decide +kernel
theorem d_Mo_value_40 : decode b_Mo_value 40 = .ok (.iconst (1), 1) := by decide +kernel
theorem d_Mo_value_41 : decode b_Mo_value 41 = .ok (.isub, 1) := by decide +kernel
theorem d_Mo_value_42 : decode b_Mo_value 42 = .ok (.i2l, 1) := by decide +kernel
theorem d_Mo_value_43 : decode b_Mo_value 43 = .ok (.lmul, 1) := by decide +kernel
theorem d_Mo_value_44 : decode b_Mo_value 44 = .ok (.lstore 7, 2) := by decide +kernel
theorem d_Mo_value_46 : decode b_Mo_value 46 = .ok (.lload 7, 2) := by decide +kernel
theorem d_Mo_value_48 : decode b_Mo_value 48 = .ok (.ldc2_w 112, 3) := by decide +kernel
theorem d_Mo_value_51 : decode b_Mo_value 51 = .ok (.ldiv, 1) := by decide +kernel
theorem d_Mo_value_52 : decode b_Mo_value 52 = .ok (.iload 6, 2) := by decide +kernel
theorem d_Mo_value_54 : decode b_Mo_value 54 = .ok (.iconst (2), 1) := by decide +kernel
theorem d_Mo_value_55 : decode b_Mo_value 55 = .ok (.isub, 1) := by decide +kernel
theorem d_Mo_value_56 : decode b_Mo_value 56 = .ok (.i2l, 1) := by decide +kernel
theorem d_Mo_value_57 : decode b_Mo_value 57 = .ok (.lcmp, 1) := by decide +kernel
theorem d_Mo_value_58 : decode b_Mo_value 58 = .ok (.ifCond .ge (13), 3) := by decide +kernel
theorem d_Mo_value_61 : decode b_Mo_value 61 = .ok (.lload 7, 2) := by decide +kernel
theorem d_Mo_value_63 : decode b_Mo_value 63 = .ok (.ldc2_w 112, 3) := by decide +kernel
theorem d_Mo_value_66 : decode b_Mo_value 66 = .ok (.ldiv, 1) := by decide +kernel
theorem d_Mo_value_67 : decode b_Mo_value 67 = .ok (.l2i, 1) := by decide +kernel
theorem d_Mo_value_68 : decode b_Mo_value 68 = .ok (.goto (7), 3) := by decide +kernel
theorem d_Mo_value_71 : decode b_Mo_value 71 = .ok (.iload 6, 2) := by decide +kernel
theorem d_Mo_value_73 : decode b_Mo_value 73 = .ok (.iconst (2), 1) := by decide +kernel
theorem d_Mo_value_74 : decode b_Mo_value 74 = .ok (.isub, 1) := by decide +kernel
theorem d_Mo_value_75 : decode b_Mo_value 75 = .ok (.istore 9, 2) := by decide +kernel
theorem d_Mo_value_77 : decode b_Mo_value 77 = .ok (.aload_n 0, 1) := by decide +kernel
theorem d_Mo_value_78 : decode b_Mo_value 78 = .ok (.iload_n 1, 1) := by decide +kernel
theorem d_Mo_value_79 : decode b_Mo_value 79 = .ok (.iload 5, 2) := by decide +kernel
theorem d_Mo_value_81 : decode b_Mo_value 81 = .ok (.iconst (2), 1) := by decide +kernel
theorem d_Mo_value_82 : decode b_Mo_value 82 = .ok (.iadd, 1) := by decide +kernel
theorem d_Mo_value_83 : decode b_Mo_value 83 = .ok (.iconst (2), 1) := by decide +kernel
theorem d_Mo_value_84 : decode b_Mo_value 84 = .ok (.iload 9, 2) := by decide +kernel
theorem d_Mo_value_86 : decode b_Mo_value 86 = .ok (.imul, 1) := by decide +kernel
theorem d_Mo_value_87 : decode b_Mo_value 87 = .ok (.iadd, 1) := by decide +kernel
theorem d_Mo_value_88 : decode b_Mo_value 88 = .ok (.invokevirtual 95, 3) := by decide +kernel
theorem d_Mo_value_91 : decode b_Mo_value 91 = .ok (.i2l, 1) := by decide +kernel
theorem d_Mo_value_92 : decode b_Mo_value 92 = .ok (.lstore 10, 2) := by decide +kernel
theorem d_Mo_value_94 : decode b_Mo_value 94 = .ok (.aload_n 0, 1) := by decide +kernel
theorem d_Mo_value_95 : decode b_Mo_value 95 = .ok (.iload_n 1, 1) := by decide +kernel
theorem d_Mo_value_96 : decode b_Mo_value 96 = .ok (.iload 5, 2) := by decide +kernel
theorem d_Mo_value_98 : decode b_Mo_value 98 = .ok (.iconst (4), 1) := by decide +kernel
theorem d_Mo_value_99 : decode b_Mo_value 99 = .ok (.iadd, 1) := by decide +kernel
theorem d_Mo_value_100 : decode b_Mo_value 100 = .ok (.iconst (2), 1) := by decide +kernel
theorem d_Mo_value_101 : decode b_Mo_value 101 = .ok (.iload 9, 2) := by decide +kernel
theorem d_Mo_value_103 : decode b_Mo_value 103 = .ok (.imul, 1) := by decide +kernel
theorem d_Mo_value_104 : decode b_Mo_value 104 = .ok (.iadd, 1) := by decide +kernel
theorem d_Mo_value_105 : decode b_Mo_value 105 = .ok (.invokevirtual 95, 3) := by decide +kernel
theorem d_Mo_value_108 : decode b_Mo_value 108 = .ok (.i2l, 1) := by decide +kernel
theorem d_Mo_value_109 : decode b_Mo_value 109 = .ok (.lstore 12, 2) := by decide +kernel
theorem d_Mo_value_111 : decode b_Mo_value 111 = .ok (.lload 10, 2) := by decide +kernel
theorem d_Mo_value_113 : decode b_Mo_value 113 = .ok (.lload 12, 2) := by decide +kernel
theorem d_Mo_value_115 : decode b_Mo_value 115 = .ok (.lload 10, 2) := by decide +kernel
theorem d_Mo_value_117 : decode b_Mo_value 117 = .ok (.lsub, 1) := by decide +kernel
theorem d_Mo_value_118 : decode b_Mo_value 118 = .ok (.lload 7, 2) := by decide +kernel
theorem d_Mo_value_120 : decode b_Mo_value 120 = .ok (.ldc2_w 112, 3) := by decide +kernel
theorem d_Mo_value_123 : decode b_Mo_value 123 = .ok (.iload 9, 2) := by decide +kernel
theorem d_Mo_value_125 : decode b_Mo_value 125 = .ok (.i2l, 1) := by decide +kernel
theorem d_Mo_value_126 : decode b_Mo_value 126 = .ok (.lmul, 1) := by decide +kernel
theorem d_Mo_value_127 : decode b_Mo_value 127 = .ok (.lsub, 1) := by decide +kernel
theorem d_Mo_value_128 : decode b_Mo_value 128 = .ok (.lmul, 1) := by decide +kernel
theorem d_Mo_value_129 : decode b_Mo_value 129 = .ok (.ldc2_w 112, 3) := by decide +kernel
theorem d_Mo_value_132 : decode b_Mo_value 132 = .ok (.invokestatic 114, 3) := by decide +kernel
theorem d_Mo_value_135 : decode b_Mo_value 135 = .ok (.ladd, 1) := by decide +kernel
theorem d_Mo_value_136 : decode b_Mo_value 136 = .ok (.lreturn, 1) := by decide +kernel
theorem d_Mo_value_137 : decode b_Mo_value 137 = .ok (.lload_n 3, 1) := by decide +kernel
theorem d_Mo_value_138 : decode b_Mo_value 138 = .ok (.aload_n 0, 1) := by decide +kernel
theorem d_Mo_value_139 : decode b_Mo_value 139 = .ok (.iload_n 1, 1) := by decide +kernel
theorem d_Mo_value_140 : decode b_Mo_value 140 = .ok (.iload 5, 2) := by decide +kernel
theorem d_Mo_value_142 : decode b_Mo_value 142 = .ok (.iconst (4), 1) := by decide +kernel
theorem d_Mo_value_143 : decode b_Mo_value 143 = .ok (.iadd, 1) := by decide +kernel
theorem d_Mo_value_144 : decode b_Mo_value 144 = .ok (.invokevirtual 95, 3) := by decide +kernel
theorem d_Mo_value_147 : decode b_Mo_value 147 = .ok (.i2l, 1) := by decide +kernel
theorem d_Mo_value_148 : decode b_Mo_value 148 = .ok (.lcmp, 1) := by decide +kernel
theorem d_Mo_value_149 : decode b_Mo_value 149 = .ok (.ifCond .ge (22), 3) := by decide +kernel
theorem d_Mo_value_152 : decode b_Mo_value 152 = .ok (.aload_n 0, 1) := by decide +kernel
theorem d_Mo_value_153 : decode b_Mo_value 153 = .ok (.iload_n 1, 1) := by decide +kernel
theorem d_Mo_value_154 : decode b_Mo_value 154 = .ok (.iload 5, 2) := by decide +kernel
theorem d_Mo_value_156 : decode b_Mo_value 156 = .ok (.iconst (2), 1) := by decide +kernel
theorem d_Mo_value_157 : decode b_Mo_value 157 = .ok (.iadd, 1) := by decide +kernel
theorem d_Mo_value_158 : decode b_Mo_value 158 = .ok (.invokevirtual 95, 3) := by decide +kernel
theorem d_Mo_value_161 : decode b_Mo_value 161 = .ok (.i2l, 1) := by decide +kernel
theorem d_Mo_value_162 : decode b_Mo_value 162 = .ok (.lload_n 3, 1) := by decide +kernel
theorem d_Mo_value_163 : decode b_Mo_value 163 = .ok (.lmul, 1) := by decide +kernel
theorem d_Mo_value_164 : decode b_Mo_value 164 = .ok (.ldc2_w 122, 3) := by decide +kernel
theorem d_Mo_value_167 : decode b_Mo_value 167 = .ok (.invokestatic 124, 3) := by decide +kernel
theorem d_Mo_value_170 : decode b_Mo_value 170 = .ok (.lreturn, 1) := by decide +kernel
theorem d_Mo_value_171 : decode b_Mo_value 171 = .ok (.lload_n 3, 1) := by decide +kernel
theorem d_Mo_value_172 : decode b_Mo_value 172 = .ok (.lstore 7, 2) := by decide +kernel
theorem d_Mo_value_174 : decode b_Mo_value 174 = .ok (.iconst (1), 1) := by decide +kernel
theorem d_Mo_value_175 : decode b_Mo_value 175 = .ok (.istore 9, 2) := by decide +kernel
theorem d_Mo_value_177 : decode b_Mo_value 177 = .ok (.iload 9, 2) := by decide +kernel
theorem d_Mo_value_179 : decode b_Mo_value 179 = .ok (.iload 6, 2) := by decide +kernel
theorem d_Mo_value_181 : decode b_Mo_value 181 = .ok (.if_icmp .ge (21), 3) := by decide +kernel
theorem d_Mo_value_184 : decode b_Mo_value 184 = .ok (.lload 7, 2) := by decide +kernel
theorem d_Mo_value_186 : decode b_Mo_value 186 = .ok (.lload_n 3, 1) := by decide +kernel
theorem d_Mo_value_187 : decode b_Mo_value 187 = .ok (.lmul, 1) := by decide +kernel
theorem d_Mo_value_188 : decode b_Mo_value 188 = .ok (.ldc2_w 112, 3) := by decide +kernel
theorem d_Mo_value_191 : decode b_Mo_value 191 = .ok (.invokestatic 114, 3) := by decide +kernel
theorem d_Mo_value_194 : decode b_Mo_value 194 = .ok (.lstore 7, 2) := by decide +kernel
theorem d_Mo_value_196 : decode b_Mo_value 196 = .ok (.iinc 9 (1), 3) := by decide +kernel
theorem d_Mo_value_199 : decode b_Mo_value 199 = .ok (.goto (-22), 3) := by decide +kernel
theorem d_Mo_value_202 : decode b_Mo_value 202 = .ok (.lload 7, 2) := by decide +kernel
theorem d_Mo_value_204 : decode b_Mo_value 204 = .ok (.lreturn, 1) := by decide +kernel
theorem d_Mo_rising_0 : decode b_Mo_rising 0 = .ok (.aload_n 0, 1) := by decide +kernel
theorem d_Mo_rising_1 : decode b_Mo_rising 1 = .ok (.iload_n 1, 1) := by decide +kernel
theorem d_Mo_rising_2 : decode b_Mo_rising 2 = .ok (.iload_n 2, 1) := by decide +kernel
theorem d_Mo_rising_3 : decode b_Mo_rising 3 = .ok (.invokevirtual 88, 3) := by decide +kernel
theorem d_Mo_rising_6 : decode b_Mo_rising 6 = .ok (.istore_n 3, 1) := by decide +kernel
theorem d_Mo_rising_7 : decode b_Mo_rising 7 = .ok (.aload_n 0, 1) := by decide +kernel
theorem d_Mo_rising_8 : decode b_Mo_rising 8 = .ok (.iload_n 1, 1) := by decide +kernel
theorem d_Mo_rising_9 : decode b_Mo_rising 9 = .ok (.iload_n 3, 1) := by decide +kernel
theorem d_Mo_rising_10 : decode b_Mo_rising 10 = .ok (.invokevirtual 79, 3) := by decide +kernel
theorem d_Mo_rising_13 : decode b_Mo_rising 13 = .ok (.iconst (1), 1) := by decide +kernel
theorem d_Mo_rising_14 : decode b_Mo_rising 14 = .ok (.if_icmp .ne (70), 3) := by decide +kernel
theorem d_Mo_rising_17 : decode b_Mo_rising 17 = .ok (.iconst (1), 1) := by decide +kernel
theorem d_Mo_rising_18 : decode b_Mo_rising 18 = .ok (.istore 4, 2) := by decide +kernel
theorem d_Mo_rising_20 : decode b_Mo_rising 20 = .ok (.iconst (1), 1) := by decide +kernel
theorem d_Mo_rising_21 : decode b_Mo_rising 21 = .ok (.istore 5, 2) := by decide +kernel
theorem d_Mo_rising_23 : decode b_Mo_rising 23 = .ok (.iload 5, 2) := by decide +kernel
theorem d_Mo_rising_25 : decode b_Mo_rising 25 = .ok (.aload_n 0, 1) := by decide +kernel
theorem d_Mo_rising_26 : decode b_Mo_rising 26 = .ok (.iload_n 1, 1) := by decide +kernel
theorem d_Mo_rising_27 : decode b_Mo_rising 27 = .ok (.iload_n 3, 1) := by decide +kernel
theorem d_Mo_rising_28 : decode b_Mo_rising 28 = .ok (.iconst (1), 1) := by decide +kernel
theorem d_Mo_rising_29 : decode b_Mo_rising 29 = .ok (.iadd, 1) := by decide +kernel
theorem d_Mo_rising_30 : decode b_Mo_rising 30 = .ok (.invokevirtual 79, 3) := by decide +kernel
theorem d_Mo_rising_33 : decode b_Mo_rising 33 = .ok (.if_icmp .ge (48), 3) := by decide +kernel
theorem d_Mo_rising_36 : decode b_Mo_rising 36 = .ok (.iload 4, 2) := by decide +kernel
theorem d_Mo_rising_38 : decode b_Mo_rising 38 = .ok (.ifCond .eq (34), 3) := by decide +kernel
theorem d_Mo_rising_41 : decode b_Mo_rising 41 = .ok (.aload_n 0, 1) := by decide +kernel
theorem d_Mo_rising_42 : decode b_Mo_rising 42 = .ok (.iload_n 1, 1) := by decide +kernel
theorem d_Mo_rising_43 : decode b_Mo_rising 43 = .ok (.iload_n 3, 1) := by decide +kernel
theorem d_Mo_rising_44 : decode b_Mo_rising 44 = .ok (.iconst (2), 1) := by decide +kernel
theorem d_Mo_rising_45 : decode b_Mo_rising 45 = .ok (.iadd, 1) := by decide +kernel
theorem d_Mo_rising_46 : decode b_Mo_rising 46 = .ok (.iconst (2), 1) := by decide +kernel
theorem d_Mo_rising_47 : decode b_Mo_rising 47 = .ok (.iload 5, 2) := by decide +kernel
theorem d_Mo_rising_49 : decode b_Mo_rising 49 = .ok (.imul, 1) := by decide +kernel
theorem d_Mo_rising_50 : decode b_Mo_rising 50 = .ok (.iadd, 1) := by decide +kernel
theorem d_Mo_rising_51 : decode b_Mo_rising 51 = .ok (.invokevirtual 95, 3) := by decide +kernel
theorem d_Mo_rising_54 : decode b_Mo_rising 54 = .ok (.aload_n 0, 1) := by decide +kernel
theorem d_Mo_rising_55 : decode b_Mo_rising 55 = .ok (.iload_n 1, 1) := by decide +kernel
theorem d_Mo_rising_56 : decode b_Mo_rising 56 = .ok (.iload_n 3, 1) := by decide +kernel
theorem d_Mo_rising_57 : decode b_Mo_rising 57 = .ok (.iconst (2), 1) := by decide +kernel
theorem d_Mo_rising_58 : decode b_Mo_rising 58 = .ok (.iload 5, 2) := by decide +kernel
theorem d_Mo_rising_60 : decode b_Mo_rising 60 = .ok (.imul, 1) := by decide +kernel
theorem d_Mo_rising_61 : decode b_Mo_rising 61 = .ok (.iadd, 1) := by decide +kernel
theorem d_Mo_rising_62 : decode b_Mo_rising 62 = .ok (.invokevirtual 95, 3) := by decide +kernel
theorem d_Mo_rising_65 : decode b_Mo_rising 65 = .ok (.if_icmp .le (7), 3) := by decide +kernel
theorem d_Mo_rising_68 : decode b_Mo_rising 68 = .ok (.iconst (1), 1) := by decide +kernel
theorem d_Mo_rising_69 : decode b_Mo_rising 69 = .ok (.goto (4), 3) := by decide +kernel
theorem d_Mo_rising_72 : decode b_Mo_rising 72 = .ok (.iconst (0), 1) := by decide +kernel
theorem d_Mo_rising_73 : decode b_Mo_rising 73 = .ok (.istore 4, 2) := by decide +kernel
theorem d_Mo_rising_75 : decode b_Mo_rising 75 = .ok (.iinc 5 (1), 3) := by decide +kernel
theorem d_Mo_rising_78 : decode b_Mo_rising 78 = .ok (.goto (-55), 3) := by decide +kernel
theorem d_Mo_rising_81 : decode b_Mo_rising 81 = .ok (.iload 4, 2) := by decide +kernel
theorem d_Mo_rising_83 : decode b_Mo_rising 83 = .ok (.ireturn, 1) := by decide +kernel
theorem d_Mo_rising_84 : decode b_Mo_rising 84 = .ok (.aload_n 0, 1) := by decide +kernel
theorem d_Mo_rising_85 : decode b_Mo_rising 85 = .ok (.iload_n 1, 1) := by decide +kernel
theorem d_Mo_rising_86 : decode b_Mo_rising 86 = .ok (.iload_n 3, 1) := by decide +kernel
theorem d_Mo_rising_87 : decode b_Mo_rising 87 = .ok (.iconst (4), 1) := by decide +kernel
theorem d_Mo_rising_88 : decode b_Mo_rising 88 = .ok (.iadd, 1) := by decide +kernel
theorem d_Mo_rising_89 : decode b_Mo_rising 89 = .ok (.invokevirtual 95, 3) := by decide +kernel
theorem d_Mo_rising_92 : decode b_Mo_rising 92 = .ok (.i2l, 1) := by decide +kernel
theorem d_Mo_rising_93 : decode b_Mo_rising 93 = .ok (.lstore 4, 2) := by decide +kernel
theorem d_Mo_rising_95 : decode b_Mo_rising 95 = .ok (.lload 4, 2) := by decide +kernel
theorem d_Mo_rising_97 : decode b_Mo_rising 97 = .ok (.lconst 0, 1) := by decide +kernel
theorem d_Mo_rising_98 : decode b_Mo_rising 98 = .ok (.lcmp, 1) := by decide +kernel
theorem d_Mo_rising_99 : decode b_Mo_rising 99 = .ok (.ifCond .eq (25), 3) := by decide +kernel
theorem d_Mo_rising_102 : decode b_Mo_rising 102 = .ok (.aload_n 0, 1) := by decide +kernel
theorem d_Mo_rising_103 : decode b_Mo_rising 103 = .ok (.iload_n 1, 1) := by decide +kernel
theorem d_Mo_rising_104 : decode b_Mo_rising 104 = .ok (.iload_n 2, 1) := by decide +kernel
theorem d_Mo_rising_105 : decode b_Mo_rising 105 = .ok (.lload 4, 2) := by decide +kernel
theorem d_Mo_rising_107 : decode b_Mo_rising 107 = .ok (.lconst 1, 1) := by decide +kernel
theorem d_Mo_rising_108 : decode b_Mo_rising 108 = .ok (.lsub, 1) := by decide +kernel
theorem d_Mo_rising_109 : decode b_Mo_rising 109 = .ok (.invokevirtual 127, 3) := by decide +kernel
theorem d_Mo_rising_112 : decode b_Mo_rising 112 = .ok (.aload_n 0, 1) := by decide +kernel
theorem d_Mo_rising_113 : decode b_Mo_rising 113 = .ok (.iload_n 1, 1) := by decide +kernel
theorem d_Mo_rising_114 : decode b_Mo_rising 114 = .ok (.iload_n 2, 1) := by decide +kernel
theorem d_Mo_rising_115 : decode b_Mo_rising 115 = .ok (.lload 4, 2) := by decide +kernel
theorem d_Mo_rising_117 : decode b_Mo_rising 117 = .ok (.invokevirtual 127, 3) := by decide +kernel
theorem d_Mo_rising_120 : decode b_Mo_rising 120 = .ok (.lcmp, 1) := by decide +kernel
theorem d_Mo_rising_121 : decode b_Mo_rising 121 = .ok (.ifCond .gt (7), 3) := by decide +kernel
theorem d_Mo_rising_124 : decode b_Mo_rising 124 = .ok (.iconst (1), 1) := by decide +kernel
theorem d_Mo_rising_125 : decode b_Mo_rising 125 = .ok (.goto (4), 3) := by decide +kernel
theorem d_Mo_rising_128 : decode b_Mo_rising 128 = .ok (.iconst (0), 1) := by decide +kernel
theorem d_Mo_rising_129 : decode b_Mo_rising 129 = .ok (.ireturn, 1) := by decide +kernel
theorem d_Mo_inverse_0 : decode b_Mo_inverse 0 = .ok (.lconst 0, 1) := by decide +kernel
theorem d_Mo_inverse_1 : decode b_Mo_inverse 1 = .ok (.lstore 5, 2) := by decide +kernel
theorem d_Mo_inverse_3 : decode b_Mo_inverse 3 = .ok (.ldc2_w 131, 3) := by decide +kernel
theorem d_Mo_inverse_6 : decode b_Mo_inverse 6 = .ok (.lstore 7, 2) := by decide +kernel
theorem d_Mo_inverse_8 : decode b_Mo_inverse 8 = .ok (.lload 7, 2) := by decide +kernel
theorem d_Mo_inverse_10 : decode b_Mo_inverse 10 = .ok (.lconst 0, 1) := by decide +kernel
theorem d_Mo_inverse_11 : decode b_Mo_inverse 11 = .ok (.lcmp, 1) := by decide +kernel
theorem d_Mo_inverse_12 : decode b_Mo_inverse 12 = .ok (.ifCond .le (48), 3) := by decide +kernel
theorem d_Mo_inverse_15 : decode b_Mo_inverse 15 = .ok (.aload_n 0, 1) := by decide +kernel
theorem d_Mo_inverse_16 : decode b_Mo_inverse 16 = .ok (.iload_n 1, 1) := by decide +kernel
theorem d_Mo_inverse_17 : decode b_Mo_inverse 17 = .ok (.iload_n 2, 1) := by decide +kernel
theorem d_Mo_inverse_18 : decode b_Mo_inverse 18 = .ok (.lload 5, 2) := by decide +kernel
theorem d_Mo_inverse_20 : decode b_Mo_inverse 20 = .ok (.lload 7, 2) := by decide +kernel
theorem d_Mo_inverse_22 : decode b_Mo_inverse 22 = .ok (.ladd, 1) := by decide +kernel
theorem d_Mo_inverse_23 : decode b_Mo_inverse 23 = .ok (.lconst 1, 1) := by decide +kernel
theorem d_Mo_inverse_24 : decode b_Mo_inverse 24 = .ok (.lsub, 1) := by decide +kernel
theorem d_Mo_inverse_25 : decode b_Mo_inverse 25 = .ok (.invokevirtual 127, 3) := by decide +kernel
theorem d_Mo_inverse_28 : decode b_Mo_inverse 28 = .ok (.lstore 9, 2) := by decide +kernel
theorem d_Mo_inverse_30 : decode b_Mo_inverse 30 = .ok (.lload 9, 2) := by decide +kernel
theorem d_Mo_inverse_32 : decode b_Mo_inverse 32 = .ok (.lload_n 3, 1) := by decide +kernel
theorem d_Mo_inverse_33 : decode b_Mo_inverse 33 = .ok (.lcmp, 1) := by decide +kernel
theorem d_Mo_inverse_34 : decode b_Mo_inverse 34 = .ok (.ifCond .ge (11), 3) := by decide +kernel
theorem d_Mo_inverse_37 : decode b_Mo_inverse 37 = .ok (.lload 5, 2) := by decide +kernel
theorem d_Mo_inverse_39 : decode b_Mo_inverse 39 = .ok (.lload 7, 2) := by decide +kernel
theorem d_Mo_inverse_41 : decode b_Mo_inverse 41 = .ok (.ladd, 1) := by decide +kernel
theorem d_Mo_inverse_42 : decode b_Mo_inverse 42 = .ok (.goto (5), 3) := by decide +kernel
theorem d_Mo_inverse_45 : decode b_Mo_inverse 45 = .ok (.lload 5, 2) := by decide +kernel
theorem d_Mo_inverse_47 : decode b_Mo_inverse 47 = .ok (.lstore 5, 2) := by decide +kernel
theorem d_Mo_inverse_49 : decode b_Mo_inverse 49 = .ok (.lload 7, 2) := by decide +kernel
theorem d_Mo_inverse_51 : decode b_Mo_inverse 51 = .ok (.ldc2_w 110, 3) := by decide +kernel
theorem d_Mo_inverse_54 : decode b_Mo_inverse 54 = .ok (.ldiv, 1) := by decide +kernel
theorem d_Mo_inverse_55 : decode b_Mo_inverse 55 = .ok (.lstore 7, 2) := by decide +kernel
theorem d_Mo_inverse_57 : decode b_Mo_inverse 57 = .ok (.goto (-49), 3) := by decide +kernel
theorem d_Mo_inverse_60 : decode b_Mo_inverse 60 = .ok (.lload 5, 2) := by decide +kernel
theorem d_Mo_inverse_62 : decode b_Mo_inverse 62 = .ok (.lreturn, 1) := by decide +kernel
theorem d_Mo_curve_0 : decode b_Mo_curve 0 = .ok (.aload_n 0, 1) := by decide +kernel
theorem d_Mo_curve_1 : decode b_Mo_curve 1 = .ok (.iload_n 1, 1) := by decide +kernel
theorem d_Mo_curve_2 : decode b_Mo_curve 2 = .ok (.invokevirtual 99, 3) := by decide +kernel
theorem d_Mo_curve_5 : decode b_Mo_curve 5 = .ok (.ifCond .eq (23), 3) := by decide +kernel
theorem d_Mo_curve_8 : decode b_Mo_curve 8 = .ok (.iload_n 2, 1) := by decide +kernel
theorem d_Mo_curve_9 : decode b_Mo_curve 9 = .ok (.iconst (1), 1) := by decide +kernel
theorem d_Mo_curve_10 : decode b_Mo_curve 10 = .ok (.if_icmp .lt (18), 3) := by decide +kernel
theorem d_Mo_curve_13 : decode b_Mo_curve 13 = .ok (.iload_n 2, 1) := by decide +kernel
theorem d_Mo_curve_14 : decode b_Mo_curve 14 = .ok (.iconst (4), 1) := by decide +kernel
theorem d_Mo_curve_15 : decode b_Mo_curve 15 = .ok (.if_icmp .gt (13), 3) := by decide +kernel
theorem d_Mo_curve_18 : decode b_Mo_curve 18 = .ok (.iload_n 3, 1) := by decide +kernel
theorem d_Mo_curve_19 : decode b_Mo_curve 19 = .ok (.ifCond .lt (9), 3) := by decide +kernel
theorem d_Mo_curve_22 : decode b_Mo_curve 22 = .ok (.iload_n 3, 1) := by decide +kernel
theorem d_Mo_curve_23 : decode b_Mo_curve 23 = .ok (.ldc 133, 2) := by decide +kernel
theorem d_Mo_curve_25 : decode b_Mo_curve 25 = .ok (.if_icmp .le (5), 3) := by decide +kernel
theorem d_Mo_curve_28 : decode b_Mo_curve 28 = .ok (.iconst (-1), 1) := by decide +kernel
theorem d_Mo_curve_29 : decode b_Mo_curve 29 = .ok (.ireturn, 1) := by decide +kernel
theorem d_Mo_curve_30 : decode b_Mo_curve 30 = .ok (.aload_n 0, 1) := by decide +kernel
theorem d_Mo_curve_31 : decode b_Mo_curve 31 = .ok (.iload_n 1, 1) := by decide +kernel
theorem d_Mo_curve_32 : decode b_Mo_curve 32 = .ok (.iload_n 2, 1) := by decide +kernel
theorem d_Mo_curve_33 : decode b_Mo_curve 33 = .ok (.invokevirtual 82, 3) := by decide +kernel
theorem d_Mo_curve_36 : decode b_Mo_curve 36 = .ok (.ifCond .lt (17), 3) := by decide +kernel
theorem d_Mo_curve_39 : decode b_Mo_curve 39 = .ok (.iload 4, 2) := by decide +kernel
theorem d_Mo_curve_41 : decode b_Mo_curve 41 = .ok (.ifCond .eq (14), 3) := by decide +kernel
theorem d_Mo_curve_44 : decode b_Mo_curve 44 = .ok (.aload_n 0, 1) := by decide +kernel
theorem d_Mo_curve_45 : decode b_Mo_curve 45 = .ok (.iload_n 1, 1) := by decide +kernel
theorem d_Mo_curve_46 : decode b_Mo_curve 46 = .ok (.iload_n 2, 1) := by decide +kernel
theorem d_Mo_curve_47 : decode b_Mo_curve 47 = .ok (.invokevirtual 134, 3) := by decide +kernel
theorem d_Mo_curve_50 : decode b_Mo_curve 50 = .ok (.ifCond .ne (5), 3) := by decide +kernel
theorem d_Mo_curve_53 : decode b_Mo_curve 53 = .ok (.iconst (-1), 1) := by decide +kernel
theorem d_Mo_curve_54 : decode b_Mo_curve 54 = .ok (.ireturn, 1) := by decide +kernel
theorem d_Mo_curve_55 : decode b_Mo_curve 55 = .ok (.iload 4, 2) := by decide +kernel
theorem d_Mo_curve_57 : decode b_Mo_curve 57 = .ok (.ifCond .eq (14), 3) := by decide +kernel
theorem d_Mo_curve_60 : decode b_Mo_curve 60 = .ok (.aload_n 0, 1) := by decide +kernel
theorem d_Mo_curve_61 : decode b_Mo_curve 61 = .ok (.iload_n 1, 1) := by decide +kernel
theorem d_Mo_curve_62 : decode b_Mo_curve 62 = .ok (.iload_n 2, 1) := by decide +kernel
theorem d_Mo_curve_63 : decode b_Mo_curve 63 = .ok (.iload_n 3, 1) := by decide +kernel
theorem d_Mo_curve_64 : decode b_Mo_curve 64 = .ok (.i2l, 1) := by decide +kernel
theorem d_Mo_curve_65 : decode b_Mo_curve 65 = .ok (.invokevirtual 138, 3) := by decide +kernel
theorem d_Mo_curve_68 : decode b_Mo_curve 68 = .ok (.goto (11), 3) := by decide +kernel
theorem d_Mo_curve_71 : decode b_Mo_curve 71 = .ok (.aload_n 0, 1) := by decide +kernel
theorem d_Mo_curve_72 : decode b_Mo_curve 72 = .ok (.iload_n 1, 1) := by decide +kernel
theorem d_Mo_curve_73 : decode b_Mo_curve 73 = .ok (.iload_n 2, 1) := by decide +kernel
theorem d_Mo_curve_74 : decode b_Mo_curve 74 = .ok (.iload_n 3, 1) := by decide +kernel
theorem d_Mo_curve_75 : decode b_Mo_curve 75 = .ok (.i2l, 1) := by decide +kernel
theorem d_Mo_curve_76 : decode b_Mo_curve 76 = .ok (.invokevirtual 127, 3) := by decide +kernel
theorem d_Mo_curve_79 : decode b_Mo_curve 79 = .ok (.l2i, 1) := by decide +kernel
theorem d_Mo_curve_80 : decode b_Mo_curve 80 = .ok (.ireturn, 1) := by decide +kernel
theorem d_Profile_isSourceAlone_0 : decode b_Profile_isSourceAlone 0 = .ok (.aload_n 0, 1) := by decide +kernel
theorem d_Profile_isSourceAlone_1 : decode b_Profile_isSourceAlone 1 = .ok (.getfield 33, 3) := by decide +kernel
theorem d_Profile_isSourceAlone_4 : decode b_Profile_isSourceAlone 4 = .ok (.iconst (2), 1) := by decide +kernel
theorem d_Profile_isSourceAlone_5 : decode b_Profile_isSourceAlone 5 = .ok (.iaload, 1) := by decide +kernel
theorem d_Profile_isSourceAlone_6 : decode b_Profile_isSourceAlone 6 = .ok (.iconst (1), 1) := by decide +kernel
theorem d_Profile_isSourceAlone_7 : decode b_Profile_isSourceAlone 7 = .ok (.if_icmp .ne (7), 3) := by decide +kernel
theorem d_Profile_isSourceAlone_10 : decode b_Profile_isSourceAlone 10 = .ok (.iconst (1), 1) := by decide +kernel
theorem d_Profile_isSourceAlone_11 : decode b_Profile_isSourceAlone 11 = .ok (.goto (4), 3) := by decide +kernel
theorem d_Profile_isSourceAlone_14 : decode b_Profile_isSourceAlone 14 = .ok (.iconst (0), 1) := by decide +kernel
theorem d_Profile_isSourceAlone_15 : decode b_Profile_isSourceAlone 15 = .ok (.ireturn, 1) := by decide +kernel
theorem d_Profile_backPiece_0 : decode b_Profile_backPiece 0 = .ok (.aload_n 0, 1) := by decide +kernel
theorem d_Profile_backPiece_1 : decode b_Profile_backPiece 1 = .ok (.bipush (9), 2) := by decide +kernel
theorem d_Profile_backPiece_3 : decode b_Profile_backPiece 3 = .ok (.iload_n 1, 1) := by decide +kernel
theorem d_Profile_backPiece_4 : decode b_Profile_backPiece 4 = .ok (.invokevirtual 84, 3) := by decide +kernel
theorem d_Profile_backPiece_7 : decode b_Profile_backPiece 7 = .ok (.astore_n 3, 1) := by decide +kernel
theorem d_Profile_backPiece_8 : decode b_Profile_backPiece 8 = .ok (.aload_n 3, 1) := by decide +kernel
theorem d_Profile_backPiece_9 : decode b_Profile_backPiece 9 = .ok (.ifnull (13), 3) := by decide +kernel
theorem d_Profile_backPiece_12 : decode b_Profile_backPiece 12 = .ok (.iload_n 2, 1) := by decide +kernel
theorem d_Profile_backPiece_13 : decode b_Profile_backPiece 13 = .ok (.ifCond .ne (7), 3) := by decide +kernel
theorem d_Profile_backPiece_16 : decode b_Profile_backPiece 16 = .ok (.aload_n 3, 1) := by decide +kernel
theorem d_Profile_backPiece_17 : decode b_Profile_backPiece 17 = .ok (.goto (4), 3) := by decide +kernel
theorem d_Profile_backPiece_20 : decode b_Profile_backPiece 20 = .ok (.aconst_null, 1) := by decide +kernel
theorem d_Profile_backPiece_21 : decode b_Profile_backPiece 21 = .ok (.areturn, 1) := by decide +kernel
theorem d_Profile_backPiece_22 : decode b_Profile_backPiece 22 = .ok (.iload_n 2, 1) := by decide +kernel
theorem d_Profile_backPiece_23 : decode b_Profile_backPiece 23 = .ok (.ifCond .ne (10), 3) := by decide +kernel
theorem d_Profile_backPiece_26 : decode b_Profile_backPiece 26 = .ok (.aload_n 0, 1) := by decide +kernel
theorem d_Profile_backPiece_27 : decode b_Profile_backPiece 27 = .ok (.getfield 72, 3) := by decide +kernel
theorem d_Profile_backPiece_30 : decode b_Profile_backPiece 30 = .ok (.goto (7), 3) := by decide +kernel
theorem d_Profile_backPiece_33 : decode b_Profile_backPiece 33 = .ok (.aload_n 0, 1) := by decide +kernel
theorem d_Profile_backPiece_34 : decode b_Profile_backPiece 34 = .ok (.getfield 60, 3) := by decide +kernel
theorem d_Profile_backPiece_37 : decode b_Profile_backPiece 37 = .ok (.areturn, 1) := by decide +kernel
theorem d_Matrix_isSingular_0 : decode b_Matrix_isSingular 0 = .ok (.aload_n 0, 1) := by decide +kernel
theorem d_Matrix_isSingular_1 : decode b_Matrix_isSingular 1 = .ok (.getfield 15, 3) := by decide +kernel
theorem d_Matrix_isSingular_4 : decode b_Matrix_isSingular 4 = .ok (.ldc2_w 42, 3) := by decide +kernel
theorem d_Matrix_isSingular_7 : decode b_Matrix_isSingular 7 = .ok (.lcmp, 1) := by decide +kernel
theorem d_Matrix_isSingular_8 : decode b_Matrix_isSingular 8 = .ok (.ifCond .le (18), 3) := by decide +kernel
theorem d_Matrix_isSingular_11 : decode b_Matrix_isSingular 11 = .ok (.aload_n 0, 1) := by decide +kernel
theorem d_Matrix_isSingular_12 : decode b_Matrix_isSingular 12 = .ok (.getfield 15, 3) := by decide +kernel
theorem d_Matrix_isSingular_15 : decode b_Matrix_isSingular 15 = .ok (.ldc2_w 44, 3) := by decide +kernel
theorem d_Matrix_isSingular_18 : decode b_Matrix_isSingular 18 = .ok (.lcmp, 1) := by decide +kernel
theorem d_Matrix_isSingular_19 : decode b_Matrix_isSingular 19 = .ok (.ifCond .ge (7), 3) := by decide +kernel
theorem d_Matrix_isSingular_22 : decode b_Matrix_isSingular 22 = .ok (.iconst (1), 1) := by decide +kernel
theorem d_Matrix_isSingular_23 : decode b_Matrix_isSingular 23 = .ok (.goto (4), 3) := by decide +kernel
theorem d_Matrix_isSingular_26 : decode b_Matrix_isSingular 26 = .ok (.iconst (0), 1) := by decide +kernel
theorem d_Matrix_isSingular_27 : decode b_Matrix_isSingular 27 = .ok (.ireturn, 1) := by decide +kernel
