theorem d_Buffer_plainForm_0 : decode b_Buffer_plainForm 0 = .ok (.bipush (13), 2) := by decide +kernel
theorem d_Buffer_plainForm_2 : decode b_Buffer_plainForm 2 = .ok (.newarray .int, 2) := by decide +kernel
theorem d_Buffer_plainForm_4 : decode b_Buffer_plainForm 4 = .ok (.astore_n 1, 1) := by decide +kernel
theorem d_Buffer_plainForm_5 : decode b_Buffer_plainForm 5 = .ok (.iconst (0), 1) := by decide +kernel
theorem d_Buffer_plainForm_6 : decode b_Buffer_plainForm 6 = .ok (.istore_n 2, 1) := by decide +kernel
theorem d_Buffer_plainForm_7 : decode b_Buffer_plainForm 7 = .ok (.iload_n 2, 1) := by decide +kernel
theorem d_Buffer_plainForm_8 : decode b_Buffer_plainForm 8 = .ok (.aload_n 0, 1) := by decide +kernel
theorem d_Buffer_plainForm_9 : decode b_Buffer_plainForm 9 = .ok (.getfield 9, 3) := by decide +kernel
theorem d_Buffer_plainForm_12 : decode b_Buffer_plainForm 12 = .ok (.bipush (6), 2) := by decide +kernel
theorem d_Buffer_plainForm_14 : decode b_Buffer_plainForm 14 = .ok (.iaload, 1) := by decide +kernel
theorem d_Buffer_plainForm_15 : decode b_Buffer_plainForm 15 = .ok (.if_icmp .ge (28), 3) := by decide +kernel
theorem d_Buffer_plainForm_18 : decode b_Buffer_plainForm 18 = .ok (.aload_n 1, 1) := by decide +kernel
theorem d_Buffer_plainForm_19 : decode b_Buffer_plainForm 19 = .ok (.aload_n 0, 1) := by decide +kernel
theorem d_Buffer_plainForm_20 : decode b_Buffer_plainForm 20 = .ok (.getfield 9, 3) := by decide +kernel
theorem d_Buffer_plainForm_23 : decode b_Buffer_plainForm 23 = .ok (.bipush (8), 2) := by decide +kernel
theorem d_Buffer_plainForm_25 : decode b_Buffer_plainForm 25 = .ok (.iconst (4), 1) := by decide +kernel
theorem d_Buffer_plainForm_26 : decode b_Buffer_plainForm 26 = .ok (.iload_n 2, 1) := by decide +kernel
theorem d_Buffer_plainForm_27 : decode b_Buffer_plainForm 27 = .ok (.imul, 1) := by decide +kernel
theorem d_Buffer_plainForm_28 : decode b_Buffer_plainForm 28 = .ok (.iadd, 1) := by decide +kernel
theorem d_Buffer_plainForm_29 : decode b_Buffer_plainForm 29 = .ok (.iaload, 1) := by decide +kernel
theorem d_Buffer_plainForm_30 : decode b_Buffer_plainForm 30 = .ok (.bipush (8), 2) := by decide +kernel
theorem d_Buffer_plainForm_32 : decode b_Buffer_plainForm 32 = .ok (.iconst (4), 1) := by decide +kernel
theorem d_Buffer_plainForm_33 : decode b_Buffer_plainForm 33 = .ok (.iload_n 2, 1) := by decide +kernel
theorem d_Buffer_plainForm_34 : decode b_Buffer_plainForm 34 = .ok (.imul, 1) := by decide +kernel
theorem d_Buffer_plainForm_35 : decode b_Buffer_plainForm 35 = .ok (.iadd, 1) := by decide +kernel
theorem d_Buffer_plainForm_36 : decode b_Buffer_plainForm 36 = .ok (.iastore, 1) := by decide +kernel
theorem d_Buffer_plainForm_37 : decode b_Buffer_plainForm 37 = .ok (.iinc 2 (1), 3) := by decide +kernel
theorem d_Buffer_plainForm_40 : decode b_Buffer_plainForm 40 = .ok (.goto (-33), 3) := by decide +kernel
theorem d_Buffer_plainForm_43 : decode b_Buffer_plainForm 43 = .ok (.sipush (256), 3) := by decide +kernel
theorem d_Buffer_plainForm_46 : decode b_Buffer_plainForm 46 = .ok (.newarray .int, 2) := by decide +kernel
theorem d_Buffer_plainForm_48 : decode b_Buffer_plainForm 48 = .ok (.astore_n 2, 1) := by decide +kernel
theorem d_Buffer_plainForm_49 : decode b_Buffer_plainForm 49 = .ok (.aload_n 0, 1) := by decide +kernel
theorem d_Buffer_plainForm_50 : decode b_Buffer_plainForm 50 = .ok (.getfield 9, 3) := by decide +kernel
theorem d_Buffer_plainForm_53 : decode b_Buffer_plainForm 53 = .ok (.iconst (0), 1) := by decide +kernel
theorem d_Buffer_plainForm_54 : decode b_Buffer_plainForm 54 = .ok (.aload_n 2, 1) := by decide +kernel
theorem d_Buffer_plainForm_55 : decode b_Buffer_plainForm 55 = .ok (.iconst (0), 1) := by decide +kernel
theorem d_Buffer_plainForm_56 : decode b_Buffer_plainForm 56 = .ok (.bipush (8), 2) := by decide +kernel
theorem d_Buffer_plainForm_58 : decode b_Buffer_plainForm 58 = .ok (.invokestatic 25, 3) := by decide +kernel
theorem d_Buffer_plainForm_61 : decode b_Buffer_plainForm 61 = .ok (.bipush (8), 2) := by decide +kernel
theorem d_Buffer_plainForm_63 : decode b_Buffer_plainForm 63 = .ok (.istore_n 3, 1) := by decide +kernel
theorem d_Buffer_plainForm_64 : decode b_Buffer_plainForm 64 = .ok (.bipush (8), 2) := by decide +kernel
theorem d_Buffer_plainForm_66 : decode b_Buffer_plainForm 66 = .ok (.iconst (4), 1) := by decide +kernel
theorem d_Buffer_plainForm_67 : decode b_Buffer_plainForm 67 = .ok (.aload_n 0, 1) := by decide +kernel
theorem d_Buffer_plainForm_68 : decode b_Buffer_plainForm 68 = .ok (.getfield 9, 3) := by decide +kernel
theorem d_Buffer_plainForm_71 : decode b_Buffer_plainForm 71 = .ok (.bipush (6), 2) := by decide +kernel
theorem d_Buffer_plainForm_73 : decode b_Buffer_plainForm 73 = .ok (.iaload, 1) := by decide +kernel
theorem d_Buffer_plainForm_74 : decode b_Buffer_plainForm 74 = .ok (.imul, 1) := by decide +kernel
theorem d_Buffer_plainForm_75 : decode b_Buffer_plainForm 75 = .ok (.iadd, 1) := by decide +kernel
theorem d_Buffer_plainForm_76 : decode b_Buffer_plainForm 76 = .ok (.istore 4, 2) := by decide +kernel
theorem d_Buffer_plainForm_78 : decode b_Buffer_plainForm 78 = .ok (.iconst (1), 1) := by decide +kernel
theorem d_Buffer_plainForm_79 : decode b_Buffer_plainForm 79 = .ok (.istore 5, 2) := by decide +kernel
theorem d_Buffer_plainForm_81 : decode b_Buffer_plainForm 81 = .ok (.iload 5, 2) := by decide +kernel
theorem d_Buffer_plainForm_83 : decode b_Buffer_plainForm 83 = .ok (.bipush (12), 2) := by decide +kernel
theorem d_Buffer_plainForm_85 : decode b_Buffer_plainForm 85 = .ok (.if_icmp .gt (112), 3) := by decide +kernel
theorem d_Buffer_plainForm_88 : decode b_Buffer_plainForm 88 = .ok (.aload_n 1, 1) := by decide +kernel
theorem d_Buffer_plainForm_89 : decode b_Buffer_plainForm 89 = .ok (.iload 5, 2) := by decide +kernel
theorem d_Buffer_plainForm_91 : decode b_Buffer_plainForm 91 = .ok (.iaload, 1) := by decide +kernel
theorem d_Buffer_plainForm_92 : decode b_Buffer_plainForm 92 = .ok (.ifCond .eq (99), 3) := by decide +kernel
theorem d_Buffer_plainForm_95 : decode b_Buffer_plainForm 95 = .ok (.aload_n 0, 1) := by decide +kernel
theorem d_Buffer_plainForm_96 : decode b_Buffer_plainForm 96 = .ok (.getfield 9, 3) := by decide +kernel
theorem d_Buffer_plainForm_99 : decode b_Buffer_plainForm 99 = .ok (.aload_n 1, 1) := by decide +kernel
theorem d_Buffer_plainForm_100 : decode b_Buffer_plainForm 100 = .ok (.iload 5, 2) := by decide +kernel
theorem d_Buffer_plainForm_102 : decode b_Buffer_plainForm 102 = .ok (.iaload, 1) := by decide +kernel
theorem d_Buffer_plainForm_103 : decode b_Buffer_plainForm 103 = .ok (.iconst (1), 1) := by decide +kernel
theorem d_Buffer_plainForm_104 : decode b_Buffer_plainForm 104 = .ok (.iadd, 1) := by decide +kernel
theorem d_Buffer_plainForm_105 : decode b_Buffer_plainForm 105 = .ok (.iaload, 1) := by decide +kernel
theorem d_Buffer_plainForm_106 : decode b_Buffer_plainForm 106 = .ok (.istore 6, 2) := by decide +kernel
theorem d_Buffer_plainForm_108 : decode b_Buffer_plainForm 108 = .ok (.aload_n 0, 1) := by decide +kernel
theorem d_Buffer_plainForm_109 : decode b_Buffer_plainForm 109 = .ok (.getfield 9, 3) := by decide +kernel
theorem d_Buffer_plainForm_112 : decode b_Buffer_plainForm 112 = .ok (.aload_n 1, 1) := by decide +kernel
theorem d_Buffer_plainForm_113 : decode b_Buffer_plainForm 113 = .ok (.iload 5, 2) := by decide +kernel
theorem d_Buffer_plainForm_115 : decode b_Buffer_plainForm 115 = .ok (.iaload, 1) := by decide +kernel
theorem d_Buffer_plainForm_116 : decode b_Buffer_plainForm 116 = .ok (.iconst (2), 1) := by decide +kernel
theorem d_Buffer_plainForm_117 : decode b_Buffer_plainForm 117 = .ok (.iadd, 1) := by decide +kernel
theorem d_Buffer_plainForm_118 : decode b_Buffer_plainForm 118 = .ok (.iaload, 1) := by decide +kernel
theorem d_Buffer_plainForm_119 : decode b_Buffer_plainForm 119 = .ok (.istore 7, 2) := by decide +kernel
theorem d_Buffer_plainForm_121 : decode b_Buffer_plainForm 121 = .ok (.aload_n 0, 1) := by decide +kernel
theorem d_Buffer_plainForm_122 : decode b_Buffer_plainForm 122 = .ok (.aload_n 2, 1) := by decide +kernel
theorem d_Buffer_plainForm_123 : decode b_Buffer_plainForm 123 = .ok (.iload_n 3, 1) := by decide +kernel
theorem d_Buffer_plainForm_124 : decode b_Buffer_plainForm 124 = .ok (.iload 6, 2) := by decide +kernel
theorem d_Buffer_plainForm_126 : decode b_Buffer_plainForm 126 = .ok (.iload 7, 2) := by decide +kernel
theorem d_Buffer_plainForm_128 : decode b_Buffer_plainForm 128 = .ok (.invokevirtual 67, 3) := by decide +kernel
theorem d_Buffer_plainForm_131 : decode b_Buffer_plainForm 131 = .ok (.istore 8, 2) := by decide +kernel
theorem d_Buffer_plainForm_133 : decode b_Buffer_plainForm 133 = .ok (.iload 8, 2) := by decide +kernel
theorem d_Buffer_plainForm_135 : decode b_Buffer_plainForm 135 = .ok (.ifCond .ne (34), 3) := by decide +kernel
theorem d_Buffer_plainForm_138 : decode b_Buffer_plainForm 138 = .ok (.iload 4, 2) := by decide +kernel
theorem d_Buffer_plainForm_140 : decode b_Buffer_plainForm 140 = .ok (.istore 8, 2) := by decide +kernel
theorem d_Buffer_plainForm_142 : decode b_Buffer_plainForm 142 = .ok (.aload_n 0, 1) := by decide +kernel
theorem d_Buffer_plainForm_143 : decode b_Buffer_plainForm 143 = .ok (.getfield 9, 3) := by decide +kernel
theorem d_Buffer_plainForm_146 : decode b_Buffer_plainForm 146 = .ok (.iload 6, 2) := by decide +kernel
theorem d_Buffer_plainForm_148 : decode b_Buffer_plainForm 148 = .ok (.aload_n 2, 1) := by decide +kernel
theorem d_Buffer_plainForm_149 : decode b_Buffer_plainForm 149 = .ok (.iload 8, 2) := by decide +kernel
theorem d_Buffer_plainForm_151 : decode b_Buffer_plainForm 151 = .ok (.iload 7, 2) := by decide +kernel
theorem d_Buffer_plainForm_153 : decode b_Buffer_plainForm 153 = .ok (.invokestatic 25, 3) := by decide +kernel
theorem d_Buffer_plainForm_156 : decode b_Buffer_plainForm 156 = .ok (.iload 8, 2) := by decide +kernel
theorem d_Buffer_plainForm_158 : decode b_Buffer_plainForm 158 = .ok (.iload 7, 2) := by decide +kernel
theorem d_Buffer_plainForm_160 : decode b_Buffer_plainForm 160 = .ok (.iadd, 1) := by decide +kernel
theorem d_Buffer_plainForm_161 : decode b_Buffer_plainForm 161 = .ok (.iconst (3), 1) := by decide +kernel
theorem d_Buffer_plainForm_162 : decode b_Buffer_plainForm 162 = .ok (.iadd, 1) := by decide +kernel
theorem d_Buffer_plainForm_163 : decode b_Buffer_plainForm 163 = .ok (.iconst (4), 1) := by decide +kernel
theorem d_Buffer_plainForm_164 : decode b_Buffer_plainForm 164 = .ok (.idiv, 1) := by decide +kernel
theorem d_Buffer_plainForm_165 : decode b_Buffer_plainForm 165 = .ok (.iconst (4), 1) := by decide +kernel
theorem d_Buffer_plainForm_166 : decode b_Buffer_plainForm 166 = .ok (.imul, 1) := by decide +kernel
theorem d_Buffer_plainForm_167 : decode b_Buffer_plainForm 167 = .ok (.istore 4, 2) := by decide +kernel
theorem d_Buffer_plainForm_169 : decode b_Buffer_plainForm 169 = .ok (.aload_n 2, 1) := by decide +kernel
theorem d_Buffer_plainForm_170 : decode b_Buffer_plainForm 170 = .ok (.iload_n 3, 1) := by decide +kernel
theorem d_Buffer_plainForm_171 : decode b_Buffer_plainForm 171 = .ok (.iload 5, 2) := by decide +kernel
theorem d_Buffer_plainForm_173 : decode b_Buffer_plainForm 173 = .ok (.iastore, 1) := by decide +kernel
theorem d_Buffer_plainForm_174 : decode b_Buffer_plainForm 174 = .ok (.aload_n 2, 1) := by decide +kernel
theorem d_Buffer_plainForm_175 : decode b_Buffer_plainForm 175 = .ok (.iload_n 3, 1) := by decide +kernel
theorem d_Buffer_plainForm_176 : decode b_Buffer_plainForm 176 = .ok (.iconst (1), 1) := by decide +kernel
theorem d_Buffer_plainForm_177 : decode b_Buffer_plainForm 177 = .ok (.iadd, 1) := by decide +kernel
theorem d_Buffer_plainForm_178 : decode b_Buffer_plainForm 178 = .ok (.iload 8, 2) := by decide +kernel
theorem d_Buffer_plainForm_180 : decode b_Buffer_plainForm 180 = .ok (.iastore, 1) := by decide +kernel
theorem d_Buffer_plainForm_181 : decode b_Buffer_plainForm 181 = .ok (.aload_n 2, 1) := by decide +kernel
theorem d_Buffer_plainForm_182 : decode b_Buffer_plainForm 182 = .ok (.iload_n 3, 1) := by decide +kernel
theorem d_Buffer_plainForm_183 : decode b_Buffer_plainForm 183 = .ok (.iconst (2), 1) := by decide +kernel
theorem d_Buffer_plainForm_184 : decode b_Buffer_plainForm 184 = .ok (.iadd, 1) := by decide +kernel
theorem d_Buffer_plainForm_185 : decode b_Buffer_plainForm 185 = .ok (.iload 7, 2) := by decide +kernel
theorem d_Buffer_plainForm_187 : decode b_Buffer_plainForm 187 = .ok (.iastore, 1) := by decide +kernel
theorem d_Buffer_plainForm_188 : decode b_Buffer_plainForm 188 = .ok (.iinc 3 (4), 3) := by decide +kernel
theorem d_Buffer_plainForm_191 : decode b_Buffer_plainForm 191 = .ok (.iinc 5 (1), 3) := by decide +kernel
theorem d_Buffer_plainForm_194 : decode b_Buffer_plainForm 194 = .ok (.goto (-113), 3) := by decide +kernel
theorem d_Buffer_plainForm_197 : decode b_Buffer_plainForm 197 = .ok (.aload_n 2, 1) := by decide +kernel
theorem d_Buffer_plainForm_198 : decode b_Buffer_plainForm 198 = .ok (.iconst (0), 1) := by decide +kernel
theorem d_Buffer_plainForm_199 : decode b_Buffer_plainForm 199 = .ok (.iload 4, 2) := by decide +kernel
theorem d_Buffer_plainForm_201 : decode b_Buffer_plainForm 201 = .ok (.sipush (256), 3) := by decide +kernel
theorem d_Buffer_plainForm_204 : decode b_Buffer_plainForm 204 = .ok (.idiv, 1) := by decide +kernel
theorem d_Buffer_plainForm_205 : decode b_Buffer_plainForm 205 = .ok (.iastore, 1) := by decide +kernel
theorem d_Buffer_plainForm_206 : decode b_Buffer_plainForm 206 = .ok (.aload_n 2, 1) := by decide +kernel
theorem d_Buffer_plainForm_207 : decode b_Buffer_plainForm 207 = .ok (.iconst (1), 1) := by decide +kernel
theorem d_Buffer_plainForm_208 : decode b_Buffer_plainForm 208 = .ok (.iload 4, 2) := by decide +kernel
theorem d_Buffer_plainForm_210 : decode b_Buffer_plainForm 210 = .ok (.sipush (256), 3) := by decide +kernel
theorem d_Buffer_plainForm_213 : decode b_Buffer_plainForm 213 = .ok (.irem, 1) := by decide +kernel
theorem d_Buffer_plainForm_214 : decode b_Buffer_plainForm 214 = .ok (.iastore, 1) := by decide +kernel
theorem d_Buffer_plainForm_215 : decode b_Buffer_plainForm 215 = .ok (.aload_n 2, 1) := by decide +kernel
theorem d_Buffer_plainForm_216 : decode b_Buffer_plainForm 216 = .ok (.iload 4, 2) := by decide +kernel
theorem d_Buffer_plainForm_218 : decode b_Buffer_plainForm 218 = .ok (.invokestatic 71, 3) := by decide +kernel
theorem d_Buffer_plainForm_221 : decode b_Buffer_plainForm 221 = .ok (.areturn, 1) := by decide +kernel
theorem d_Buffer_countElements_0 : decode b_Buffer_countElements 0 = .ok (.iconst (0), 1) := by decide +kernel
theorem d_Buffer_countElements_1 : decode b_Buffer_countElements 1 = .ok (.istore_n 1, 1) := by decide +kernel
theorem d_Buffer_countElements_2 : decode b_Buffer_countElements 2 = .ok (.iconst (0), 1) := by decide +kernel
theorem d_Buffer_countElements_3 : decode b_Buffer_countElements 3 = .ok (.istore_n 2, 1) := by decide +kernel
theorem d_Buffer_countElements_4 : decode b_Buffer_countElements 4 = .ok (.iload_n 2, 1) := by decide +kernel
theorem d_Buffer_countElements_5 : decode b_Buffer_countElements 5 = .ok (.aload_n 0, 1) := by decide +kernel
theorem d_Buffer_countElements_6 : decode b_Buffer_countElements 6 = .ok (.getfield 9, 3) := by decide +kernel
theorem d_Buffer_countElements_9 : decode b_Buffer_countElements 9 = .ok (.bipush (6), 2) := by decide +kernel
theorem d_Buffer_countElements_11 : decode b_Buffer_countElements 11 = .ok (.iaload, 1) := by decide +kernel
theorem d_Buffer_countElements_12 : decode b_Buffer_countElements 12 = .ok (.if_icmp .ge (74), 3) := by decide +kernel
theorem d_Buffer_countElements_15 : decode b_Buffer_countElements 15 = .ok (.iconst (0), 1) := by decide +kernel
theorem d_Buffer_countElements_16 : decode b_Buffer_countElements 16 = .ok (.istore_n 3, 1) := by decide +kernel
theorem d_Buffer_countElements_17 : decode b_Buffer_countElements 17 = .ok (.iconst (0), 1) := by decide +kernel
theorem d_Buffer_countElements_18 : decode b_Buffer_countElements 18 = .ok (.istore 4, 2) := by decide +kernel
theorem d_Buffer_countElements_20 : decode b_Buffer_countElements 20 = .ok (.iload 4, 2) := by decide +kernel
theorem d_Buffer_countElements_22 : decode b_Buffer_countElements 22 = .ok (.iload_n 2, 1) := by decide +kernel
theorem d_Buffer_countElements_23 : decode b_Buffer_countElements 23 = .ok (.if_icmp .ge (45), 3) := by decide +kernel
theorem d_Buffer_countElements_26 : decode b_Buffer_countElements 26 = .ok (.iload_n 3, 1) := by decide +kernel
theorem d_Buffer_countElements_27 : decode b_Buffer_countElements 27 = .ok (.ifCond .ne (29), 3) := by decide +kernel
theorem d_Buffer_countElements_30 : decode b_Buffer_countElements 30 = .ok (.aload_n 0, 1) := by decide +kernel
theorem d_Buffer_countElements_31 : decode b_Buffer_countElements 31 = .ok (.getfield 9, 3) := by decide +kernel
theorem d_Buffer_countElements_34 : decode b_Buffer_countElements 34 = .ok (.bipush (9), 2) := by decide +kernel
theorem d_Buffer_countElements_36 : decode b_Buffer_countElements 36 = .ok (.iconst (4), 1) := by decide +kernel
theorem d_Buffer_countElements_37 : decode b_Buffer_countElements 37 = .ok (.iload 4, 2) := by decide +kernel
theorem d_Buffer_countElements_39 : decode b_Buffer_countElements 39 = .ok (.imul, 1) := by decide +kernel
theorem d_Buffer_countElements_40 : decode b_Buffer_countElements 40 = .ok (.iadd, 1) := by decide +kernel
theorem d_Buffer_countElements_41 : decode b_Buffer_countElements 41 = .ok (.iaload, 1) := by decide +kernel
theorem d_Buffer_countElements_42 : decode b_Buffer_countElements 42 = .ok (.aload_n 0, 1) := by decide +kernel
theorem d_Buffer_countElements_43 : decode b_Buffer_countElements 43 = .ok (.getfield 9, 3) := by decide +kernel
theorem d_Buffer_countElements_46 : decode b_Buffer_countElements 46 = .ok (.bipush (9), 2) := by decide +kernel
theorem d_Buffer_countElements_48 : decode b_Buffer_countElements 48 = .ok (.iconst (4), 1) := by decide +kernel
theorem d_Buffer_countElements_49 : decode b_Buffer_countElements 49 = .ok (.iload_n 2, 1) := by decide +kernel
theorem d_Buffer_countElements_50 : decode b_Buffer_countElements 50 = .ok (.imul, 1) := by decide +kernel
theorem d_Buffer_countElements_51 : decode b_Buffer_countElements 51 = .ok (.iadd, 1) := by decide +kernel
theorem d_Buffer_countElements_52 : decode b_Buffer_countElements 52 = .ok (.iaload, 1) := by decide +kernel
theorem d_Buffer_countElements_53 : decode b_Buffer_countElements 53 = .ok (.if_icmp .ne (7), 3) := by decide +kernel
theorem d_Buffer_countElements_56 : decode b_Buffer_countElements 56 = .ok (.iconst (1), 1) := by decide +kernel
theorem d_Buffer_countElements_57 : decode b_Buffer_countElements 57 = .ok (.goto (4), 3) := by decide +kernel
theorem d_Buffer_countElements_60 : decode b_Buffer_countElements 60 = .ok (.iconst (0), 1) := by decide +kernel
theorem d_Buffer_countElements_61 : decode b_Buffer_countElements 61 = .ok (.istore_n 3, 1) := by decide +kernel
theorem d_Buffer_countElements_62 : decode b_Buffer_countElements 62 = .ok (.iinc 4 (1), 3) := by decide +kernel
theorem d_Buffer_countElements_65 : decode b_Buffer_countElements 65 = .ok (.goto (-45), 3) := by decide +kernel
theorem d_Buffer_countElements_68 : decode b_Buffer_countElements 68 = .ok (.iload_n 1, 1) := by decide +kernel
theorem d_Buffer_countElements_69 : decode b_Buffer_countElements 69 = .ok (.iload_n 3, 1) := by decide +kernel
theorem d_Buffer_countElements_70 : decode b_Buffer_countElements 70 = .ok (.ifCond .eq (7), 3) := by decide +kernel
theorem d_Buffer_countElements_73 : decode b_Buffer_countElements 73 = .ok (.iconst (0), 1) := by decide +kernel
theorem d_Buffer_countElements_74 : decode b_Buffer_countElements 74 = .ok (.goto (4), 3) := by decide +kernel
theorem d_Buffer_countElements_77 : decode b_Buffer_countElements 77 = .ok (.iconst (1), 1) := by decide +kernel
theorem d_Buffer_countElements_78 : decode b_Buffer_countElements 78 = .ok (.iadd, 1) := by decide +kernel
theorem d_Buffer_countElements_79 : decode b_Buffer_countElements 79 = .ok (.istore_n 1, 1) := by decide +kernel
theorem d_Buffer_countElements_80 : decode b_Buffer_countElements 80 = .ok (.iinc 2 (1), 3) := by decide +kernel
theorem d_Buffer_countElements_83 : decode b_Buffer_countElements 83 = .ok (.goto (-79), 3) := by decide +kernel
theorem d_Buffer_countElements_86 : decode b_Buffer_countElements 86 = .ok (.iload_n 1, 1) := by decide +kernel
theorem d_Buffer_countElements_87 : decode b_Buffer_countElements 87 = .ok (.ireturn, 1) := by decide +kernel
theorem d_Curve_init_0 : decode b_Curve_init 0 = .ok (.aload_n 0, 1) := by decide +kernel
theorem d_Curve_init_1 : decode b_Curve_init 1 = .ok (.invokespecial 3, 3) := by decide +kernel
theorem d_Curve_init_4 : decode b_Curve_init 4 = .ok (.aload_n 0, 1) := by decide +kernel
theorem d_Curve_init_5 : decode b_Curve_init 5 = .ok (.aload_n 1, 1) := by decide +kernel
theorem d_Curve_init_6 : decode b_Curve_init 6 = .ok (.iload_n 2, 1) := by decide +kernel
theorem d_Curve_init_7 : decode b_Curve_init 7 = .ok (.iaload, 1) := by decide +kernel
theorem d_Curve_init_8 : decode b_Curve_init 8 = .ok (.iconst (2), 1) := by decide +kernel
theorem d_Curve_init_9 : decode b_Curve_init 9 = .ok (.if_icmp .ne (11), 3) := by decide +kernel
theorem d_Curve_init_12 : decode b_Curve_init 12 = .ok (.aload_n 1, 1) := by decide +kernel
theorem d_Curve_init_13 : decode b_Curve_init 13 = .ok (.iload_n 2, 1) := by decide +kernel
theorem d_Curve_init_14 : decode b_Curve_init 14 = .ok (.iconst (1), 1) := by decide +kernel
theorem d_Curve_init_15 : decode b_Curve_init 15 = .ok (.iadd, 1) := by decide +kernel
theorem d_Curve_init_16 : decode b_Curve_init 16 = .ok (.iaload, 1) := by decide +kernel
theorem d_Curve_init_17 : decode b_Curve_init 17 = .ok (.goto (4), 3) := by decide +kernel
theorem d_Curve_init_20 : decode b_Curve_init 20 = .ok (.iconst (0), 1) := by decide +kernel
theorem d_Curve_init_21 : decode b_Curve_init 21 = .ok (.putfield 9, 3) := by decide +kernel
theorem d_Curve_init_24 : decode b_Curve_init 24 = .ok (.aload_n 0, 1) := by decide +kernel
theorem d_Curve_init_25 : decode b_Curve_init 25 = .ok (.aload_n 0, 1) := by decide +kernel
theorem d_Curve_init_26 : decode b_Curve_init 26 = .ok (.getfield 9, 3) := by decide +kernel
theorem d_Curve_init_29 : decode b_Curve_init 29 = .ok (.ifCond .le (7), 3) := by decide +kernel
theorem d_Curve_init_32 : decode b_Curve_init 32 = .ok (.iconst (2), 1) := by decide +kernel
theorem d_Curve_init_33 : decode b_Curve_init 33 = .ok (.goto (8), 3) := by decide +kernel
theorem d_Curve_init_36 : decode b_Curve_init 36 = .ok (.aload_n 1, 1) := by decide +kernel
theorem d_Curve_init_37 : decode b_Curve_init 37 = .ok (.iload_n 2, 1) := by decide +kernel
theorem d_Curve_init_38 : decode b_Curve_init 38 = .ok (.iconst (1), 1) := by decide +kernel
theorem d_Curve_init_39 : decode b_Curve_init 39 = .ok (.iadd, 1) := by decide +kernel
theorem d_Curve_init_40 : decode b_Curve_init 40 = .ok (.iaload, 1) := by decide +kernel
theorem d_Curve_init_41 : decode b_Curve_init 41 = .ok (.newarray .int, 2) := by decide +kernel
theorem d_Curve_init_43 : decode b_Curve_init 43 = .ok (.putfield 15, 3) := by decide +kernel
theorem d_Curve_init_46 : decode b_Curve_init 46 = .ok (.iconst (0), 1) := by decide +kernel
theorem d_Curve_init_47 : decode b_Curve_init 47 = .ok (.istore_n 3, 1) := by decide +kernel
theorem d_Curve_init_48 : decode b_Curve_init 48 = .ok (.iload_n 3, 1) := by decide +kernel
theorem d_Curve_init_49 : decode b_Curve_init 49 = .ok (.aload_n 0, 1) := by decide +kernel
theorem d_Curve_init_50 : decode b_Curve_init 50 = .ok (.getfield 15, 3) := by decide +kernel
theorem d_Curve_init_53 : decode b_Curve_init 53 = .ok (.arraylength, 1) := by decide +kernel
theorem d_Curve_init_54 : decode b_Curve_init 54 = .ok (.if_icmp .ge (26), 3) := by decide +kernel
theorem d_Curve_init_57 : decode b_Curve_init 57 = .ok (.aload_n 0, 1) := by decide +kernel
theorem d_Curve_init_58 : decode b_Curve_init 58 = .ok (.getfield 15, 3) := by decide +kernel
theorem d_Curve_init_61 : decode b_Curve_init 61 = .ok (.iload_n 3, 1) := by decide +kernel
theorem d_Curve_init_62 : decode b_Curve_init 62 = .ok (.aload_n 1, 1) := by decide +kernel
theorem d_Curve_init_63 : decode b_Curve_init 63 = .ok (.iload_n 2, 1) := by decide +kernel
theorem d_Curve_init_64 : decode b_Curve_init 64 = .ok (.iconst (2), 1) := by decide +kernel
theorem d_Curve_init_65 : decode b_Curve_init 65 = .ok (.iadd, 1) := by decide +kernel
theorem d_Curve_init_66 : decode b_Curve_init 66 = .ok (.iconst (2), 1) := by decide +kernel
theorem d_Curve_init_67 : decode b_Curve_init 67 = .ok (.iload_n 3, 1) := by decide +kernel
theorem d_Curve_init_68 : decode b_Curve_init 68 = .ok (.imul, 1) := by decide +kernel
theorem d_Curve_init_69 : decode b_Curve_init 69 = .ok (.iadd, 1) := by decide +kernel
theorem d_Curve_init_70 : decode b_Curve_init 70 = .ok (.invokestatic 19, 3) := by decide +kernel
theorem d_Curve_init_73 : decode b_Curve_init 73 = .ok (.iastore, 1) := by decide +kernel
theorem d_Curve_init_74 : decode b_Curve_init 74 = .ok (.iinc 3 (1), 3) := by decide +kernel
theorem d_Curve_init_77 : decode b_Curve_init 77 = .ok (.goto (-29), 3) := by decide +kernel
theorem d_Curve_init_80 : decode b_Curve_init 80 = .ok (.return_, 1) := by decide +kernel
theorem d_Grid_init_0 : decode b_Grid_init 0 = .ok (.aload_n 0, 1) := by decide +kernel
theorem d_Grid_init_1 : decode b_Grid_init 1 = .ok (.iconst (3), 1) := by decide +kernel
theorem d_Grid_init_2 : decode b_Grid_init 2 = .ok (.iconst (0), 1) := by decide +kernel
theorem d_Grid_init_3 : decode b_Grid_init 3 = .ok (.invokespecial 3, 3) := by decide +kernel
theorem d_Grid_init_6 : decode b_Grid_init 6 = .ok (.aload_n 0, 1) := by decide +kernel
theorem d_Grid_init_7 : decode b_Grid_init 7 = .ok (.iconst (3), 1) := by decide +kernel
theorem d_Grid_init_8 : decode b_Grid_init 8 = .ok (.newarray .int, 2) := by decide +kernel
theorem d_Grid_init_10 : decode b_Grid_init 10 = .ok (.putfield 9, 3) := by decide +kernel
theorem d_Grid_init_13 : decode b_Grid_init 13 = .ok (.aload_n 0, 1) := by decide +kernel
theorem d_Grid_init_14 : decode b_Grid_init 14 = .ok (.aload_n 1, 1) := by decide +kernel
theorem d_Grid_init_15 : decode b_Grid_init 15 = .ok (.putfield 15, 3) := by decide +kernel
theorem d_Grid_init_18 : decode b_Grid_init 18 = .ok (.aload_n 0, 1) := by decide +kernel
theorem d_Grid_init_19 : decode b_Grid_init 19 = .ok (.iload_n 2, 1) := by decide +kernel
theorem d_Grid_init_20 : decode b_Grid_init 20 = .ok (.iconst (2), 1) := by decide +kernel
theorem d_Grid_init_21 : decode b_Grid_init 21 = .ok (.iadd, 1) := by decide +kernel
theorem d_Grid_init_22 : decode b_Grid_init 22 = .ok (.putfield 18, 3) := by decide +kernel
theorem d_Grid_init_25 : decode b_Grid_init 25 = .ok (.aload_n 0, 1) := by decide +kernel
theorem d_Grid_init_26 : decode b_Grid_init 26 = .ok (.aload_n 1, 1) := by decide +kernel
theorem d_Grid_init_27 : decode b_Grid_init 27 = .ok (.iload_n 2, 1) := by decide +kernel
theorem d_Grid_init_28 : decode b_Grid_init 28 = .ok (.iconst (1), 1) := by decide +kernel
theorem d_Grid_init_29 : decode b_Grid_init 29 = .ok (.iadd, 1) := by decide +kernel
theorem d_Grid_init_30 : decode b_Grid_init 30 = .ok (.iaload, 1) := by decide +kernel
theorem d_Grid_init_31 : decode b_Grid_init 31 = .ok (.putfield 22, 3) := by decide +kernel
theorem d_Grid_init_34 : decode b_Grid_init 34 = .ok (.return_, 1) := by decide +kernel
theorem d_Curve_isStraight_0 : decode b_Curve_isStraight 0 = .ok (.aload_n 0, 1) := by decide +kernel
theorem d_Curve_isStraight_1 : decode b_Curve_isStraight 1 = .ok (.getfield 9, 3) := by decide +kernel
theorem d_Curve_isStraight_4 : decode b_Curve_isStraight 4 = .ok (.ifCond .ne (15), 3) := by decide +kernel
theorem d_Curve_isStraight_7 : decode b_Curve_isStraight 7 = .ok (.aload_n 0, 1) := by decide +kernel
theorem d_Curve_isStraight_8 : decode b_Curve_isStraight 8 = .ok (.getfield 15, 3) := by decide +kernel
theorem d_Curve_isStraight_11 : decode b_Curve_isStraight 11 = .ok (.arraylength, 1) := by decide +kernel
theorem d_Curve_isStraight_12 : decode b_Curve_isStraight 12 = .ok (.ifCond .ne (7), 3) := by decide +kernel
theorem d_Curve_isStraight_15 : decode b_Curve_isStraight 15 = .ok (.iconst (1), 1) := by decide +kernel
theorem d_Curve_isStraight_16 : decode b_Curve_isStraight 16 = .ok (.goto (4), 3) := by decide +kernel
theorem d_Curve_isStraight_19 : decode b_Curve_isStraight 19 = .ok (.iconst (0), 1) := by decide +kernel
theorem d_Curve_isStraight_20 : decode b_Curve_isStraight 20 = .ok (.ireturn, 1) := by decide +kernel
theorem d_Curves_areStraight_0 : decode b_Curves_areStraight 0 = .ok (.iconst (1), 1) := by decide +kernel
theorem d_Curves_areStraight_1 : decode b_Curves_areStraight 1 = .ok (.istore_n 1, 1) := by decide +kernel
theorem d_Curves_areStraight_2 : decode b_Curves_areStraight 2 = .ok (.iconst (0), 1) := by decide +kernel
theorem d_Curves_areStraight_3 : decode b_Curves_areStraight 3 = .ok (.istore_n 2, 1) := by decide +kernel
theorem d_Curves_areStraight_4 : decode b_Curves_areStraight 4 = .ok (.iload_n 2, 1) := by decide +kernel
theorem d_Curves_areStraight_5 : decode b_Curves_areStraight 5 = .ok (.aload_n 0, 1) := by decide +kernel
theorem d_Curves_areStraight_6 : decode b_Curves_areStraight 6 = .ok (.arraylength, 1) := by decide +kernel
theorem d_Curves_areStraight_7 : decode b_Curves_areStraight 7 = .ok (.if_icmp .ge (28), 3) := by decide +kernel
theorem d_Curves_areStraight_10 : decode b_Curves_areStraight 10 = .ok (.iload_n 1, 1) := by decide +kernel
theorem d_Curves_areStraight_11 : decode b_Curves_areStraight 11 = .ok (.ifCond .eq (16), 3) := by decide +kernel
theorem d_Curves_areStraight_14 : decode b_Curves_areStraight 14 = .ok (.aload_n 0, 1) := by decide +kernel
theorem d_Curves_areStraight_15 : decode b_Curves_areStraight 15 = .ok (.iload_n 2, 1) := by decide +kernel
theorem d_Curves_areStraight_16 : decode b_Curves_areStraight 16 = .ok (.aaload, 1) := by decide +kernel
theorem d_Curves_areStraight_17 : decode b_Curves_areStraight 17 = .ok (.invokevirtual 19, 3) := by decide +kernel
theorem d_Curves_areStraight_20 : decode b_Curves_areStraight 20 = .ok (.ifCond .eq (7), 3) := by decide +kernel
theorem d_Curves_areStraight_23 : decode b_Curves_areStraight 23 = .ok (.iconst (1), 1) := by decide +kernel
theorem d_Curves_areStraight_24 : decode b_Curves_areStraight 24 = .ok (.goto (4), 3) := by decide +kernel
theorem d_Curves_areStraight_27 : decode b_Curves_areStraight 27 = .ok (.iconst (0), 1) := by decide +kernel
theorem d_Curves_areStraight_28 : decode b_Curves_areStraight 28 = .ok (.istore_n 1, 1) := by decide +kernel
theorem d_Curves_areStraight_29 : decode b_Curves_areStraight 29 = .ok (.iinc 2 (1), 3) := by decide +kernel
theorem d_Curves_areStraight_32 : decode b_Curves_areStraight 32 = .ok (.goto (-28), 3) := by decide +kernel
theorem d_Curves_areStraight_35 : decode b_Curves_areStraight 35 = .ok (.iload_n 1, 1) := by decide +kernel
theorem d_Curves_areStraight_36 : decode b_Curves_areStraight 36 = .ok (.ireturn, 1) := by decide +kernel
theorem d_Curves_init_0 : decode b_Curves_init 0 = .ok (.aload_n 0, 1) := by decide +kernel
theorem d_Curves_init_1 : decode b_Curves_init 1 = .ok (.iload_n 1, 1) := by decide +kernel
theorem d_Curves_init_2 : decode b_Curves_init 2 = .ok (.aload_n 2, 1) := by decide +kernel
theorem d_Curves_init_3 : decode b_Curves_init 3 = .ok (.invokestatic 3, 3) := by decide +kernel
theorem d_Curves_init_6 : decode b_Curves_init 6 = .ok (.invokespecial 9, 3) := by decide +kernel
theorem d_Curves_init_9 : decode b_Curves_init 9 = .ok (.aload_n 0, 1) := by decide +kernel
theorem d_Curves_init_10 : decode b_Curves_init 10 = .ok (.aload_n 2, 1) := by decide +kernel
theorem d_Curves_init_11 : decode b_Curves_init 11 = .ok (.putfield 15, 3) := by decide +kernel
theorem d_Curves_init_14 : decode b_Curves_init 14 = .ok (.return_, 1) := by decide +kernel
theorem d_Gray_init_0 : decode b_Gray_init 0 = .ok (.aload_n 0, 1) := by decide +kernel
theorem d_Gray_init_1 : decode b_Gray_init 1 = .ok (.iload_n 1, 1) := by decide +kernel
theorem d_Gray_init_2 : decode b_Gray_init 2 = .ok (.iconst (0), 1) := by decide +kernel
theorem d_Gray_init_3 : decode b_Gray_init 3 = .ok (.invokespecial 3, 3) := by decide +kernel
theorem d_Gray_init_6 : decode b_Gray_init 6 = .ok (.aload_n 0, 1) := by decide +kernel
theorem d_Gray_init_7 : decode b_Gray_init 7 = .ok (.iload_n 2, 1) := by decide +kernel
theorem d_Gray_init_8 : decode b_Gray_init 8 = .ok (.putfield 9, 3) := by decide +kernel
theorem d_Gray_init_11 : decode b_Gray_init 11 = .ok (.return_, 1) := by decide +kernel
