theorem d_Mo_write_0 : decode b_Mo_write 0 = .ok (.aload_n 0, 1) := by decide +kernel
theorem d_Mo_write_1 : decode b_Mo_write 1 = .ok (.iload_n 1, 1) := by decide +kernel
theorem d_Mo_write_2 : decode b_Mo_write 2 = .ok (.invokevirtual 99, 3) := by decide +kernel
theorem d_Mo_write_5 : decode b_Mo_write 5 = .ok (.ifCond .ne (5), 3) := by decide +kernel
theorem d_Mo_write_8 : decode b_Mo_write 8 = .ok (.iconst (-1), 1) := by decide +kernel
theorem d_Mo_write_9 : decode b_Mo_write 9 = .ok (.ireturn, 1) := by decide +kernel
theorem d_Mo_write_10 : decode b_Mo_write 10 = .ok (.aload_n 0, 1) := by decide +kernel
theorem d_Mo_write_11 : decode b_Mo_write 11 = .ok (.iload_n 1, 1) := by decide +kernel
theorem d_Mo_write_12 : decode b_Mo_write 12 = .ok (.bipush (6), 2) := by decide +kernel
theorem d_Mo_write_14 : decode b_Mo_write 14 = .ok (.invokevirtual 79, 3) := by decide +kernel
theorem d_Mo_write_17 : decode b_Mo_write 17 = .ok (.istore_n 2, 1) := by decide +kernel
theorem d_Mo_write_18 : decode b_Mo_write 18 = .ok (.iconst (0), 1) := by decide +kernel
theorem d_Mo_write_19 : decode b_Mo_write 19 = .ok (.istore_n 3, 1) := by decide +kernel
theorem d_Mo_write_20 : decode b_Mo_write 20 = .ok (.iload_n 3, 1) := by decide +kernel
theorem d_Mo_write_21 : decode b_Mo_write 21 = .ok (.sipush (256), 3) := by decide +kernel
theorem d_Mo_write_24 : decode b_Mo_write 24 = .ok (.if_icmp .ge (36), 3) := by decide +kernel
theorem d_Mo_write_27 : decode b_Mo_write 27 = .ok (.aload_n 0, 1) := by decide +kernel
theorem d_Mo_write_28 : decode b_Mo_write 28 = .ok (.getfield 7, 3) := by decide +kernel
theorem d_Mo_write_31 : decode b_Mo_write 31 = .ok (.iload_n 3, 1) := by decide +kernel
theorem d_Mo_write_32 : decode b_Mo_write 32 = .ok (.iload_n 3, 1) := by decide +kernel
theorem d_Mo_write_33 : decode b_Mo_write 33 = .ok (.iconst (2), 1) := by decide +kernel
theorem d_Mo_write_34 : decode b_Mo_write 34 = .ok (.if_icmp .lt (18), 3) := by decide +kernel
theorem d_Mo_write_37 : decode b_Mo_write 37 = .ok (.iload_n 3, 1) := by decide +kernel
theorem d_Mo_write_38 : decode b_Mo_write 38 = .ok (.bipush (8), 2) := by decide +kernel
theorem d_Mo_write_40 : decode b_Mo_write 40 = .ok (.if_icmp .ge (12), 3) := by decide +kernel
theorem d_Mo_write_43 : decode b_Mo_write 43 = .ok (.aload_n 0, 1) := by decide +kernel
theorem d_Mo_write_44 : decode b_Mo_write 44 = .ok (.iload_n 1, 1) := by decide +kernel
theorem d_Mo_write_45 : decode b_Mo_write 45 = .ok (.iload_n 3, 1) := by decide +kernel
theorem d_Mo_write_46 : decode b_Mo_write 46 = .ok (.invokevirtual 79, 3) := by decide +kernel
theorem d_Mo_write_49 : decode b_Mo_write 49 = .ok (.goto (4), 3) := by decide +kernel
theorem d_Mo_write_52 : decode b_Mo_write 52 = .ok (.iconst (0), 1) := by decide +kernel
theorem d_Mo_write_53 : decode b_Mo_write 53 = .ok (.iastore, 1) := by decide +kernel
theorem d_Mo_write_54 : decode b_Mo_write 54 = .ok (.iinc 3 (1), 3) := by decide +kernel
theorem d_Mo_write_57 : decode b_Mo_write 57 = .ok (.goto (-37), 3) := by decide +kernel
theorem d_Mo_write_60 : decode b_Mo_write 60 = .ok (.bipush (8), 2) := by decide +kernel
theorem d_Mo_write_62 : decode b_Mo_write 62 = .ok (.istore_n 3, 1) := by decide +kernel
theorem d_Mo_write_63 : decode b_Mo_write 63 = .ok (.bipush (8), 2) := by decide +kernel
theorem d_Mo_write_65 : decode b_Mo_write 65 = .ok (.iconst (4), 1) := by decide +kernel
theorem d_Mo_write_66 : decode b_Mo_write 66 = .ok (.iload_n 2, 1) := by decide +kernel
theorem d_Mo_write_67 : decode b_Mo_write 67 = .ok (.imul, 1) := by decide +kernel
theorem d_Mo_write_68 : decode b_Mo_write 68 = .ok (.iadd, 1) := by decide +kernel
theorem d_Mo_write_69 : decode b_Mo_write 69 = .ok (.istore 4, 2) := by decide +kernel
theorem d_Mo_write_71 : decode b_Mo_write 71 = .ok (.iconst (1), 1) := by decide +kernel
theorem d_Mo_write_72 : decode b_Mo_write 72 = .ok (.istore 5, 2) := by decide +kernel
theorem d_Mo_write_74 : decode b_Mo_write 74 = .ok (.iload 5, 2) := by decide +kernel
theorem d_Mo_write_76 : decode b_Mo_write 76 = .ok (.bipush (12), 2) := by decide +kernel
theorem d_Mo_write_78 : decode b_Mo_write 78 = .ok (.if_icmp .gt (156), 3) := by decide +kernel
theorem d_Mo_write_81 : decode b_Mo_write 81 = .ok (.aload_n 0, 1) := by decide +kernel
theorem d_Mo_write_82 : decode b_Mo_write 82 = .ok (.iload_n 1, 1) := by decide +kernel
theorem d_Mo_write_83 : decode b_Mo_write 83 = .ok (.iload 5, 2) := by decide +kernel
theorem d_Mo_write_85 : decode b_Mo_write 85 = .ok (.invokevirtual 82, 3) := by decide +kernel
theorem d_Mo_write_88 : decode b_Mo_write 88 = .ok (.istore 6, 2) := by decide +kernel
theorem d_Mo_write_90 : decode b_Mo_write 90 = .ok (.iload 6, 2) := by decide +kernel
theorem d_Mo_write_92 : decode b_Mo_write 92 = .ok (.ifCond .le (136), 3) := by decide +kernel
theorem d_Mo_write_95 : decode b_Mo_write 95 = .ok (.aload_n 0, 1) := by decide +kernel
theorem d_Mo_write_96 : decode b_Mo_write 96 = .ok (.iload_n 1, 1) := by decide +kernel
theorem d_Mo_write_97 : decode b_Mo_write 97 = .ok (.iload 6, 2) := by decide +kernel
theorem d_Mo_write_99 : decode b_Mo_write 99 = .ok (.iload_n 3, 1) := by decide +kernel
theorem d_Mo_write_100 : decode b_Mo_write 100 = .ok (.invokevirtual 106, 3) := by decide +kernel
theorem d_Mo_write_103 : decode b_Mo_write 103 = .ok (.istore 7, 2) := by decide +kernel
theorem d_Mo_write_105 : decode b_Mo_write 105 = .ok (.aload_n 0, 1) := by decide +kernel
theorem d_Mo_write_106 : decode b_Mo_write 106 = .ok (.iload_n 1, 1) := by decide +kernel
theorem d_Mo_write_107 : decode b_Mo_write 107 = .ok (.iload 6, 2) := by decide +kernel
theorem d_Mo_write_109 : decode b_Mo_write 109 = .ok (.iconst (2), 1) := by decide +kernel
theorem d_Mo_write_110 : decode b_Mo_write 110 = .ok (.iadd, 1) := by decide +kernel
theorem d_Mo_write_111 : decode b_Mo_write 111 = .ok (.invokevirtual 79, 3) := by decide +kernel
theorem d_Mo_write_114 : decode b_Mo_write 114 = .ok (.istore 8, 2) := by decide +kernel
theorem d_Mo_write_116 : decode b_Mo_write 116 = .ok (.aload_n 0, 1) := by decide +kernel
theorem d_Mo_write_117 : decode b_Mo_write 117 = .ok (.getfield 7, 3) := by decide +kernel
theorem d_Mo_write_120 : decode b_Mo_write 120 = .ok (.iload_n 3, 1) := by decide +kernel
theorem d_Mo_write_121 : decode b_Mo_write 121 = .ok (.iload 5, 2) := by decide +kernel
theorem d_Mo_write_123 : decode b_Mo_write 123 = .ok (.iastore, 1) := by decide +kernel
theorem d_Mo_write_124 : decode b_Mo_write 124 = .ok (.aload_n 0, 1) := by decide +kernel
theorem d_Mo_write_125 : decode b_Mo_write 125 = .ok (.getfield 7, 3) := by decide +kernel
theorem d_Mo_write_128 : decode b_Mo_write 128 = .ok (.iload_n 3, 1) := by decide +kernel
theorem d_Mo_write_129 : decode b_Mo_write 129 = .ok (.iconst (1), 1) := by decide +kernel
theorem d_Mo_write_130 : decode b_Mo_write 130 = .ok (.iadd, 1) := by decide +kernel
theorem d_Mo_write_131 : decode b_Mo_write 131 = .ok (.iload 7, 2) := by decide +kernel
theorem d_Mo_write_133 : decode b_Mo_write 133 = .ok (.ifCond .ge (8), 3) := by decide +kernel
theorem d_Mo_write_136 : decode b_Mo_write 136 = .ok (.iload 4, 2) := by decide +kernel
theorem d_Mo_write_138 : decode b_Mo_write 138 = .ok (.goto (5), 3) := by decide +kernel
theorem d_Mo_write_141 : decode b_Mo_write 141 = .ok (.iload 7, 2) := by decide +kernel
theorem d_Mo_write_143 : decode b_Mo_write 143 = .ok (.iastore, 1) := by decide +kernel
theorem d_Mo_write_144 : decode b_Mo_write 144 = .ok (.aload_n 0, 1) := by decide +kernel
theorem d_Mo_write_145 : decode b_Mo_write 145 = .ok (.getfield 7, 3) := by decide +kernel
theorem d_Mo_write_148 : decode b_Mo_write 148 = .ok (.iload_n 3, 1) := by decide +kernel
theorem d_Mo_write_149 : decode b_Mo_write 149 = .ok (.iconst (2), 1) := by decide +kernel
theorem d_Mo_write_150 : decode b_Mo_write 150 = .ok (.iadd, 1) := by decide +kernel
theorem d_Mo_write_151 : decode b_Mo_write 151 = .ok (.iload 8, 2) := by decide +kernel
theorem d_Mo_write_153 : decode b_Mo_write 153 = .ok (.iastore, 1) := by decide +kernel
theorem d_Mo_write_154 : decode b_Mo_write 154 = .ok (.iconst (0), 1) := by decide +kernel
theorem d_Mo_write_155 : decode b_Mo_write 155 = .ok (.istore 9, 2) := by decide +kernel
theorem d_Mo_write_157 : decode b_Mo_write 157 = .ok (.iload 9, 2) := by decide +kernel
theorem d_Mo_write_159 : decode b_Mo_write 159 = .ok (.iload 8, 2) := by decide +kernel
theorem d_Mo_write_161 : decode b_Mo_write 161 = .ok (.if_icmp .ge (41), 3) := by decide +kernel
theorem d_Mo_write_164 : decode b_Mo_write 164 = .ok (.iload 7, 2) := by decide +kernel
theorem d_Mo_write_166 : decode b_Mo_write 166 = .ok (.ifCond .ge (36), 3) := by decide +kernel
theorem d_Mo_write_169 : decode b_Mo_write 169 = .ok (.aload_n 0, 1) := by decide +kernel
theorem d_Mo_write_170 : decode b_Mo_write 170 = .ok (.getfield 7, 3) := by decide +kernel
theorem d_Mo_write_173 : decode b_Mo_write 173 = .ok (.iload 4, 2) := by decide +kernel
theorem d_Mo_write_175 : decode b_Mo_write 175 = .ok (.iload 9, 2) := by decide +kernel
theorem d_Mo_write_177 : decode b_Mo_write 177 = .ok (.iadd, 1) := by decide +kernel
theorem d_Mo_write_178 : decode b_Mo_write 178 = .ok (.aload_n 0, 1) := by decide +kernel
theorem d_Mo_write_179 : decode b_Mo_write 179 = .ok (.iload_n 1, 1) := by decide +kernel
theorem d_Mo_write_180 : decode b_Mo_write 180 = .ok (.aload_n 0, 1) := by decide +kernel
theorem d_Mo_write_181 : decode b_Mo_write 181 = .ok (.iload_n 1, 1) := by decide +kernel
theorem d_Mo_write_182 : decode b_Mo_write 182 = .ok (.iload 6, 2) := by decide +kernel
theorem d_Mo_write_184 : decode b_Mo_write 184 = .ok (.iconst (1), 1) := by decide +kernel
theorem d_Mo_write_185 : decode b_Mo_write 185 = .ok (.iadd, 1) := by decide +kernel
theorem d_Mo_write_186 : decode b_Mo_write 186 = .ok (.invokevirtual 79, 3) := by decide +kernel
theorem d_Mo_write_189 : decode b_Mo_write 189 = .ok (.iload 9, 2) := by decide +kernel
theorem d_Mo_write_191 : decode b_Mo_write 191 = .ok (.iadd, 1) := by decide +kernel
theorem d_Mo_write_192 : decode b_Mo_write 192 = .ok (.invokevirtual 79, 3) := by decide +kernel
theorem d_Mo_write_195 : decode b_Mo_write 195 = .ok (.iastore, 1) := by decide +kernel
theorem d_Mo_write_196 : decode b_Mo_write 196 = .ok (.iinc 9 (1), 3) := by decide +kernel
theorem d_Mo_write_199 : decode b_Mo_write 199 = .ok (.goto (-42), 3) := by decide +kernel
theorem d_Mo_write_202 : decode b_Mo_write 202 = .ok (.iload 7, 2) := by decide +kernel
theorem d_Mo_write_204 : decode b_Mo_write 204 = .ok (.ifCond .ge (17), 3) := by decide +kernel
theorem d_Mo_write_207 : decode b_Mo_write 207 = .ok (.iload 4, 2) := by decide +kernel
theorem d_Mo_write_209 : decode b_Mo_write 209 = .ok (.iload 8, 2) := by decide +kernel
theorem d_Mo_write_211 : decode b_Mo_write 211 = .ok (.iadd, 1) := by decide +kernel
theorem d_Mo_write_212 : decode b_Mo_write 212 = .ok (.iconst (3), 1) := by decide +kernel
theorem d_Mo_write_213 : decode b_Mo_write 213 = .ok (.iadd, 1) := by decide +kernel
theorem d_Mo_write_214 : decode b_Mo_write 214 = .ok (.iconst (4), 1) := by decide +kernel
theorem d_Mo_write_215 : decode b_Mo_write 215 = .ok (.idiv, 1) := by decide +kernel
theorem d_Mo_write_216 : decode b_Mo_write 216 = .ok (.iconst (4), 1) := by decide +kernel
theorem d_Mo_write_217 : decode b_Mo_write 217 = .ok (.imul, 1) := by decide +kernel
theorem d_Mo_write_218 : decode b_Mo_write 218 = .ok (.goto (5), 3) := by decide +kernel
theorem d_Mo_write_221 : decode b_Mo_write 221 = .ok (.iload 4, 2) := by decide +kernel
theorem d_Mo_write_223 : decode b_Mo_write 223 = .ok (.istore 4, 2) := by decide +kernel
theorem d_Mo_write_225 : decode b_Mo_write 225 = .ok (.iinc 3 (4), 3) := by decide +kernel
theorem d_Mo_write_228 : decode b_Mo_write 228 = .ok (.iinc 5 (1), 3) := by decide +kernel
theorem d_Mo_write_231 : decode b_Mo_write 231 = .ok (.goto (-157), 3) := by decide +kernel
theorem d_Mo_write_234 : decode b_Mo_write 234 = .ok (.aload_n 0, 1) := by decide +kernel
theorem d_Mo_write_235 : decode b_Mo_write 235 = .ok (.getfield 7, 3) := by decide +kernel
theorem d_Mo_write_238 : decode b_Mo_write 238 = .ok (.iconst (0), 1) := by decide +kernel
theorem d_Mo_write_239 : decode b_Mo_write 239 = .ok (.iload 4, 2) := by decide +kernel
theorem d_Mo_write_241 : decode b_Mo_write 241 = .ok (.sipush (256), 3) := by decide +kernel
theorem d_Mo_write_244 : decode b_Mo_write 244 = .ok (.idiv, 1) := by decide +kernel
theorem d_Mo_write_245 : decode b_Mo_write 245 = .ok (.iastore, 1) := by decide +kernel
theorem d_Mo_write_246 : decode b_Mo_write 246 = .ok (.aload_n 0, 1) := by decide +kernel
theorem d_Mo_write_247 : decode b_Mo_write 247 = .ok (.getfield 7, 3) := by decide +kernel
theorem d_Mo_write_250 : decode b_Mo_write 250 = .ok (.iconst (1), 1) := by decide +kernel
theorem d_Mo_write_251 : decode b_Mo_write 251 = .ok (.iload 4, 2) := by decide +kernel
theorem d_Mo_write_253 : decode b_Mo_write 253 = .ok (.sipush (256), 3) := by decide +kernel
theorem d_Mo_write_256 : decode b_Mo_write 256 = .ok (.irem, 1) := by decide +kernel
theorem d_Mo_write_257 : decode b_Mo_write 257 = .ok (.iastore, 1) := by decide +kernel
theorem d_Mo_write_258 : decode b_Mo_write 258 = .ok (.aload_n 0, 1) := by decide +kernel
theorem d_Mo_write_259 : decode b_Mo_write 259 = .ok (.iload 4, 2) := by decide +kernel
theorem d_Mo_write_261 : decode b_Mo_write 261 = .ok (.putfield 60, 3) := by decide +kernel
theorem d_Mo_write_264 : decode b_Mo_write 264 = .ok (.aload_n 0, 1) := by decide +kernel
theorem d_Mo_write_265 : decode b_Mo_write 265 = .ok (.getfield 60, 3) := by decide +kernel
theorem d_Mo_write_268 : decode b_Mo_write 268 = .ok (.ireturn, 1) := by decide +kernel
theorem d_CL_isLevel_0 : decode b_CL_isLevel 0 = .ok (.iload_n 0, 1) := by decide +kernel
theorem d_CL_isLevel_1 : decode b_CL_isLevel 1 = .ok (.ifCond .lt (13), 3) := by decide +kernel
theorem d_CL_isLevel_4 : decode b_CL_isLevel 4 = .ok (.iload_n 0, 1) := by decide +kernel
theorem d_CL_isLevel_5 : decode b_CL_isLevel 5 = .ok (.ldc 253, 2) := by decide +kernel
theorem d_CL_isLevel_7 : decode b_CL_isLevel 7 = .ok (.if_icmp .gt (7), 3) := by decide +kernel
theorem d_CL_isLevel_10 : decode b_CL_isLevel 10 = .ok (.iconst (1), 1) := by decide +kernel
theorem d_CL_isLevel_11 : decode b_CL_isLevel 11 = .ok (.goto (4), 3) := by decide +kernel
theorem d_CL_isLevel_14 : decode b_CL_isLevel 14 = .ok (.iconst (0), 1) := by decide +kernel
theorem d_CL_isLevel_15 : decode b_CL_isLevel 15 = .ok (.ireturn, 1) := by decide +kernel
theorem d_Curve_isRising_0 : decode b_Curve_isRising 0 = .ok (.aload_n 0, 1) := by decide +kernel
theorem d_Curve_isRising_1 : decode b_Curve_isRising 1 = .ok (.getfield 9, 3) := by decide +kernel
theorem d_Curve_isRising_4 : decode b_Curve_isRising 4 = .ok (.ifCond .le (43), 3) := by decide +kernel
theorem d_Curve_isRising_7 : decode b_Curve_isRising 7 = .ok (.aload_n 0, 1) := by decide +kernel
theorem d_Curve_isRising_8 : decode b_Curve_isRising 8 = .ok (.getfield 15, 3) := by decide +kernel
theorem d_Curve_isRising_11 : decode b_Curve_isRising 11 = .ok (.iconst (1), 1) := by decide +kernel
theorem d_Curve_isRising_12 : decode b_Curve_isRising 12 = .ok (.iaload, 1) := by decide +kernel
theorem d_Curve_isRising_13 : decode b_Curve_isRising 13 = .ok (.ifCond .eq (28), 3) := by decide +kernel
theorem d_Curve_isRising_16 : decode b_Curve_isRising 16 = .ok (.aload_n 0, 1) := by decide +kernel
theorem d_Curve_isRising_17 : decode b_Curve_isRising 17 = .ok (.aload_n 0, 1) := by decide +kernel
theorem d_Curve_isRising_18 : decode b_Curve_isRising 18 = .ok (.getfield 15, 3) := by decide +kernel
theorem d_Curve_isRising_21 : decode b_Curve_isRising 21 = .ok (.iconst (1), 1) := by decide +kernel
theorem d_Curve_isRising_22 : decode b_Curve_isRising 22 = .ok (.iaload, 1) := by decide +kernel
theorem d_Curve_isRising_23 : decode b_Curve_isRising 23 = .ok (.iconst (1), 1) := by decide +kernel
theorem d_Curve_isRising_24 : decode b_Curve_isRising 24 = .ok (.isub, 1) := by decide +kernel
theorem d_Curve_isRising_25 : decode b_Curve_isRising 25 = .ok (.invokevirtual 23, 3) := by decide +kernel
theorem d_Curve_isRising_28 : decode b_Curve_isRising 28 = .ok (.aload_n 0, 1) := by decide +kernel
theorem d_Curve_isRising_29 : decode b_Curve_isRising 29 = .ok (.aload_n 0, 1) := by decide +kernel
theorem d_Curve_isRising_30 : decode b_Curve_isRising 30 = .ok (.getfield 15, 3) := by decide +kernel
theorem d_Curve_isRising_33 : decode b_Curve_isRising 33 = .ok (.iconst (1), 1) := by decide +kernel
theorem d_Curve_isRising_34 : decode b_Curve_isRising 34 = .ok (.iaload, 1) := by decide +kernel
theorem d_Curve_isRising_35 : decode b_Curve_isRising 35 = .ok (.invokevirtual 27, 3) := by decide +kernel
theorem d_Curve_isRising_38 : decode b_Curve_isRising 38 = .ok (.if_icmp .gt (7), 3) := by decide +kernel
theorem d_Curve_isRising_41 : decode b_Curve_isRising 41 = .ok (.iconst (1), 1) := by decide +kernel
theorem d_Curve_isRising_42 : decode b_Curve_isRising 42 = .ok (.goto (4), 3) := by decide +kernel
theorem d_Curve_isRising_45 : decode b_Curve_isRising 45 = .ok (.iconst (0), 1) := by decide +kernel
theorem d_Curve_isRising_46 : decode b_Curve_isRising 46 = .ok (.ireturn, 1) := by decide +kernel
theorem d_Curve_isRising_47 : decode b_Curve_isRising 47 = .ok (.iconst (1), 1) := by decide +kernel
theorem d_Curve_isRising_48 : decode b_Curve_isRising 48 = .ok (.istore_n 1, 1) := by decide +kernel
theorem d_Curve_isRising_49 : decode b_Curve_isRising 49 = .ok (.iload_n 1, 1) := by decide +kernel
theorem d_Curve_isRising_50 : decode b_Curve_isRising 50 = .ok (.aload_n 0, 1) := by decide +kernel
theorem d_Curve_isRising_51 : decode b_Curve_isRising 51 = .ok (.getfield 15, 3) := by decide +kernel
theorem d_Curve_isRising_54 : decode b_Curve_isRising 54 = .ok (.arraylength, 1) := by decide +kernel
theorem d_Curve_isRising_55 : decode b_Curve_isRising 55 = .ok (.if_icmp .ge (28), 3) := by decide +kernel
theorem d_Curve_isRising_58 : decode b_Curve_isRising 58 = .ok (.aload_n 0, 1) := by decide +kernel
theorem d_Curve_isRising_59 : decode b_Curve_isRising 59 = .ok (.getfield 15, 3) := by decide +kernel
theorem d_Curve_isRising_62 : decode b_Curve_isRising 62 = .ok (.iload_n 1, 1) := by decide +kernel
theorem d_Curve_isRising_63 : decode b_Curve_isRising 63 = .ok (.iaload, 1) := by decide +kernel
theorem d_Curve_isRising_64 : decode b_Curve_isRising 64 = .ok (.aload_n 0, 1) := by decide +kernel
theorem d_Curve_isRising_65 : decode b_Curve_isRising 65 = .ok (.getfield 15, 3) := by decide +kernel
theorem d_Curve_isRising_68 : decode b_Curve_isRising 68 = .ok (.iload_n 1, 1) := by decide +kernel
theorem d_Curve_isRising_69 : decode b_Curve_isRising 69 = .ok (.iconst (1), 1) := by decide +kernel
theorem d_Curve_isRising_70 : decode b_Curve_isRising 70 = .ok (.isub, 1) := by decide +kernel
theorem d_Curve_isRising_71 : decode b_Curve_isRising 71 = .ok (.iaload, 1) := by decide +kernel
theorem d_Curve_isRising_72 : decode b_Curve_isRising 72 = .ok (.if_icmp .gt (5), 3) := by decide +kernel
theorem d_Curve_isRising_75 : decode b_Curve_isRising 75 = .ok (.iconst (0), 1) := by decide +kernel
theorem d_Curve_isRising_76 : decode b_Curve_isRising 76 = .ok (.ireturn, 1) := by decide +kernel
theorem d_Curve_isRising_77 : decode b_Curve_isRising 77 = .ok (.iinc 1 (1), 3) := by decide +kernel
theorem d_Curve_isRising_80 : decode b_Curve_isRising 80 = .ok (.goto (-31), 3) := by decide +kernel
theorem d_Curve_isRising_83 : decode b_Curve_isRising 83 = .ok (.iconst (1), 1) := by decide +kernel
theorem d_Curve_isRising_84 : decode b_Curve_isRising 84 = .ok (.ireturn, 1) := by decide +kernel
theorem d_CL_curve_0 : decode b_CL_curve 0 = .ok (.aload_n 0, 1) := by decide +kernel
theorem d_CL_curve_1 : decode b_CL_curve 1 = .ok (.iload_n 1, 1) := by decide +kernel
theorem d_CL_curve_2 : decode b_CL_curve 2 = .ok (.invokevirtual 85, 3) := by decide +kernel
theorem d_CL_curve_5 : decode b_CL_curve 5 = .ok (.astore 5, 2) := by decide +kernel
theorem d_CL_curve_7 : decode b_CL_curve 7 = .ok (.aload 5, 2) := by decide +kernel
theorem d_CL_curve_9 : decode b_CL_curve 9 = .ok (.ifnull (20), 3) := by decide +kernel
theorem d_CL_curve_12 : decode b_CL_curve 12 = .ok (.iload_n 2, 1) := by decide +kernel
theorem d_CL_curve_13 : decode b_CL_curve 13 = .ok (.iconst (1), 1) := by decide +kernel
theorem d_CL_curve_14 : decode b_CL_curve 14 = .ok (.if_icmp .lt (15), 3) := by decide +kernel
theorem d_CL_curve_17 : decode b_CL_curve 17 = .ok (.iload_n 2, 1) := by decide +kernel
theorem d_CL_curve_18 : decode b_CL_curve 18 = .ok (.iconst (4), 1) := by decide +kernel
theorem d_CL_curve_19 : decode b_CL_curve 19 = .ok (.if_icmp .gt (10), 3) := by decide +kernel
theorem d_CL_curve_22 : decode b_CL_curve 22 = .ok (.iload_n 3, 1) := by decide +kernel
theorem d_CL_curve_23 : decode b_CL_curve 23 = .ok (.invokestatic 103, 3) := by decide +kernel
theorem d_CL_curve_26 : decode b_CL_curve 26 = .ok (.ifCond .ne (5), 3) := by decide +kernel
theorem d_CL_curve_29 : decode b_CL_curve 29 = .ok (.iconst (-1), 1) := by decide +kernel
theorem d_CL_curve_30 : decode b_CL_curve 30 = .ok (.ireturn, 1) := by decide +kernel
theorem d_CL_curve_31 : decode b_CL_curve 31 = .ok (.aload 5, 2) := by decide +kernel
theorem d_CL_curve_33 : decode b_CL_curve 33 = .ok (.getfield 107, 3) := by decide +kernel
theorem d_CL_curve_36 : decode b_CL_curve 36 = .ok (.iload_n 2, 1) := by decide +kernel
theorem d_CL_curve_37 : decode b_CL_curve 37 = .ok (.aaload, 1) := by decide +kernel
theorem d_CL_curve_38 : decode b_CL_curve 38 = .ok (.astore 6, 2) := by decide +kernel
theorem d_CL_curve_40 : decode b_CL_curve 40 = .ok (.aload 6, 2) := by decide +kernel
theorem d_CL_curve_42 : decode b_CL_curve 42 = .ok (.ifnonnull (5), 3) := by decide +kernel
theorem d_CL_curve_45 : decode b_CL_curve 45 = .ok (.iconst (-1), 1) := by decide +kernel
theorem d_CL_curve_46 : decode b_CL_curve 46 = .ok (.ireturn, 1) := by decide +kernel
theorem d_CL_curve_47 : decode b_CL_curve 47 = .ok (.iload 4, 2) := by decide +kernel
theorem d_CL_curve_49 : decode b_CL_curve 49 = .ok (.ifCond .ne (10), 3) := by decide +kernel
theorem d_CL_curve_52 : decode b_CL_curve 52 = .ok (.aload 6, 2) := by decide +kernel
theorem d_CL_curve_54 : decode b_CL_curve 54 = .ok (.iload_n 3, 1) := by decide +kernel
theorem d_CL_curve_55 : decode b_CL_curve 55 = .ok (.invokevirtual 111, 3) := by decide +kernel
theorem d_CL_curve_58 : decode b_CL_curve 58 = .ok (.ireturn, 1) := by decide +kernel
theorem d_CL_curve_59 : decode b_CL_curve 59 = .ok (.aload 6, 2) := by decide +kernel
theorem d_CL_curve_61 : decode b_CL_curve 61 = .ok (.invokevirtual 116, 3) := by decide +kernel
theorem d_CL_curve_64 : decode b_CL_curve 64 = .ok (.ifCond .eq (12), 3) := by decide +kernel
theorem d_CL_curve_67 : decode b_CL_curve 67 = .ok (.aload 6, 2) := by decide +kernel
theorem d_CL_curve_69 : decode b_CL_curve 69 = .ok (.iload_n 3, 1) := by decide +kernel
theorem d_CL_curve_70 : decode b_CL_curve 70 = .ok (.invokevirtual 120, 3) := by decide +kernel
theorem d_CL_curve_73 : decode b_CL_curve 73 = .ok (.goto (4), 3) := by decide +kernel
theorem d_CL_curve_76 : decode b_CL_curve 76 = .ok (.iconst (-1), 1) := by decide +kernel
theorem d_CL_curve_77 : decode b_CL_curve 77 = .ok (.ireturn, 1) := by decide +kernel
theorem d_Mo_word_0 : decode b_Mo_word 0 = .ok (.sipush (256), 3) := by decide +kernel
theorem d_Mo_word_3 : decode b_Mo_word 3 = .ok (.aload_n 0, 1) := by decide +kernel
theorem d_Mo_word_4 : decode b_Mo_word 4 = .ok (.getfield 13, 3) := by decide +kernel
theorem d_Mo_word_7 : decode b_Mo_word 7 = .ok (.sipush (256), 3) := by decide +kernel
theorem d_Mo_word_10 : decode b_Mo_word 10 = .ok (.iload_n 1, 1) := by decide +kernel
theorem d_Mo_word_11 : decode b_Mo_word 11 = .ok (.imul, 1) := by decide +kernel
theorem d_Mo_word_12 : decode b_Mo_word 12 = .ok (.iload_n 2, 1) := by decide +kernel
theorem d_Mo_word_13 : decode b_Mo_word 13 = .ok (.iadd, 1) := by decide +kernel
theorem d_Mo_word_14 : decode b_Mo_word 14 = .ok (.iaload, 1) := by decide +kernel
theorem d_Mo_word_15 : decode b_Mo_word 15 = .ok (.imul, 1) := by decide +kernel
theorem d_Mo_word_16 : decode b_Mo_word 16 = .ok (.aload_n 0, 1) := by decide +kernel
theorem d_Mo_word_17 : decode b_Mo_word 17 = .ok (.getfield 13, 3) := by decide +kernel
theorem d_Mo_word_20 : decode b_Mo_word 20 = .ok (.sipush (256), 3) := by decide +kernel
theorem d_Mo_word_23 : decode b_Mo_word 23 = .ok (.iload_n 1, 1) := by decide +kernel
theorem d_Mo_word_24 : decode b_Mo_word 24 = .ok (.imul, 1) := by decide +kernel
theorem d_Mo_word_25 : decode b_Mo_word 25 = .ok (.iload_n 2, 1) := by decide +kernel
theorem d_Mo_word_26 : decode b_Mo_word 26 = .ok (.iadd, 1) := by decide +kernel
theorem d_Mo_word_27 : decode b_Mo_word 27 = .ok (.iconst (1), 1) := by decide +kernel
theorem d_Mo_word_28 : decode b_Mo_word 28 = .ok (.iadd, 1) := by decide +kernel
theorem d_Mo_word_29 : decode b_Mo_word 29 = .ok (.iaload, 1) := by decide +kernel
theorem d_Mo_word_30 : decode b_Mo_word 30 = .ok (.iadd, 1) := by decide +kernel
theorem d_Mo_word_31 : decode b_Mo_word 31 = .ok (.ireturn, 1) := by decide +kernel
theorem d_Mo_near_0 : decode b_Mo_near 0 = .ok (.ldc2_w 110, 3) := by decide +kernel
theorem d_Mo_near_3 : decode b_Mo_near 3 = .ok (.lload_n 0, 1) := by decide +kernel
theorem d_Mo_near_4 : decode b_Mo_near 4 = .ok (.lmul, 1) := by decide +kernel
theorem d_Mo_near_5 : decode b_Mo_near 5 = .ok (.lload_n 2, 1) := by decide +kernel
theorem d_Mo_near_6 : decode b_Mo_near 6 = .ok (.ladd, 1) := by decide +kernel
theorem d_Mo_near_7 : decode b_Mo_near 7 = .ok (.lstore 4, 2) := by decide +kernel
theorem d_Mo_near_9 : decode b_Mo_near 9 = .ok (.lload 4, 2) := by decide +kernel
theorem d_Mo_near_11 : decode b_Mo_near 11 = .ok (.ldc2_w 110, 3) := by decide +kernel
theorem d_Mo_near_14 : decode b_Mo_near 14 = .ok (.lload_n 2, 1) := by decide +kernel
theorem d_Mo_near_15 : decode b_Mo_near 15 = .ok (.lmul, 1) := by decide +kernel
theorem d_Mo_near_16 : decode b_Mo_near 16 = .ok (.ldiv, 1) := by decide +kernel
theorem d_Mo_near_17 : decode b_Mo_near 17 = .ok (.lstore 6, 2) := by decide +kernel
theorem d_Mo_near_19 : decode b_Mo_near 19 = .ok (.lload 4, 2) := by decide +kernel
theorem d_Mo_near_21 : decode b_Mo_near 21 = .ok (.ldc2_w 110, 3) := by decide +kernel
theorem d_Mo_near_24 : decode b_Mo_near 24 = .ok (.lload_n 2, 1) := by decide +kernel
theorem d_Mo_near_25 : decode b_Mo_near 25 = .ok (.lmul, 1) := by decide +kernel
theorem d_Mo_near_26 : decode b_Mo_near 26 = .ok (.lrem, 1) := by decide +kernel
theorem d_Mo_near_27 : decode b_Mo_near 27 = .ok (.lconst 0, 1) := by decide +kernel
theorem d_Mo_near_28 : decode b_Mo_near 28 = .ok (.lcmp, 1) := by decide +kernel
theorem d_Mo_near_29 : decode b_Mo_near 29 = .ok (.ifCond .ge (10), 3) := by decide +kernel
theorem d_Mo_near_32 : decode b_Mo_near 32 = .ok (.lload 6, 2) := by decide +kernel
theorem d_Mo_near_34 : decode b_Mo_near 34 = .ok (.lconst 1, 1) := by decide +kernel
theorem d_Mo_near_35 : decode b_Mo_near 35 = .ok (.lsub, 1) := by decide +kernel
theorem d_Mo_near_36 : decode b_Mo_near 36 = .ok (.goto (5), 3) := by decide +kernel
theorem d_Mo_near_39 : decode b_Mo_near 39 = .ok (.lload 6, 2) := by decide +kernel
theorem d_Mo_near_41 : decode b_Mo_near 41 = .ok (.lreturn, 1) := by decide +kernel
theorem d_Mo_clip_0 : decode b_Mo_clip 0 = .ok (.lload_n 0, 1) := by decide +kernel
theorem d_Mo_clip_1 : decode b_Mo_clip 1 = .ok (.lconst 0, 1) := by decide +kernel
theorem d_Mo_clip_2 : decode b_Mo_clip 2 = .ok (.lcmp, 1) := by decide +kernel
theorem d_Mo_clip_3 : decode b_Mo_clip 3 = .ok (.ifCond .ge (7), 3) := by decide +kernel
theorem d_Mo_clip_6 : decode b_Mo_clip 6 = .ok (.lconst 0, 1) := by decide +kernel
theorem d_Mo_clip_7 : decode b_Mo_clip 7 = .ok (.goto (18), 3) := by decide +kernel
theorem d_Mo_clip_10 : decode b_Mo_clip 10 = .ok (.lload_n 0, 1) := by decide +kernel
theorem d_Mo_clip_11 : decode b_Mo_clip 11 = .ok (.ldc2_w 112, 3) := by decide +kernel
theorem d_Mo_clip_14 : decode b_Mo_clip 14 = .ok (.lcmp, 1) := by decide +kernel
theorem d_Mo_clip_15 : decode b_Mo_clip 15 = .ok (.ifCond .le (9), 3) := by decide +kernel
theorem d_Mo_clip_18 : decode b_Mo_clip 18 = .ok (.ldc2_w 112, 3) := by decide +kernel
theorem d_Mo_clip_21 : decode b_Mo_clip 21 = .ok (.goto (4), 3) := by decide +kernel
theorem d_Mo_clip_24 : decode b_Mo_clip 24 = .ok (.lload_n 0, 1) := by decide +kernel
theorem d_Mo_clip_25 : decode b_Mo_clip 25 = .ok (.lreturn, 1) := by decide +kernel
theorem d_Mo_clipNear_0 : decode b_Mo_clipNear 0 = .ok (.lload_n 0, 1) := by decide +kernel
theorem d_Mo_clipNear_1 : decode b_Mo_clipNear 1 = .ok (.lload_n 2, 1) := by decide +kernel
theorem d_Mo_clipNear_2 : decode b_Mo_clipNear 2 = .ok (.invokestatic 114, 3) := by decide +kernel
theorem d_Mo_clipNear_5 : decode b_Mo_clipNear 5 = .ok (.lstore 4, 2) := by decide +kernel
theorem d_Mo_clipNear_7 : decode b_Mo_clipNear 7 = .ok (.lload 4, 2) := by decide +kernel
theorem d_Mo_clipNear_9 : decode b_Mo_clipNear 9 = .ok (.invokestatic 118, 3) := by decide +kernel
theorem d_Mo_clipNear_12 : decode b_Mo_clipNear 12 = .ok (.lreturn, 1) := by decide +kernel
