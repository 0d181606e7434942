theorem d_Mo_run_0 : decode b_Mo_run 0 = .ok (.aload_n 0, 1) := by decide +kernel
theorem d_Mo_run_1 : decode b_Mo_run 1 = .ok (.getfield 39, 3) := by decide +kernel
theorem d_Mo_run_4 : decode b_Mo_run 4 = .ok (.iload_n 1, 1) := by decide +kernel
theorem d_Mo_run_5 : decode b_Mo_run 5 = .ok (.iaload, 1) := by decide +kernel
theorem d_Mo_run_6 : decode b_Mo_run 6 = .ok (.istore_n 2, 1) := by decide +kernel
theorem d_Mo_run_7 : decode b_Mo_run 7 = .ok (.iconst (0), 1) := by decide +kernel
theorem d_Mo_run_8 : decode b_Mo_run 8 = .ok (.istore_n 3, 1) := by decide +kernel
theorem d_Mo_run_9 : decode b_Mo_run 9 = .ok (.iload_n 3, 1) := by decide +kernel
theorem d_Mo_run_10 : decode b_Mo_run 10 = .ok (.iconst (3), 1) := by decide +kernel
theorem d_Mo_run_11 : decode b_Mo_run 11 = .ok (.if_icmp .ge (21), 3) := by decide +kernel
theorem d_Mo_run_14 : decode b_Mo_run 14 = .ok (.aload_n 0, 1) := by decide +kernel
theorem d_Mo_run_15 : decode b_Mo_run 15 = .ok (.getfield 54, 3) := by decide +kernel
theorem d_Mo_run_18 : decode b_Mo_run 18 = .ok (.iload_n 3, 1) := by decide +kernel
theorem d_Mo_run_19 : decode b_Mo_run 19 = .ok (.aload_n 0, 1) := by decide +kernel
theorem d_Mo_run_20 : decode b_Mo_run 20 = .ok (.getfield 51, 3) := by decide +kernel
theorem d_Mo_run_23 : decode b_Mo_run 23 = .ok (.iload_n 3, 1) := by decide +kernel
theorem d_Mo_run_24 : decode b_Mo_run 24 = .ok (.laload, 1) := by decide +kernel
theorem d_Mo_run_25 : decode b_Mo_run 25 = .ok (.lastore, 1) := by decide +kernel
theorem d_Mo_run_26 : decode b_Mo_run 26 = .ok (.iinc 3 (1), 3) := by decide +kernel
theorem d_Mo_run_29 : decode b_Mo_run 29 = .ok (.goto (-20), 3) := by decide +kernel
theorem d_Mo_run_32 : decode b_Mo_run 32 = .ok (.aload_n 0, 1) := by decide +kernel
theorem d_Mo_run_33 : decode b_Mo_run 33 = .ok (.getfield 36, 3) := by decide +kernel
theorem d_Mo_run_36 : decode b_Mo_run 36 = .ok (.iload_n 1, 1) := by decide +kernel
theorem d_Mo_run_37 : decode b_Mo_run 37 = .ok (.iaload, 1) := by decide +kernel
theorem d_Mo_run_38 : decode b_Mo_run 38 = .ok (.tableswitch (248) (1) (10) #[(54), (63), (71), (90), (98), (105), (112), (163), (232), (240)], 54) := by decide +kernel
theorem d_Mo_run_92 : decode b_Mo_run 92 = .ok (.aload_n 0, 1) := by decide +kernel
theorem d_Mo_run_93 : decode b_Mo_run 93 = .ok (.iload_n 2, 1) := by decide +kernel
theorem d_Mo_run_94 : decode b_Mo_run 94 = .ok (.iconst (0), 1) := by decide +kernel
theorem d_Mo_run_95 : decode b_Mo_run 95 = .ok (.invokevirtual 227, 3) := by decide +kernel
theorem d_Mo_run_98 : decode b_Mo_run 98 = .ok (.goto (194), 3) := by decide +kernel
theorem d_Mo_run_101 : decode b_Mo_run 101 = .ok (.aload_n 0, 1) := by decide +kernel
theorem d_Mo_run_102 : decode b_Mo_run 102 = .ok (.iload_n 2, 1) := by decide +kernel
theorem d_Mo_run_103 : decode b_Mo_run 103 = .ok (.invokevirtual 231, 3) := by decide +kernel
theorem d_Mo_run_106 : decode b_Mo_run 106 = .ok (.goto (186), 3) := by decide +kernel
theorem d_Mo_run_109 : decode b_Mo_run 109 = .ok (.aload_n 0, 1) := by decide +kernel
theorem d_Mo_run_110 : decode b_Mo_run 110 = .ok (.iload_n 2, 1) := by decide +kernel
theorem d_Mo_run_111 : decode b_Mo_run 111 = .ok (.aload_n 0, 1) := by decide +kernel
theorem d_Mo_run_112 : decode b_Mo_run 112 = .ok (.iload_n 2, 1) := by decide +kernel
theorem d_Mo_run_113 : decode b_Mo_run 113 = .ok (.aload_n 0, 1) := by decide +kernel
theorem d_Mo_run_114 : decode b_Mo_run 114 = .ok (.getfield 42, 3) := by decide +kernel
theorem d_Mo_run_117 : decode b_Mo_run 117 = .ok (.iload_n 1, 1) := by decide +kernel
theorem d_Mo_run_118 : decode b_Mo_run 118 = .ok (.iaload, 1) := by decide +kernel
theorem d_Mo_run_119 : decode b_Mo_run 119 = .ok (.invokevirtual 88, 3) := by decide +kernel
theorem d_Mo_run_122 : decode b_Mo_run 122 = .ok (.invokevirtual 234, 3) := by decide +kernel
theorem d_Mo_run_125 : decode b_Mo_run 125 = .ok (.goto (167), 3) := by decide +kernel
theorem d_Mo_run_128 : decode b_Mo_run 128 = .ok (.aload_n 0, 1) := by decide +kernel
theorem d_Mo_run_129 : decode b_Mo_run 129 = .ok (.iload_n 2, 1) := by decide +kernel
theorem d_Mo_run_130 : decode b_Mo_run 130 = .ok (.invokevirtual 237, 3) := by decide +kernel
theorem d_Mo_run_133 : decode b_Mo_run 133 = .ok (.goto (159), 3) := by decide +kernel
theorem d_Mo_run_136 : decode b_Mo_run 136 = .ok (.aload_n 0, 1) := by decide +kernel
theorem d_Mo_run_137 : decode b_Mo_run 137 = .ok (.invokevirtual 240, 3) := by decide +kernel
theorem d_Mo_run_140 : decode b_Mo_run 140 = .ok (.goto (152), 3) := by decide +kernel
theorem d_Mo_run_143 : decode b_Mo_run 143 = .ok (.aload_n 0, 1) := by decide +kernel
theorem d_Mo_run_144 : decode b_Mo_run 144 = .ok (.invokevirtual 243, 3) := by decide +kernel
theorem d_Mo_run_147 : decode b_Mo_run 147 = .ok (.goto (145), 3) := by decide +kernel
theorem d_Mo_run_150 : decode b_Mo_run 150 = .ok (.iconst (0), 1) := by decide +kernel
theorem d_Mo_run_151 : decode b_Mo_run 151 = .ok (.istore_n 3, 1) := by decide +kernel
theorem d_Mo_run_152 : decode b_Mo_run 152 = .ok (.iload_n 3, 1) := by decide +kernel
theorem d_Mo_run_153 : decode b_Mo_run 153 = .ok (.iconst (3), 1) := by decide +kernel
theorem d_Mo_run_154 : decode b_Mo_run 154 = .ok (.if_icmp .ge (44), 3) := by decide +kernel
theorem d_Mo_run_157 : decode b_Mo_run 157 = .ok (.aload_n 0, 1) := by decide +kernel
theorem d_Mo_run_158 : decode b_Mo_run 158 = .ok (.getfield 51, 3) := by decide +kernel
theorem d_Mo_run_161 : decode b_Mo_run 161 = .ok (.iload_n 3, 1) := by decide +kernel
theorem d_Mo_run_162 : decode b_Mo_run 162 = .ok (.aload_n 0, 1) := by decide +kernel
theorem d_Mo_run_163 : decode b_Mo_run 163 = .ok (.getfield 54, 3) := by decide +kernel
theorem d_Mo_run_166 : decode b_Mo_run 166 = .ok (.iload_n 3, 1) := by decide +kernel
theorem d_Mo_run_167 : decode b_Mo_run 167 = .ok (.laload, 1) := by decide +kernel
theorem d_Mo_run_168 : decode b_Mo_run 168 = .ok (.aload_n 0, 1) := by decide +kernel
theorem d_Mo_run_169 : decode b_Mo_run 169 = .ok (.iload_n 2, 1) := by decide +kernel
theorem d_Mo_run_170 : decode b_Mo_run 170 = .ok (.iload_n 3, 1) := by decide +kernel
theorem d_Mo_run_171 : decode b_Mo_run 171 = .ok (.invokevirtual 177, 3) := by decide +kernel
theorem d_Mo_run_174 : decode b_Mo_run 174 = .ok (.i2l, 1) := by decide +kernel
theorem d_Mo_run_175 : decode b_Mo_run 175 = .ok (.lmul, 1) := by decide +kernel
theorem d_Mo_run_176 : decode b_Mo_run 176 = .ok (.aload_n 0, 1) := by decide +kernel
theorem d_Mo_run_177 : decode b_Mo_run 177 = .ok (.aload_n 0, 1) := by decide +kernel
theorem d_Mo_run_178 : decode b_Mo_run 178 = .ok (.getfield 42, 3) := by decide +kernel
theorem d_Mo_run_181 : decode b_Mo_run 181 = .ok (.iload_n 1, 1) := by decide +kernel
theorem d_Mo_run_182 : decode b_Mo_run 182 = .ok (.iaload, 1) := by decide +kernel
theorem d_Mo_run_183 : decode b_Mo_run 183 = .ok (.iload_n 3, 1) := by decide +kernel
theorem d_Mo_run_184 : decode b_Mo_run 184 = .ok (.invokevirtual 177, 3) := by decide +kernel
theorem d_Mo_run_187 : decode b_Mo_run 187 = .ok (.i2l, 1) := by decide +kernel
theorem d_Mo_run_188 : decode b_Mo_run 188 = .ok (.invokestatic 124, 3) := by decide +kernel
theorem d_Mo_run_191 : decode b_Mo_run 191 = .ok (.lastore, 1) := by decide +kernel
theorem d_Mo_run_192 : decode b_Mo_run 192 = .ok (.iinc 3 (1), 3) := by decide +kernel
theorem d_Mo_run_195 : decode b_Mo_run 195 = .ok (.goto (-43), 3) := by decide +kernel
theorem d_Mo_run_198 : decode b_Mo_run 198 = .ok (.goto (94), 3) := by decide +kernel
theorem d_Mo_run_201 : decode b_Mo_run 201 = .ok (.iconst (0), 1) := by decide +kernel
theorem d_Mo_run_202 : decode b_Mo_run 202 = .ok (.istore_n 3, 1) := by decide +kernel
theorem d_Mo_run_203 : decode b_Mo_run 203 = .ok (.iload_n 3, 1) := by decide +kernel
theorem d_Mo_run_204 : decode b_Mo_run 204 = .ok (.iconst (3), 1) := by decide +kernel
theorem d_Mo_run_205 : decode b_Mo_run 205 = .ok (.if_icmp .ge (62), 3) := by decide +kernel
theorem d_Mo_run_208 : decode b_Mo_run 208 = .ok (.aload_n 0, 1) := by decide +kernel
theorem d_Mo_run_209 : decode b_Mo_run 209 = .ok (.getfield 51, 3) := by decide +kernel
theorem d_Mo_run_212 : decode b_Mo_run 212 = .ok (.iload_n 3, 1) := by decide +kernel
theorem d_Mo_run_213 : decode b_Mo_run 213 = .ok (.iload_n 3, 1) := by decide +kernel
theorem d_Mo_run_214 : decode b_Mo_run 214 = .ok (.invokestatic 91, 3) := by decide +kernel
theorem d_Mo_run_217 : decode b_Mo_run 217 = .ok (.i2l, 1) := by decide +kernel
theorem d_Mo_run_218 : decode b_Mo_run 218 = .ok (.iload_n 3, 1) := by decide +kernel
theorem d_Mo_run_219 : decode b_Mo_run 219 = .ok (.invokestatic 91, 3) := by decide +kernel
theorem d_Mo_run_222 : decode b_Mo_run 222 = .ok (.i2l, 1) := by decide +kernel
theorem d_Mo_run_223 : decode b_Mo_run 223 = .ok (.aload_n 0, 1) := by decide +kernel
theorem d_Mo_run_224 : decode b_Mo_run 224 = .ok (.getfield 54, 3) := by decide +kernel
theorem d_Mo_run_227 : decode b_Mo_run 227 = .ok (.iload_n 3, 1) := by decide +kernel
theorem d_Mo_run_228 : decode b_Mo_run 228 = .ok (.laload, 1) := by decide +kernel
theorem d_Mo_run_229 : decode b_Mo_run 229 = .ok (.lsub, 1) := by decide +kernel
theorem d_Mo_run_230 : decode b_Mo_run 230 = .ok (.ldc2_w 131, 3) := by decide +kernel
theorem d_Mo_run_233 : decode b_Mo_run 233 = .ok (.aload_n 0, 1) := by decide +kernel
theorem d_Mo_run_234 : decode b_Mo_run 234 = .ok (.getfield 45, 3) := by decide +kernel
theorem d_Mo_run_237 : decode b_Mo_run 237 = .ok (.iload_n 1, 1) := by decide +kernel
theorem d_Mo_run_238 : decode b_Mo_run 238 = .ok (.iaload, 1) := by decide +kernel
theorem d_Mo_run_239 : decode b_Mo_run 239 = .ok (.i2l, 1) := by decide +kernel
theorem d_Mo_run_240 : decode b_Mo_run 240 = .ok (.lsub, 1) := by decide +kernel
theorem d_Mo_run_241 : decode b_Mo_run 241 = .ok (.lmul, 1) := by decide +kernel
theorem d_Mo_run_242 : decode b_Mo_run 242 = .ok (.ldc2_w 131, 3) := by decide +kernel
theorem d_Mo_run_245 : decode b_Mo_run 245 = .ok (.aload_n 0, 1) := by decide +kernel
theorem d_Mo_run_246 : decode b_Mo_run 246 = .ok (.getfield 42, 3) := by decide +kernel
theorem d_Mo_run_249 : decode b_Mo_run 249 = .ok (.iload_n 1, 1) := by decide +kernel
theorem d_Mo_run_250 : decode b_Mo_run 250 = .ok (.iaload, 1) := by decide +kernel
theorem d_Mo_run_251 : decode b_Mo_run 251 = .ok (.i2l, 1) := by decide +kernel
theorem d_Mo_run_252 : decode b_Mo_run 252 = .ok (.lsub, 1) := by decide +kernel
theorem d_Mo_run_253 : decode b_Mo_run 253 = .ok (.invokestatic 114, 3) := by decide +kernel
theorem d_Mo_run_256 : decode b_Mo_run 256 = .ok (.lsub, 1) := by decide +kernel
theorem d_Mo_run_257 : decode b_Mo_run 257 = .ok (.invokestatic 118, 3) := by decide +kernel
theorem d_Mo_run_260 : decode b_Mo_run 260 = .ok (.lastore, 1) := by decide +kernel
theorem d_Mo_run_261 : decode b_Mo_run 261 = .ok (.iinc 3 (1), 3) := by decide +kernel
theorem d_Mo_run_264 : decode b_Mo_run 264 = .ok (.goto (-61), 3) := by decide +kernel
theorem d_Mo_run_267 : decode b_Mo_run 267 = .ok (.goto (25), 3) := by decide +kernel
theorem d_Mo_run_270 : decode b_Mo_run 270 = .ok (.aload_n 0, 1) := by decide +kernel
theorem d_Mo_run_271 : decode b_Mo_run 271 = .ok (.iload_n 2, 1) := by decide +kernel
theorem d_Mo_run_272 : decode b_Mo_run 272 = .ok (.invokevirtual 246, 3) := by decide +kernel
theorem d_Mo_run_275 : decode b_Mo_run 275 = .ok (.goto (17), 3) := by decide +kernel
theorem d_Mo_run_278 : decode b_Mo_run 278 = .ok (.aload_n 0, 1) := by decide +kernel
theorem d_Mo_run_279 : decode b_Mo_run 279 = .ok (.iload_n 2, 1) := by decide +kernel
theorem d_Mo_run_280 : decode b_Mo_run 280 = .ok (.invokevirtual 249, 3) := by decide +kernel
theorem d_Mo_run_283 : decode b_Mo_run 283 = .ok (.goto (9), 3) := by decide +kernel
theorem d_Mo_run_286 : decode b_Mo_run 286 = .ok (.aload_n 0, 1) := by decide +kernel
theorem d_Mo_run_287 : decode b_Mo_run 287 = .ok (.iload_n 2, 1) := by decide +kernel
theorem d_Mo_run_288 : decode b_Mo_run 288 = .ok (.iconst (1), 1) := by decide +kernel
theorem d_Mo_run_289 : decode b_Mo_run 289 = .ok (.invokevirtual 227, 3) := by decide +kernel
theorem d_Mo_run_292 : decode b_Mo_run 292 = .ok (.return_, 1) := by decide +kernel
theorem d_Mo_blackLevel_0 : decode b_Mo_blackLevel 0 = .ok (.aload_n 0, 1) := by decide +kernel
theorem d_Mo_blackLevel_1 : decode b_Mo_blackLevel 1 = .ok (.getfield 141, 3) := by decide +kernel
theorem d_Mo_blackLevel_4 : decode b_Mo_blackLevel 4 = .ok (.istore_n 3, 1) := by decide +kernel
theorem d_Mo_blackLevel_5 : decode b_Mo_blackLevel 5 = .ok (.aload_n 0, 1) := by decide +kernel
theorem d_Mo_blackLevel_6 : decode b_Mo_blackLevel 6 = .ok (.iload_n 1, 1) := by decide +kernel
theorem d_Mo_blackLevel_7 : decode b_Mo_blackLevel 7 = .ok (.iload_n 2, 1) := by decide +kernel
theorem d_Mo_blackLevel_8 : decode b_Mo_blackLevel 8 = .ok (.invokevirtual 171, 3) := by decide +kernel
theorem d_Mo_blackLevel_11 : decode b_Mo_blackLevel 11 = .ok (.aload_n 0, 1) := by decide +kernel
theorem d_Mo_blackLevel_12 : decode b_Mo_blackLevel 12 = .ok (.iload_n 1, 1) := by decide +kernel
theorem d_Mo_blackLevel_13 : decode b_Mo_blackLevel 13 = .ok (.invokevirtual 85, 3) := by decide +kernel
theorem d_Mo_blackLevel_16 : decode b_Mo_blackLevel 16 = .ok (.ifCond .eq (12), 3) := by decide +kernel
theorem d_Mo_blackLevel_19 : decode b_Mo_blackLevel 19 = .ok (.aload_n 0, 1) := by decide +kernel
theorem d_Mo_blackLevel_20 : decode b_Mo_blackLevel 20 = .ok (.bipush (6), 2) := by decide +kernel
theorem d_Mo_blackLevel_22 : decode b_Mo_blackLevel 22 = .ok (.iload_n 1, 1) := by decide +kernel
theorem d_Mo_blackLevel_23 : decode b_Mo_blackLevel 23 = .ok (.iconst (0), 1) := by decide +kernel
theorem d_Mo_blackLevel_24 : decode b_Mo_blackLevel 24 = .ok (.iconst (0), 1) := by decide +kernel
theorem d_Mo_blackLevel_25 : decode b_Mo_blackLevel 25 = .ok (.invokevirtual 150, 3) := by decide +kernel
theorem d_Mo_blackLevel_28 : decode b_Mo_blackLevel 28 = .ok (.iconst (0), 1) := by decide +kernel
theorem d_Mo_blackLevel_29 : decode b_Mo_blackLevel 29 = .ok (.istore 4, 2) := by decide +kernel
theorem d_Mo_blackLevel_31 : decode b_Mo_blackLevel 31 = .ok (.iload 4, 2) := by decide +kernel
theorem d_Mo_blackLevel_33 : decode b_Mo_blackLevel 33 = .ok (.iconst (3), 1) := by decide +kernel
theorem d_Mo_blackLevel_34 : decode b_Mo_blackLevel 34 = .ok (.if_icmp .ge (17), 3) := by decide +kernel
theorem d_Mo_blackLevel_37 : decode b_Mo_blackLevel 37 = .ok (.aload_n 0, 1) := by decide +kernel
theorem d_Mo_blackLevel_38 : decode b_Mo_blackLevel 38 = .ok (.getfield 51, 3) := by decide +kernel
theorem d_Mo_blackLevel_41 : decode b_Mo_blackLevel 41 = .ok (.iload 4, 2) := by decide +kernel
theorem d_Mo_blackLevel_43 : decode b_Mo_blackLevel 43 = .ok (.lconst 0, 1) := by decide +kernel
theorem d_Mo_blackLevel_44 : decode b_Mo_blackLevel 44 = .ok (.lastore, 1) := by decide +kernel
theorem d_Mo_blackLevel_45 : decode b_Mo_blackLevel 45 = .ok (.iinc 4 (1), 3) := by decide +kernel
theorem d_Mo_blackLevel_48 : decode b_Mo_blackLevel 48 = .ok (.goto (-17), 3) := by decide +kernel
theorem d_Mo_blackLevel_51 : decode b_Mo_blackLevel 51 = .ok (.iload_n 3, 1) := by decide +kernel
theorem d_Mo_blackLevel_52 : decode b_Mo_blackLevel 52 = .ok (.istore 4, 2) := by decide +kernel
theorem d_Mo_blackLevel_54 : decode b_Mo_blackLevel 54 = .ok (.iload 4, 2) := by decide +kernel
theorem d_Mo_blackLevel_56 : decode b_Mo_blackLevel 56 = .ok (.aload_n 0, 1) := by decide +kernel
theorem d_Mo_blackLevel_57 : decode b_Mo_blackLevel 57 = .ok (.getfield 141, 3) := by decide +kernel
theorem d_Mo_blackLevel_60 : decode b_Mo_blackLevel 60 = .ok (.if_icmp .ge (15), 3) := by decide +kernel
theorem d_Mo_blackLevel_63 : decode b_Mo_blackLevel 63 = .ok (.aload_n 0, 1) := by decide +kernel
theorem d_Mo_blackLevel_64 : decode b_Mo_blackLevel 64 = .ok (.iload 4, 2) := by decide +kernel
theorem d_Mo_blackLevel_66 : decode b_Mo_blackLevel 66 = .ok (.invokevirtual 174, 3) := by decide +kernel
theorem d_Mo_blackLevel_69 : decode b_Mo_blackLevel 69 = .ok (.iinc 4 (1), 3) := by decide +kernel
theorem d_Mo_blackLevel_72 : decode b_Mo_blackLevel 72 = .ok (.goto (-18), 3) := by decide +kernel
theorem d_Mo_blackLevel_75 : decode b_Mo_blackLevel 75 = .ok (.aload_n 0, 1) := by decide +kernel
theorem d_Mo_blackLevel_76 : decode b_Mo_blackLevel 76 = .ok (.iload_n 3, 1) := by decide +kernel
theorem d_Mo_blackLevel_77 : decode b_Mo_blackLevel 77 = .ok (.putfield 141, 3) := by decide +kernel
theorem d_Mo_blackLevel_80 : decode b_Mo_blackLevel 80 = .ok (.aload_n 0, 1) := by decide +kernel
theorem d_Mo_blackLevel_81 : decode b_Mo_blackLevel 81 = .ok (.getfield 51, 3) := by decide +kernel
theorem d_Mo_blackLevel_84 : decode b_Mo_blackLevel 84 = .ok (.iconst (1), 1) := by decide +kernel
theorem d_Mo_blackLevel_85 : decode b_Mo_blackLevel 85 = .ok (.laload, 1) := by decide +kernel
theorem d_Mo_blackLevel_86 : decode b_Mo_blackLevel 86 = .ok (.lreturn, 1) := by decide +kernel
theorem d_Mo_refusal_0 : decode b_Mo_refusal 0 = .ok (.iload_n 3, 1) := by decide +kernel
theorem d_Mo_refusal_1 : decode b_Mo_refusal 1 = .ok (.ifCond .lt (8), 3) := by decide +kernel
theorem d_Mo_refusal_4 : decode b_Mo_refusal 4 = .ok (.iload_n 3, 1) := by decide +kernel
theorem d_Mo_refusal_5 : decode b_Mo_refusal 5 = .ok (.iconst (3), 1) := by decide +kernel
theorem d_Mo_refusal_6 : decode b_Mo_refusal 6 = .ok (.if_icmp .le (6), 3) := by decide +kernel
theorem d_Mo_refusal_9 : decode b_Mo_refusal 9 = .ok (.bipush (-2), 2) := by decide +kernel
theorem d_Mo_refusal_11 : decode b_Mo_refusal 11 = .ok (.ireturn, 1) := by decide +kernel
theorem d_Mo_refusal_12 : decode b_Mo_refusal 12 = .ok (.aload_n 0, 1) := by decide +kernel
theorem d_Mo_refusal_13 : decode b_Mo_refusal 13 = .ok (.iload_n 2, 1) := by decide +kernel
theorem d_Mo_refusal_14 : decode b_Mo_refusal 14 = .ok (.iconst (2), 1) := by decide +kernel
theorem d_Mo_refusal_15 : decode b_Mo_refusal 15 = .ok (.invokevirtual 79, 3) := by decide +kernel
theorem d_Mo_refusal_18 : decode b_Mo_refusal 18 = .ok (.iconst (1), 1) := by decide +kernel
theorem d_Mo_refusal_19 : decode b_Mo_refusal 19 = .ok (.if_icmp .ne (6), 3) := by decide +kernel
theorem d_Mo_refusal_22 : decode b_Mo_refusal 22 = .ok (.bipush (-3), 2) := by decide +kernel
theorem d_Mo_refusal_24 : decode b_Mo_refusal 24 = .ok (.ireturn, 1) := by decide +kernel
theorem d_Mo_refusal_25 : decode b_Mo_refusal 25 = .ok (.aload_n 0, 1) := by decide +kernel
theorem d_Mo_refusal_26 : decode b_Mo_refusal 26 = .ok (.iload_n 2, 1) := by decide +kernel
theorem d_Mo_refusal_27 : decode b_Mo_refusal 27 = .ok (.invokevirtual 144, 3) := by decide +kernel
theorem d_Mo_refusal_30 : decode b_Mo_refusal 30 = .ok (.ifCond .ne (18), 3) := by decide +kernel
theorem d_Mo_refusal_33 : decode b_Mo_refusal 33 = .ok (.aload_n 0, 1) := by decide +kernel
theorem d_Mo_refusal_34 : decode b_Mo_refusal 34 = .ok (.iload_n 2, 1) := by decide +kernel
theorem d_Mo_refusal_35 : decode b_Mo_refusal 35 = .ok (.bipush (9), 2) := by decide +kernel
theorem d_Mo_refusal_37 : decode b_Mo_refusal 37 = .ok (.iload_n 3, 1) := by decide +kernel
theorem d_Mo_refusal_38 : decode b_Mo_refusal 38 = .ok (.invokevirtual 161, 3) := by decide +kernel
theorem d_Mo_refusal_41 : decode b_Mo_refusal 41 = .ok (.ifCond .ne (7), 3) := by decide +kernel
theorem d_Mo_refusal_44 : decode b_Mo_refusal 44 = .ok (.iconst (1), 1) := by decide +kernel
theorem d_Mo_refusal_45 : decode b_Mo_refusal 45 = .ok (.goto (4), 3) := by decide +kernel
theorem d_Mo_refusal_48 : decode b_Mo_refusal 48 = .ok (.iconst (0), 1) := by decide +kernel
theorem d_Mo_refusal_49 : decode b_Mo_refusal 49 = .ok (.istore 5, 2) := by decide +kernel
theorem d_Mo_refusal_51 : decode b_Mo_refusal 51 = .ok (.iload 5, 2) := by decide +kernel
theorem d_Mo_refusal_53 : decode b_Mo_refusal 53 = .ok (.ifCond .eq (14), 3) := by decide +kernel
theorem d_Mo_refusal_56 : decode b_Mo_refusal 56 = .ok (.aload_n 0, 1) := by decide +kernel
theorem d_Mo_refusal_57 : decode b_Mo_refusal 57 = .ok (.iload_n 2, 1) := by decide +kernel
theorem d_Mo_refusal_58 : decode b_Mo_refusal 58 = .ok (.invokevirtual 180, 3) := by decide +kernel
theorem d_Mo_refusal_61 : decode b_Mo_refusal 61 = .ok (.ifCond .ne (6), 3) := by decide +kernel
theorem d_Mo_refusal_64 : decode b_Mo_refusal 64 = .ok (.bipush (-4), 2) := by decide +kernel
theorem d_Mo_refusal_66 : decode b_Mo_refusal 66 = .ok (.ireturn, 1) := by decide +kernel
theorem d_Mo_refusal_67 : decode b_Mo_refusal 67 = .ok (.iload 5, 2) := by decide +kernel
theorem d_Mo_refusal_69 : decode b_Mo_refusal 69 = .ok (.ifCond .eq (65), 3) := by decide +kernel
theorem d_Mo_refusal_72 : decode b_Mo_refusal 72 = .ok (.aload_n 0, 1) := by decide +kernel
theorem d_Mo_refusal_73 : decode b_Mo_refusal 73 = .ok (.iload_n 2, 1) := by decide +kernel
theorem d_Mo_refusal_74 : decode b_Mo_refusal 74 = .ok (.invokevirtual 154, 3) := by decide +kernel
theorem d_Mo_refusal_77 : decode b_Mo_refusal 77 = .ok (.aload_n 0, 1) := by decide +kernel
theorem d_Mo_refusal_78 : decode b_Mo_refusal 78 = .ok (.invokevirtual 183, 3) := by decide +kernel
theorem d_Mo_refusal_81 : decode b_Mo_refusal 81 = .ok (.lstore 6, 2) := by decide +kernel
theorem d_Mo_refusal_83 : decode b_Mo_refusal 83 = .ok (.lload 6, 2) := by decide +kernel
theorem d_Mo_refusal_85 : decode b_Mo_refusal 85 = .ok (.ldc2_w 187, 3) := by decide +kernel
theorem d_Mo_refusal_88 : decode b_Mo_refusal 88 = .ok (.lcmp, 1) := by decide +kernel
theorem d_Mo_refusal_89 : decode b_Mo_refusal 89 = .ok (.ifCond .le (15), 3) := by decide +kernel
theorem d_Mo_refusal_92 : decode b_Mo_refusal 92 = .ok (.lload 6, 2) := by decide +kernel
theorem d_Mo_refusal_94 : decode b_Mo_refusal 94 = .ok (.ldc2_w 189, 3) := by decide +kernel
theorem d_Mo_refusal_97 : decode b_Mo_refusal 97 = .ok (.lcmp, 1) := by decide +kernel
theorem d_Mo_refusal_98 : decode b_Mo_refusal 98 = .ok (.ifCond .ge (6), 3) := by decide +kernel
theorem d_Mo_refusal_101 : decode b_Mo_refusal 101 = .ok (.bipush (-5), 2) := by decide +kernel
theorem d_Mo_refusal_103 : decode b_Mo_refusal 103 = .ok (.ireturn, 1) := by decide +kernel
theorem d_Mo_refusal_104 : decode b_Mo_refusal 104 = .ok (.aload_n 0, 1) := by decide +kernel
theorem d_Mo_refusal_105 : decode b_Mo_refusal 105 = .ok (.iload_n 2, 1) := by decide +kernel
theorem d_Mo_refusal_106 : decode b_Mo_refusal 106 = .ok (.iconst (2), 1) := by decide +kernel
theorem d_Mo_refusal_107 : decode b_Mo_refusal 107 = .ok (.invokevirtual 134, 3) := by decide +kernel
theorem d_Mo_refusal_110 : decode b_Mo_refusal 110 = .ok (.ifCond .eq (21), 3) := by decide +kernel
theorem d_Mo_refusal_113 : decode b_Mo_refusal 113 = .ok (.aload_n 0, 1) := by decide +kernel
theorem d_Mo_refusal_114 : decode b_Mo_refusal 114 = .ok (.iload_n 2, 1) := by decide +kernel
theorem d_Mo_refusal_115 : decode b_Mo_refusal 115 = .ok (.iconst (3), 1) := by decide +kernel
theorem d_Mo_refusal_116 : decode b_Mo_refusal 116 = .ok (.invokevirtual 134, 3) := by decide +kernel
theorem d_Mo_refusal_119 : decode b_Mo_refusal 119 = .ok (.ifCond .eq (12), 3) := by decide +kernel
theorem d_Mo_refusal_122 : decode b_Mo_refusal 122 = .ok (.aload_n 0, 1) := by decide +kernel
theorem d_Mo_refusal_123 : decode b_Mo_refusal 123 = .ok (.iload_n 2, 1) := by decide +kernel
theorem d_Mo_refusal_124 : decode b_Mo_refusal 124 = .ok (.iconst (4), 1) := by decide +kernel
theorem d_Mo_refusal_125 : decode b_Mo_refusal 125 = .ok (.invokevirtual 134, 3) := by decide +kernel
theorem d_Mo_refusal_128 : decode b_Mo_refusal 128 = .ok (.ifCond .ne (6), 3) := by decide +kernel
theorem d_Mo_refusal_131 : decode b_Mo_refusal 131 = .ok (.bipush (-6), 2) := by decide +kernel
theorem d_Mo_refusal_133 : decode b_Mo_refusal 133 = .ok (.ireturn, 1) := by decide +kernel
theorem d_Mo_refusal_134 : decode b_Mo_refusal 134 = .ok (.aload_n 0, 1) := by decide +kernel
theorem d_Mo_refusal_135 : decode b_Mo_refusal 135 = .ok (.iload_n 2, 1) := by decide +kernel
theorem d_Mo_refusal_136 : decode b_Mo_refusal 136 = .ok (.invokevirtual 144, 3) := by decide +kernel
theorem d_Mo_refusal_139 : decode b_Mo_refusal 139 = .ok (.ifCond .eq (15), 3) := by decide +kernel
theorem d_Mo_refusal_142 : decode b_Mo_refusal 142 = .ok (.aload_n 0, 1) := by decide +kernel
theorem d_Mo_refusal_143 : decode b_Mo_refusal 143 = .ok (.iload_n 2, 1) := by decide +kernel
theorem d_Mo_refusal_144 : decode b_Mo_refusal 144 = .ok (.iconst (1), 1) := by decide +kernel
theorem d_Mo_refusal_145 : decode b_Mo_refusal 145 = .ok (.invokevirtual 134, 3) := by decide +kernel
theorem d_Mo_refusal_148 : decode b_Mo_refusal 148 = .ok (.ifCond .ne (6), 3) := by decide +kernel
theorem d_Mo_refusal_151 : decode b_Mo_refusal 151 = .ok (.bipush (-6), 2) := by decide +kernel
theorem d_Mo_refusal_153 : decode b_Mo_refusal 153 = .ok (.ireturn, 1) := by decide +kernel
theorem d_Mo_refusal_154 : decode b_Mo_refusal 154 = .ok (.iload_n 3, 1) := by decide +kernel
theorem d_Mo_refusal_155 : decode b_Mo_refusal 155 = .ok (.iconst (3), 1) := by decide +kernel
theorem d_Mo_refusal_156 : decode b_Mo_refusal 156 = .ok (.if_icmp .ne (46), 3) := by decide +kernel
theorem d_Mo_refusal_159 : decode b_Mo_refusal 159 = .ok (.aload_n 0, 1) := by decide +kernel
theorem d_Mo_refusal_160 : decode b_Mo_refusal 160 = .ok (.iload_n 1, 1) := by decide +kernel
theorem d_Mo_refusal_161 : decode b_Mo_refusal 161 = .ok (.iload_n 2, 1) := by decide +kernel
theorem d_Mo_refusal_162 : decode b_Mo_refusal 162 = .ok (.invokevirtual 191, 3) := by decide +kernel
theorem d_Mo_refusal_165 : decode b_Mo_refusal 165 = .ok (.ifCond .eq (35), 3) := by decide +kernel
theorem d_Mo_refusal_168 : decode b_Mo_refusal 168 = .ok (.aload_n 0, 1) := by decide +kernel
theorem d_Mo_refusal_169 : decode b_Mo_refusal 169 = .ok (.iload_n 2, 1) := by decide +kernel
theorem d_Mo_refusal_170 : decode b_Mo_refusal 170 = .ok (.iconst (0), 1) := by decide +kernel
theorem d_Mo_refusal_171 : decode b_Mo_refusal 171 = .ok (.invokevirtual 177, 3) := by decide +kernel
theorem d_Mo_refusal_174 : decode b_Mo_refusal 174 = .ok (.ifCond .eq (21), 3) := by decide +kernel
theorem d_Mo_refusal_177 : decode b_Mo_refusal 177 = .ok (.aload_n 0, 1) := by decide +kernel
theorem d_Mo_refusal_178 : decode b_Mo_refusal 178 = .ok (.iload_n 2, 1) := by decide +kernel
theorem d_Mo_refusal_179 : decode b_Mo_refusal 179 = .ok (.iconst (1), 1) := by decide +kernel
theorem d_Mo_refusal_180 : decode b_Mo_refusal 180 = .ok (.invokevirtual 177, 3) := by decide +kernel
theorem d_Mo_refusal_183 : decode b_Mo_refusal 183 = .ok (.ifCond .eq (12), 3) := by decide +kernel
theorem d_Mo_refusal_186 : decode b_Mo_refusal 186 = .ok (.aload_n 0, 1) := by decide +kernel
theorem d_Mo_refusal_187 : decode b_Mo_refusal 187 = .ok (.iload_n 2, 1) := by decide +kernel
theorem d_Mo_refusal_188 : decode b_Mo_refusal 188 = .ok (.iconst (2), 1) := by decide +kernel
theorem d_Mo_refusal_189 : decode b_Mo_refusal 189 = .ok (.invokevirtual 177, 3) := by decide +kernel
theorem d_Mo_refusal_192 : decode b_Mo_refusal 192 = .ok (.ifCond .ne (8), 3) := by decide +kernel
theorem d_Mo_refusal_195 : decode b_Mo_refusal 195 = .ok (.bipush (-7), 2) := by decide +kernel
theorem d_Mo_refusal_197 : decode b_Mo_refusal 197 = .ok (.goto (4), 3) := by decide +kernel
theorem d_Mo_refusal_200 : decode b_Mo_refusal 200 = .ok (.iconst (0), 1) := by decide +kernel
theorem d_Mo_refusal_201 : decode b_Mo_refusal 201 = .ok (.ireturn, 1) := by decide +kernel
theorem d_Mo_refusal_202 : decode b_Mo_refusal 202 = .ok (.iload 4, 2) := by decide +kernel
theorem d_Mo_refusal_204 : decode b_Mo_refusal 204 = .ok (.ifCond .ne (5), 3) := by decide +kernel
theorem d_Mo_refusal_207 : decode b_Mo_refusal 207 = .ok (.iconst (0), 1) := by decide +kernel
theorem d_Mo_refusal_208 : decode b_Mo_refusal 208 = .ok (.ireturn, 1) := by decide +kernel
theorem d_Mo_refusal_209 : decode b_Mo_refusal 209 = .ok (.aload_n 0, 1) := by decide +kernel
theorem d_Mo_refusal_210 : decode b_Mo_refusal 210 = .ok (.iload_n 1, 1) := by decide +kernel
theorem d_Mo_refusal_211 : decode b_Mo_refusal 211 = .ok (.iload_n 3, 1) := by decide +kernel
theorem d_Mo_refusal_212 : decode b_Mo_refusal 212 = .ok (.invokevirtual 194, 3) := by decide +kernel
theorem d_Mo_refusal_215 : decode b_Mo_refusal 215 = .ok (.lstore 6, 2) := by decide +kernel
theorem d_Mo_refusal_217 : decode b_Mo_refusal 217 = .ok (.aload_n 0, 1) := by decide +kernel
theorem d_Mo_refusal_218 : decode b_Mo_refusal 218 = .ok (.iload_n 2, 1) := by decide +kernel
theorem d_Mo_refusal_219 : decode b_Mo_refusal 219 = .ok (.iload_n 3, 1) := by decide +kernel
theorem d_Mo_refusal_220 : decode b_Mo_refusal 220 = .ok (.invokevirtual 194, 3) := by decide +kernel
theorem d_Mo_refusal_223 : decode b_Mo_refusal 223 = .ok (.lstore 8, 2) := by decide +kernel
theorem d_Mo_refusal_225 : decode b_Mo_refusal 225 = .ok (.lload 6, 2) := by decide +kernel
theorem d_Mo_refusal_227 : decode b_Mo_refusal 227 = .ok (.ldc2_w 131, 3) := by decide +kernel
theorem d_Mo_refusal_230 : decode b_Mo_refusal 230 = .ok (.lcmp, 1) := by decide +kernel
theorem d_Mo_refusal_231 : decode b_Mo_refusal 231 = .ok (.ifCond .ge (12), 3) := by decide +kernel
theorem d_Mo_refusal_234 : decode b_Mo_refusal 234 = .ok (.lload 8, 2) := by decide +kernel
theorem d_Mo_refusal_236 : decode b_Mo_refusal 236 = .ok (.ldc2_w 131, 3) := by decide +kernel
theorem d_Mo_refusal_239 : decode b_Mo_refusal 239 = .ok (.lcmp, 1) := by decide +kernel
theorem d_Mo_refusal_240 : decode b_Mo_refusal 240 = .ok (.ifCond .lt (8), 3) := by decide +kernel
theorem d_Mo_refusal_243 : decode b_Mo_refusal 243 = .ok (.bipush (-7), 2) := by decide +kernel
theorem d_Mo_refusal_245 : decode b_Mo_refusal 245 = .ok (.goto (4), 3) := by decide +kernel
theorem d_Mo_refusal_248 : decode b_Mo_refusal 248 = .ok (.iconst (0), 1) := by decide +kernel
theorem d_Mo_refusal_249 : decode b_Mo_refusal 249 = .ok (.ireturn, 1) := by decide +kernel
