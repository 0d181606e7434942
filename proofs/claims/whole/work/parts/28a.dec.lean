theorem d_Mo_lattice_0 : decode b_Mo_lattice 0 = .ok (.aload_n 0, 1) := by decide +kernel
theorem d_Mo_lattice_1 : decode b_Mo_lattice 1 = .ok (.iload_n 1, 1) := by decide +kernel
theorem d_Mo_lattice_2 : decode b_Mo_lattice 2 = .ok (.iload_n 2, 1) := by decide +kernel
theorem d_Mo_lattice_3 : decode b_Mo_lattice 3 = .ok (.iconst (1), 1) := by decide +kernel
theorem d_Mo_lattice_4 : decode b_Mo_lattice 4 = .ok (.iadd, 1) := by decide +kernel
theorem d_Mo_lattice_5 : decode b_Mo_lattice 5 = .ok (.invokevirtual 79, 3) := by decide +kernel
theorem d_Mo_lattice_8 : decode b_Mo_lattice 8 = .ok (.istore_n 3, 1) := by decide +kernel
theorem d_Mo_lattice_9 : decode b_Mo_lattice 9 = .ok (.iconst (0), 1) := by decide +kernel
theorem d_Mo_lattice_10 : decode b_Mo_lattice 10 = .ok (.istore 4, 2) := by decide +kernel
theorem d_Mo_lattice_12 : decode b_Mo_lattice 12 = .ok (.iconst (0), 1) := by decide +kernel
theorem d_Mo_lattice_13 : decode b_Mo_lattice 13 = .ok (.istore 5, 2) := by decide +kernel
theorem d_Mo_lattice_15 : decode b_Mo_lattice 15 = .ok (.iload 5, 2) := by decide +kernel
theorem d_Mo_lattice_17 : decode b_Mo_lattice 17 = .ok (.iconst (3), 1) := by decide +kernel
theorem d_Mo_lattice_18 : decode b_Mo_lattice 18 = .ok (.if_icmp .ge (78), 3) := by decide +kernel
theorem d_Mo_lattice_21 : decode b_Mo_lattice 21 = .ok (.aload_n 0, 1) := by decide +kernel
theorem d_Mo_lattice_22 : decode b_Mo_lattice 22 = .ok (.getfield 54, 3) := by decide +kernel
theorem d_Mo_lattice_25 : decode b_Mo_lattice 25 = .ok (.iload 5, 2) := by decide +kernel
theorem d_Mo_lattice_27 : decode b_Mo_lattice 27 = .ok (.laload, 1) := by decide +kernel
theorem d_Mo_lattice_28 : decode b_Mo_lattice 28 = .ok (.iload_n 3, 1) := by decide +kernel
theorem d_Mo_lattice_29 : decode b_Mo_lattice 29 = .ok (.iconst (1), 1) := by decide +kernel
theorem d_Mo_lattice_30 : decode b_Mo_lattice 30 = .ok (.isub, 1) := by decide +kernel
theorem d_Mo_lattice_31 : decode b_Mo_lattice 31 = .ok (.i2l, 1) := by decide +kernel
theorem d_Mo_lattice_32 : decode b_Mo_lattice 32 = .ok (.lmul, 1) := by decide +kernel
theorem d_Mo_lattice_33 : decode b_Mo_lattice 33 = .ok (.lstore 6, 2) := by decide +kernel
theorem d_Mo_lattice_35 : decode b_Mo_lattice 35 = .ok (.lload 6, 2) := by decide +kernel
theorem d_Mo_lattice_37 : decode b_Mo_lattice 37 = .ok (.ldc2_w 112, 3) := by decide +kernel
theorem d_Mo_lattice_40 : decode b_Mo_lattice 40 = .ok (.ldiv, 1) := by decide +kernel
theorem d_Mo_lattice_41 : decode b_Mo_lattice 41 = .ok (.iload_n 3, 1) := by decide +kernel
theorem d_Mo_lattice_42 : decode b_Mo_lattice 42 = .ok (.iconst (2), 1) := by decide +kernel
theorem d_Mo_lattice_43 : decode b_Mo_lattice 43 = .ok (.isub, 1) := by decide +kernel
theorem d_Mo_lattice_44 : decode b_Mo_lattice 44 = .ok (.i2l, 1) := by decide +kernel
theorem d_Mo_lattice_45 : decode b_Mo_lattice 45 = .ok (.lcmp, 1) := by decide +kernel
theorem d_Mo_lattice_46 : decode b_Mo_lattice 46 = .ok (.ifCond .ge (13), 3) := by decide +kernel
theorem d_Mo_lattice_49 : decode b_Mo_lattice 49 = .ok (.lload 6, 2) := by decide +kernel
theorem d_Mo_lattice_51 : decode b_Mo_lattice 51 = .ok (.ldc2_w 112, 3) := by decide +kernel
theorem d_Mo_lattice_54 : decode b_Mo_lattice 54 = .ok (.ldiv, 1) := by decide +kernel
theorem d_Mo_lattice_55 : decode b_Mo_lattice 55 = .ok (.l2i, 1) := by decide +kernel
theorem d_Mo_lattice_56 : decode b_Mo_lattice 56 = .ok (.goto (6), 3) := by decide +kernel
theorem d_Mo_lattice_59 : decode b_Mo_lattice 59 = .ok (.iload_n 3, 1) := by decide +kernel
theorem d_Mo_lattice_60 : decode b_Mo_lattice 60 = .ok (.iconst (2), 1) := by decide +kernel
theorem d_Mo_lattice_61 : decode b_Mo_lattice 61 = .ok (.isub, 1) := by decide +kernel
theorem d_Mo_lattice_62 : decode b_Mo_lattice 62 = .ok (.istore 8, 2) := by decide +kernel
theorem d_Mo_lattice_64 : decode b_Mo_lattice 64 = .ok (.iconst (4), 1) := by decide +kernel
theorem d_Mo_lattice_65 : decode b_Mo_lattice 65 = .ok (.iload 4, 2) := by decide +kernel
theorem d_Mo_lattice_67 : decode b_Mo_lattice 67 = .ok (.imul, 1) := by decide +kernel
theorem d_Mo_lattice_68 : decode b_Mo_lattice 68 = .ok (.iload 8, 2) := by decide +kernel
theorem d_Mo_lattice_70 : decode b_Mo_lattice 70 = .ok (.iadd, 1) := by decide +kernel
theorem d_Mo_lattice_71 : decode b_Mo_lattice 71 = .ok (.istore 4, 2) := by decide +kernel
theorem d_Mo_lattice_73 : decode b_Mo_lattice 73 = .ok (.aload_n 0, 1) := by decide +kernel
theorem d_Mo_lattice_74 : decode b_Mo_lattice 74 = .ok (.getfield 54, 3) := by decide +kernel
theorem d_Mo_lattice_77 : decode b_Mo_lattice 77 = .ok (.iload 5, 2) := by decide +kernel
theorem d_Mo_lattice_79 : decode b_Mo_lattice 79 = .ok (.lload 6, 2) := by decide +kernel
theorem d_Mo_lattice_81 : decode b_Mo_lattice 81 = .ok (.ldc2_w 112, 3) := by decide +kernel
theorem d_Mo_lattice_84 : decode b_Mo_lattice 84 = .ok (.iload 8, 2) := by decide +kernel
theorem d_Mo_lattice_86 : decode b_Mo_lattice 86 = .ok (.i2l, 1) := by decide +kernel
theorem d_Mo_lattice_87 : decode b_Mo_lattice 87 = .ok (.lmul, 1) := by decide +kernel
theorem d_Mo_lattice_88 : decode b_Mo_lattice 88 = .ok (.lsub, 1) := by decide +kernel
theorem d_Mo_lattice_89 : decode b_Mo_lattice 89 = .ok (.lastore, 1) := by decide +kernel
theorem d_Mo_lattice_90 : decode b_Mo_lattice 90 = .ok (.iinc 5 (1), 3) := by decide +kernel
theorem d_Mo_lattice_93 : decode b_Mo_lattice 93 = .ok (.goto (-78), 3) := by decide +kernel
theorem d_Mo_lattice_96 : decode b_Mo_lattice 96 = .ok (.aload_n 0, 1) := by decide +kernel
theorem d_Mo_lattice_97 : decode b_Mo_lattice 97 = .ok (.getfield 54, 3) := by decide +kernel
theorem d_Mo_lattice_100 : decode b_Mo_lattice 100 = .ok (.iconst (0), 1) := by decide +kernel
theorem d_Mo_lattice_101 : decode b_Mo_lattice 101 = .ok (.laload, 1) := by decide +kernel
theorem d_Mo_lattice_102 : decode b_Mo_lattice 102 = .ok (.aload_n 0, 1) := by decide +kernel
theorem d_Mo_lattice_103 : decode b_Mo_lattice 103 = .ok (.getfield 54, 3) := by decide +kernel
theorem d_Mo_lattice_106 : decode b_Mo_lattice 106 = .ok (.iconst (1), 1) := by decide +kernel
theorem d_Mo_lattice_107 : decode b_Mo_lattice 107 = .ok (.laload, 1) := by decide +kernel
theorem d_Mo_lattice_108 : decode b_Mo_lattice 108 = .ok (.lcmp, 1) := by decide +kernel
theorem d_Mo_lattice_109 : decode b_Mo_lattice 109 = .ok (.ifCond .lt (23), 3) := by decide +kernel
theorem d_Mo_lattice_112 : decode b_Mo_lattice 112 = .ok (.aload_n 0, 1) := by decide +kernel
theorem d_Mo_lattice_113 : decode b_Mo_lattice 113 = .ok (.getfield 54, 3) := by decide +kernel
theorem d_Mo_lattice_116 : decode b_Mo_lattice 116 = .ok (.iconst (0), 1) := by decide +kernel
theorem d_Mo_lattice_117 : decode b_Mo_lattice 117 = .ok (.laload, 1) := by decide +kernel
theorem d_Mo_lattice_118 : decode b_Mo_lattice 118 = .ok (.aload_n 0, 1) := by decide +kernel
theorem d_Mo_lattice_119 : decode b_Mo_lattice 119 = .ok (.getfield 54, 3) := by decide +kernel
theorem d_Mo_lattice_122 : decode b_Mo_lattice 122 = .ok (.iconst (2), 1) := by decide +kernel
theorem d_Mo_lattice_123 : decode b_Mo_lattice 123 = .ok (.laload, 1) := by decide +kernel
theorem d_Mo_lattice_124 : decode b_Mo_lattice 124 = .ok (.lcmp, 1) := by decide +kernel
theorem d_Mo_lattice_125 : decode b_Mo_lattice 125 = .ok (.ifCond .lt (7), 3) := by decide +kernel
theorem d_Mo_lattice_128 : decode b_Mo_lattice 128 = .ok (.iconst (0), 1) := by decide +kernel
theorem d_Mo_lattice_129 : decode b_Mo_lattice 129 = .ok (.goto (24), 3) := by decide +kernel
theorem d_Mo_lattice_132 : decode b_Mo_lattice 132 = .ok (.aload_n 0, 1) := by decide +kernel
theorem d_Mo_lattice_133 : decode b_Mo_lattice 133 = .ok (.getfield 54, 3) := by decide +kernel
theorem d_Mo_lattice_136 : decode b_Mo_lattice 136 = .ok (.iconst (1), 1) := by decide +kernel
theorem d_Mo_lattice_137 : decode b_Mo_lattice 137 = .ok (.laload, 1) := by decide +kernel
theorem d_Mo_lattice_138 : decode b_Mo_lattice 138 = .ok (.aload_n 0, 1) := by decide +kernel
theorem d_Mo_lattice_139 : decode b_Mo_lattice 139 = .ok (.getfield 54, 3) := by decide +kernel
theorem d_Mo_lattice_142 : decode b_Mo_lattice 142 = .ok (.iconst (2), 1) := by decide +kernel
theorem d_Mo_lattice_143 : decode b_Mo_lattice 143 = .ok (.laload, 1) := by decide +kernel
theorem d_Mo_lattice_144 : decode b_Mo_lattice 144 = .ok (.lcmp, 1) := by decide +kernel
theorem d_Mo_lattice_145 : decode b_Mo_lattice 145 = .ok (.ifCond .lt (7), 3) := by decide +kernel
theorem d_Mo_lattice_148 : decode b_Mo_lattice 148 = .ok (.iconst (1), 1) := by decide +kernel
theorem d_Mo_lattice_149 : decode b_Mo_lattice 149 = .ok (.goto (4), 3) := by decide +kernel
theorem d_Mo_lattice_152 : decode b_Mo_lattice 152 = .ok (.iconst (2), 1) := by decide +kernel
theorem d_Mo_lattice_153 : decode b_Mo_lattice 153 = .ok (.istore 5, 2) := by decide +kernel
theorem d_Mo_lattice_155 : decode b_Mo_lattice 155 = .ok (.iload 5, 2) := by decide +kernel
theorem d_Mo_lattice_157 : decode b_Mo_lattice 157 = .ok (.iconst (2), 1) := by decide +kernel
theorem d_Mo_lattice_158 : decode b_Mo_lattice 158 = .ok (.if_icmp .ne (27), 3) := by decide +kernel
theorem d_Mo_lattice_161 : decode b_Mo_lattice 161 = .ok (.aload_n 0, 1) := by decide +kernel
theorem d_Mo_lattice_162 : decode b_Mo_lattice 162 = .ok (.getfield 54, 3) := by decide +kernel
theorem d_Mo_lattice_165 : decode b_Mo_lattice 165 = .ok (.iconst (0), 1) := by decide +kernel
theorem d_Mo_lattice_166 : decode b_Mo_lattice 166 = .ok (.laload, 1) := by decide +kernel
theorem d_Mo_lattice_167 : decode b_Mo_lattice 167 = .ok (.aload_n 0, 1) := by decide +kernel
theorem d_Mo_lattice_168 : decode b_Mo_lattice 168 = .ok (.getfield 54, 3) := by decide +kernel
theorem d_Mo_lattice_171 : decode b_Mo_lattice 171 = .ok (.iconst (1), 1) := by decide +kernel
theorem d_Mo_lattice_172 : decode b_Mo_lattice 172 = .ok (.laload, 1) := by decide +kernel
theorem d_Mo_lattice_173 : decode b_Mo_lattice 173 = .ok (.lcmp, 1) := by decide +kernel
theorem d_Mo_lattice_174 : decode b_Mo_lattice 174 = .ok (.ifCond .gt (7), 3) := by decide +kernel
theorem d_Mo_lattice_177 : decode b_Mo_lattice 177 = .ok (.iconst (0), 1) := by decide +kernel
theorem d_Mo_lattice_178 : decode b_Mo_lattice 178 = .ok (.goto (34), 3) := by decide +kernel
theorem d_Mo_lattice_181 : decode b_Mo_lattice 181 = .ok (.iconst (1), 1) := by decide +kernel
theorem d_Mo_lattice_182 : decode b_Mo_lattice 182 = .ok (.goto (30), 3) := by decide +kernel
theorem d_Mo_lattice_185 : decode b_Mo_lattice 185 = .ok (.aload_n 0, 1) := by decide +kernel
theorem d_Mo_lattice_186 : decode b_Mo_lattice 186 = .ok (.getfield 54, 3) := by decide +kernel
theorem d_Mo_lattice_189 : decode b_Mo_lattice 189 = .ok (.iconst (2), 1) := by decide +kernel
theorem d_Mo_lattice_190 : decode b_Mo_lattice 190 = .ok (.laload, 1) := by decide +kernel
theorem d_Mo_lattice_191 : decode b_Mo_lattice 191 = .ok (.aload_n 0, 1) := by decide +kernel
theorem d_Mo_lattice_192 : decode b_Mo_lattice 192 = .ok (.getfield 54, 3) := by decide +kernel
theorem d_Mo_lattice_195 : decode b_Mo_lattice 195 = .ok (.iconst (1), 1) := by decide +kernel
theorem d_Mo_lattice_196 : decode b_Mo_lattice 196 = .ok (.iload 5, 2) := by decide +kernel
theorem d_Mo_lattice_198 : decode b_Mo_lattice 198 = .ok (.isub, 1) := by decide +kernel
theorem d_Mo_lattice_199 : decode b_Mo_lattice 199 = .ok (.laload, 1) := by decide +kernel
theorem d_Mo_lattice_200 : decode b_Mo_lattice 200 = .ok (.lcmp, 1) := by decide +kernel
theorem d_Mo_lattice_201 : decode b_Mo_lattice 201 = .ok (.ifCond .gt (7), 3) := by decide +kernel
theorem d_Mo_lattice_204 : decode b_Mo_lattice 204 = .ok (.iconst (2), 1) := by decide +kernel
theorem d_Mo_lattice_205 : decode b_Mo_lattice 205 = .ok (.goto (7), 3) := by decide +kernel
theorem d_Mo_lattice_208 : decode b_Mo_lattice 208 = .ok (.iconst (1), 1) := by decide +kernel
theorem d_Mo_lattice_209 : decode b_Mo_lattice 209 = .ok (.iload 5, 2) := by decide +kernel
theorem d_Mo_lattice_211 : decode b_Mo_lattice 211 = .ok (.isub, 1) := by decide +kernel
theorem d_Mo_lattice_212 : decode b_Mo_lattice 212 = .ok (.istore 6, 2) := by decide +kernel
theorem d_Mo_lattice_214 : decode b_Mo_lattice 214 = .ok (.iconst (3), 1) := by decide +kernel
theorem d_Mo_lattice_215 : decode b_Mo_lattice 215 = .ok (.iload 5, 2) := by decide +kernel
theorem d_Mo_lattice_217 : decode b_Mo_lattice 217 = .ok (.isub, 1) := by decide +kernel
theorem d_Mo_lattice_218 : decode b_Mo_lattice 218 = .ok (.iload 6, 2) := by decide +kernel
theorem d_Mo_lattice_220 : decode b_Mo_lattice 220 = .ok (.isub, 1) := by decide +kernel
theorem d_Mo_lattice_221 : decode b_Mo_lattice 221 = .ok (.istore 7, 2) := by decide +kernel
theorem d_Mo_lattice_223 : decode b_Mo_lattice 223 = .ok (.iload 4, 2) := by decide +kernel
theorem d_Mo_lattice_225 : decode b_Mo_lattice 225 = .ok (.iload 5, 2) := by decide +kernel
theorem d_Mo_lattice_227 : decode b_Mo_lattice 227 = .ok (.ifCond .ne (8), 3) := by decide +kernel
theorem d_Mo_lattice_230 : decode b_Mo_lattice 230 = .ok (.bipush (16), 2) := by decide +kernel
theorem d_Mo_lattice_232 : decode b_Mo_lattice 232 = .ok (.goto (14), 3) := by decide +kernel
theorem d_Mo_lattice_235 : decode b_Mo_lattice 235 = .ok (.iload 5, 2) := by decide +kernel
theorem d_Mo_lattice_237 : decode b_Mo_lattice 237 = .ok (.iconst (1), 1) := by decide +kernel
theorem d_Mo_lattice_238 : decode b_Mo_lattice 238 = .ok (.if_icmp .ne (7), 3) := by decide +kernel
theorem d_Mo_lattice_241 : decode b_Mo_lattice 241 = .ok (.iconst (4), 1) := by decide +kernel
theorem d_Mo_lattice_242 : decode b_Mo_lattice 242 = .ok (.goto (4), 3) := by decide +kernel
theorem d_Mo_lattice_245 : decode b_Mo_lattice 245 = .ok (.iconst (1), 1) := by decide +kernel
theorem d_Mo_lattice_246 : decode b_Mo_lattice 246 = .ok (.iadd, 1) := by decide +kernel
theorem d_Mo_lattice_247 : decode b_Mo_lattice 247 = .ok (.istore 8, 2) := by decide +kernel
theorem d_Mo_lattice_249 : decode b_Mo_lattice 249 = .ok (.iload 8, 2) := by decide +kernel
theorem d_Mo_lattice_251 : decode b_Mo_lattice 251 = .ok (.iload 7, 2) := by decide +kernel
theorem d_Mo_lattice_253 : decode b_Mo_lattice 253 = .ok (.ifCond .ne (8), 3) := by decide +kernel
theorem d_Mo_lattice_256 : decode b_Mo_lattice 256 = .ok (.bipush (16), 2) := by decide +kernel
theorem d_Mo_lattice_258 : decode b_Mo_lattice 258 = .ok (.goto (14), 3) := by decide +kernel
theorem d_Mo_lattice_261 : decode b_Mo_lattice 261 = .ok (.iload 7, 2) := by decide +kernel
theorem d_Mo_lattice_263 : decode b_Mo_lattice 263 = .ok (.iconst (1), 1) := by decide +kernel
theorem d_Mo_lattice_264 : decode b_Mo_lattice 264 = .ok (.if_icmp .ne (7), 3) := by decide +kernel
theorem d_Mo_lattice_267 : decode b_Mo_lattice 267 = .ok (.iconst (4), 1) := by decide +kernel
theorem d_Mo_lattice_268 : decode b_Mo_lattice 268 = .ok (.goto (4), 3) := by decide +kernel
theorem d_Mo_lattice_271 : decode b_Mo_lattice 271 = .ok (.iconst (1), 1) := by decide +kernel
theorem d_Mo_lattice_272 : decode b_Mo_lattice 272 = .ok (.iadd, 1) := by decide +kernel
theorem d_Mo_lattice_273 : decode b_Mo_lattice 273 = .ok (.istore 9, 2) := by decide +kernel
theorem d_Mo_lattice_275 : decode b_Mo_lattice 275 = .ok (.iconst (0), 1) := by decide +kernel
theorem d_Mo_lattice_276 : decode b_Mo_lattice 276 = .ok (.istore 10, 2) := by decide +kernel
theorem d_Mo_lattice_278 : decode b_Mo_lattice 278 = .ok (.iload 10, 2) := by decide +kernel
theorem d_Mo_lattice_280 : decode b_Mo_lattice 280 = .ok (.iconst (3), 1) := by decide +kernel
theorem d_Mo_lattice_281 : decode b_Mo_lattice 281 = .ok (.if_icmp .ge (128), 3) := by decide +kernel
theorem d_Mo_lattice_284 : decode b_Mo_lattice 284 = .ok (.ldc2_w 112, 3) := by decide +kernel
theorem d_Mo_lattice_287 : decode b_Mo_lattice 287 = .ok (.aload_n 0, 1) := by decide +kernel
theorem d_Mo_lattice_288 : decode b_Mo_lattice 288 = .ok (.getfield 54, 3) := by decide +kernel
theorem d_Mo_lattice_291 : decode b_Mo_lattice 291 = .ok (.iload 5, 2) := by decide +kernel
theorem d_Mo_lattice_293 : decode b_Mo_lattice 293 = .ok (.laload, 1) := by decide +kernel
theorem d_Mo_lattice_294 : decode b_Mo_lattice 294 = .ok (.lsub, 1) := by decide +kernel
theorem d_Mo_lattice_295 : decode b_Mo_lattice 295 = .ok (.aload_n 0, 1) := by decide +kernel
theorem d_Mo_lattice_296 : decode b_Mo_lattice 296 = .ok (.iload_n 1, 1) := by decide +kernel
theorem d_Mo_lattice_297 : decode b_Mo_lattice 297 = .ok (.iload_n 2, 1) := by decide +kernel
theorem d_Mo_lattice_298 : decode b_Mo_lattice 298 = .ok (.iload 4, 2) := by decide +kernel
theorem d_Mo_lattice_300 : decode b_Mo_lattice 300 = .ok (.iload 10, 2) := by decide +kernel
theorem d_Mo_lattice_302 : decode b_Mo_lattice 302 = .ok (.invokevirtual 254, 3) := by decide +kernel
theorem d_Mo_lattice_305 : decode b_Mo_lattice 305 = .ok (.lmul, 1) := by decide +kernel
theorem d_Mo_lattice_306 : decode b_Mo_lattice 306 = .ok (.aload_n 0, 1) := by decide +kernel
theorem d_Mo_lattice_307 : decode b_Mo_lattice 307 = .ok (.getfield 54, 3) := by decide +kernel
theorem d_Mo_lattice_310 : decode b_Mo_lattice 310 = .ok (.iload 5, 2) := by decide +kernel
theorem d_Mo_lattice_312 : decode b_Mo_lattice 312 = .ok (.laload, 1) := by decide +kernel
theorem d_Mo_lattice_313 : decode b_Mo_lattice 313 = .ok (.aload_n 0, 1) := by decide +kernel
theorem d_Mo_lattice_314 : decode b_Mo_lattice 314 = .ok (.getfield 54, 3) := by decide +kernel
theorem d_Mo_lattice_317 : decode b_Mo_lattice 317 = .ok (.iload 7, 2) := by decide +kernel
theorem d_Mo_lattice_319 : decode b_Mo_lattice 319 = .ok (.laload, 1) := by decide +kernel
theorem d_Mo_lattice_320 : decode b_Mo_lattice 320 = .ok (.lsub, 1) := by decide +kernel
theorem d_Mo_lattice_321 : decode b_Mo_lattice 321 = .ok (.aload_n 0, 1) := by decide +kernel
theorem d_Mo_lattice_322 : decode b_Mo_lattice 322 = .ok (.iload_n 1, 1) := by decide +kernel
theorem d_Mo_lattice_323 : decode b_Mo_lattice 323 = .ok (.iload_n 2, 1) := by decide +kernel
theorem d_Mo_lattice_324 : decode b_Mo_lattice 324 = .ok (.iload 8, 2) := by decide +kernel
theorem d_Mo_lattice_326 : decode b_Mo_lattice 326 = .ok (.iload 10, 2) := by decide +kernel
theorem d_Mo_lattice_328 : decode b_Mo_lattice 328 = .ok (.invokevirtual 254, 3) := by decide +kernel
theorem d_Mo_lattice_331 : decode b_Mo_lattice 331 = .ok (.lmul, 1) := by decide +kernel
theorem d_Mo_lattice_332 : decode b_Mo_lattice 332 = .ok (.ladd, 1) := by decide +kernel
theorem d_Mo_lattice_333 : decode b_Mo_lattice 333 = .ok (.lstore 11, 2) := by decide +kernel
theorem d_Mo_lattice_335 : decode b_Mo_lattice 335 = .ok (.lload 11, 2) := by decide +kernel
theorem d_Mo_lattice_337 : decode b_Mo_lattice 337 = .ok (.aload_n 0, 1) := by decide +kernel
theorem d_Mo_lattice_338 : decode b_Mo_lattice 338 = .ok (.getfield 54, 3) := by decide +kernel
theorem d_Mo_lattice_341 : decode b_Mo_lattice 341 = .ok (.iload 7, 2) := by decide +kernel
theorem d_Mo_lattice_343 : decode b_Mo_lattice 343 = .ok (.laload, 1) := by decide +kernel
theorem d_Mo_lattice_344 : decode b_Mo_lattice 344 = .ok (.aload_n 0, 1) := by decide +kernel
theorem d_Mo_lattice_345 : decode b_Mo_lattice 345 = .ok (.getfield 54, 3) := by decide +kernel
theorem d_Mo_lattice_348 : decode b_Mo_lattice 348 = .ok (.iload 6, 2) := by decide +kernel
theorem d_Mo_lattice_350 : decode b_Mo_lattice 350 = .ok (.laload, 1) := by decide +kernel
theorem d_Mo_lattice_351 : decode b_Mo_lattice 351 = .ok (.lsub, 1) := by decide +kernel
theorem d_Mo_lattice_352 : decode b_Mo_lattice 352 = .ok (.aload_n 0, 1) := by decide +kernel
theorem d_Mo_lattice_353 : decode b_Mo_lattice 353 = .ok (.iload_n 1, 1) := by decide +kernel
theorem d_Mo_lattice_354 : decode b_Mo_lattice 354 = .ok (.iload_n 2, 1) := by decide +kernel
theorem d_Mo_lattice_355 : decode b_Mo_lattice 355 = .ok (.iload 9, 2) := by decide +kernel
theorem d_Mo_lattice_357 : decode b_Mo_lattice 357 = .ok (.iload 10, 2) := by decide +kernel
theorem d_Mo_lattice_359 : decode b_Mo_lattice 359 = .ok (.invokevirtual 254, 3) := by decide +kernel
theorem d_Mo_lattice_362 : decode b_Mo_lattice 362 = .ok (.lmul, 1) := by decide +kernel
theorem d_Mo_lattice_363 : decode b_Mo_lattice 363 = .ok (.aload_n 0, 1) := by decide +kernel
theorem d_Mo_lattice_364 : decode b_Mo_lattice 364 = .ok (.getfield 54, 3) := by decide +kernel
theorem d_Mo_lattice_367 : decode b_Mo_lattice 367 = .ok (.iload 6, 2) := by decide +kernel
theorem d_Mo_lattice_369 : decode b_Mo_lattice 369 = .ok (.laload, 1) := by decide +kernel
theorem d_Mo_lattice_370 : decode b_Mo_lattice 370 = .ok (.aload_n 0, 1) := by decide +kernel
theorem d_Mo_lattice_371 : decode b_Mo_lattice 371 = .ok (.iload_n 1, 1) := by decide +kernel
theorem d_Mo_lattice_372 : decode b_Mo_lattice 372 = .ok (.iload_n 2, 1) := by decide +kernel
theorem d_Mo_lattice_373 : decode b_Mo_lattice 373 = .ok (.iload 4, 2) := by decide +kernel
theorem d_Mo_lattice_375 : decode b_Mo_lattice 375 = .ok (.bipush (21), 2) := by decide +kernel
theorem d_Mo_lattice_377 : decode b_Mo_lattice 377 = .ok (.iadd, 1) := by decide +kernel
theorem d_Mo_lattice_378 : decode b_Mo_lattice 378 = .ok (.iload 10, 2) := by decide +kernel
theorem d_Mo_lattice_380 : decode b_Mo_lattice 380 = .ok (.invokevirtual 254, 3) := by decide +kernel
theorem d_Mo_lattice_383 : decode b_Mo_lattice 383 = .ok (.lmul, 1) := by decide +kernel
theorem d_Mo_lattice_384 : decode b_Mo_lattice 384 = .ok (.ladd, 1) := by decide +kernel
theorem d_Mo_lattice_385 : decode b_Mo_lattice 385 = .ok (.ladd, 1) := by decide +kernel
theorem d_Mo_lattice_386 : decode b_Mo_lattice 386 = .ok (.lstore 11, 2) := by decide +kernel
theorem d_Mo_lattice_388 : decode b_Mo_lattice 388 = .ok (.aload_n 0, 1) := by decide +kernel
theorem d_Mo_lattice_389 : decode b_Mo_lattice 389 = .ok (.getfield 51, 3) := by decide +kernel
theorem d_Mo_lattice_392 : decode b_Mo_lattice 392 = .ok (.iload 10, 2) := by decide +kernel
theorem d_Mo_lattice_394 : decode b_Mo_lattice 394 = .ok (.lload 11, 2) := by decide +kernel
theorem d_Mo_lattice_396 : decode b_Mo_lattice 396 = .ok (.ldc2_w 112, 3) := by decide +kernel
theorem d_Mo_lattice_399 : decode b_Mo_lattice 399 = .ok (.invokestatic 114, 3) := by decide +kernel
theorem d_Mo_lattice_402 : decode b_Mo_lattice 402 = .ok (.lastore, 1) := by decide +kernel
theorem d_Mo_lattice_403 : decode b_Mo_lattice 403 = .ok (.iinc 10 (1), 3) := by decide +kernel
theorem d_Mo_lattice_406 : decode b_Mo_lattice 406 = .ok (.goto (-128), 3) := by decide +kernel
theorem d_Mo_lattice_409 : decode b_Mo_lattice 409 = .ok (.return_, 1) := by decide +kernel
theorem d_Mo_spread_0 : decode b_Mo_spread 0 = .ok (.iconst (0), 1) := by decide +kernel
theorem d_Mo_spread_1 : decode b_Mo_spread 1 = .ok (.istore_n 2, 1) := by decide +kernel
theorem d_Mo_spread_2 : decode b_Mo_spread 2 = .ok (.iload_n 2, 1) := by decide +kernel
theorem d_Mo_spread_3 : decode b_Mo_spread 3 = .ok (.iconst (3), 1) := by decide +kernel
theorem d_Mo_spread_4 : decode b_Mo_spread 4 = .ok (.if_icmp .ge (60), 3) := by decide +kernel
theorem d_Mo_spread_7 : decode b_Mo_spread 7 = .ok (.aload_n 0, 1) := by decide +kernel
theorem d_Mo_spread_8 : decode b_Mo_spread 8 = .ok (.getfield 51, 3) := by decide +kernel
theorem d_Mo_spread_11 : decode b_Mo_spread 11 = .ok (.iload_n 2, 1) := by decide +kernel
theorem d_Mo_spread_12 : decode b_Mo_spread 12 = .ok (.aload_n 0, 1) := by decide +kernel
theorem d_Mo_spread_13 : decode b_Mo_spread 13 = .ok (.iload_n 1, 1) := by decide +kernel
theorem d_Mo_spread_14 : decode b_Mo_spread 14 = .ok (.invokevirtual 85, 3) := by decide +kernel
theorem d_Mo_spread_17 : decode b_Mo_spread 17 = .ok (.ifCond .ne (24), 3) := by decide +kernel
theorem d_Mo_spread_20 : decode b_Mo_spread 20 = .ok (.iload_n 2, 1) := by decide +kernel
theorem d_Mo_spread_21 : decode b_Mo_spread 21 = .ok (.invokestatic 91, 3) := by decide +kernel
theorem d_Mo_spread_24 : decode b_Mo_spread 24 = .ok (.i2l, 1) := by decide +kernel
theorem d_Mo_spread_25 : decode b_Mo_spread 25 = .ok (.aload_n 0, 1) := by decide +kernel
theorem d_Mo_spread_26 : decode b_Mo_spread 26 = .ok (.getfield 54, 3) := by decide +kernel
theorem d_Mo_spread_29 : decode b_Mo_spread 29 = .ok (.iconst (0), 1) := by decide +kernel
theorem d_Mo_spread_30 : decode b_Mo_spread 30 = .ok (.laload, 1) := by decide +kernel
theorem d_Mo_spread_31 : decode b_Mo_spread 31 = .ok (.lmul, 1) := by decide +kernel
theorem d_Mo_spread_32 : decode b_Mo_spread 32 = .ok (.ldc2_w 112, 3) := by decide +kernel
theorem d_Mo_spread_35 : decode b_Mo_spread 35 = .ok (.invokestatic 114, 3) := by decide +kernel
theorem d_Mo_spread_38 : decode b_Mo_spread 38 = .ok (.goto (19), 3) := by decide +kernel
theorem d_Mo_spread_41 : decode b_Mo_spread 41 = .ok (.iload_n 2, 1) := by decide +kernel
theorem d_Mo_spread_42 : decode b_Mo_spread 42 = .ok (.ifCond .ne (12), 3) := by decide +kernel
theorem d_Mo_spread_45 : decode b_Mo_spread 45 = .ok (.aload_n 0, 1) := by decide +kernel
theorem d_Mo_spread_46 : decode b_Mo_spread 46 = .ok (.getfield 54, 3) := by decide +kernel
theorem d_Mo_spread_49 : decode b_Mo_spread 49 = .ok (.iconst (0), 1) := by decide +kernel
theorem d_Mo_spread_50 : decode b_Mo_spread 50 = .ok (.laload, 1) := by decide +kernel
theorem d_Mo_spread_51 : decode b_Mo_spread 51 = .ok (.goto (6), 3) := by decide +kernel
theorem d_Mo_spread_54 : decode b_Mo_spread 54 = .ok (.ldc2_w 258, 3) := by decide +kernel
theorem d_Mo_spread_57 : decode b_Mo_spread 57 = .ok (.lastore, 1) := by decide +kernel
theorem d_Mo_spread_58 : decode b_Mo_spread 58 = .ok (.iinc 2 (1), 3) := by decide +kernel
theorem d_Mo_spread_61 : decode b_Mo_spread 61 = .ok (.goto (-59), 3) := by decide +kernel
theorem d_Mo_spread_64 : decode b_Mo_spread 64 = .ok (.return_, 1) := by decide +kernel
theorem d_Mo_root_0 : decode b_Mo_root 0 = .ok (.ldc2_w 131, 3) := by decide +kernel
theorem d_Mo_root_3 : decode b_Mo_root 3 = .ok (.lload_n 0, 1) := by decide +kernel
theorem d_Mo_root_4 : decode b_Mo_root 4 = .ok (.lmul, 1) := by decide +kernel
theorem d_Mo_root_5 : decode b_Mo_root 5 = .ok (.lload_n 2, 1) := by decide +kernel
theorem d_Mo_root_6 : decode b_Mo_root 6 = .ok (.invokestatic 114, 3) := by decide +kernel
theorem d_Mo_root_9 : decode b_Mo_root 9 = .ok (.lstore 4, 2) := by decide +kernel
theorem d_Mo_root_11 : decode b_Mo_root 11 = .ok (.lload 4, 2) := by decide +kernel
theorem d_Mo_root_13 : decode b_Mo_root 13 = .ok (.ldc2_w 260, 3) := by decide +kernel
theorem d_Mo_root_16 : decode b_Mo_root 16 = .ok (.lcmp, 1) := by decide +kernel
theorem d_Mo_root_17 : decode b_Mo_root 17 = .ok (.ifCond .gt (20), 3) := by decide +kernel
theorem d_Mo_root_20 : decode b_Mo_root 20 = .ok (.ldc2_w 262, 3) := by decide +kernel
theorem d_Mo_root_23 : decode b_Mo_root 23 = .ok (.lload 4, 2) := by decide +kernel
theorem d_Mo_root_25 : decode b_Mo_root 25 = .ok (.lmul, 1) := by decide +kernel
theorem d_Mo_root_26 : decode b_Mo_root 26 = .ok (.ldc2_w 264, 3) := by decide +kernel
theorem d_Mo_root_29 : decode b_Mo_root 29 = .ok (.invokestatic 114, 3) := by decide +kernel
theorem d_Mo_root_32 : decode b_Mo_root 32 = .ok (.ldc2_w 266, 3) := by decide +kernel
theorem d_Mo_root_35 : decode b_Mo_root 35 = .ok (.ladd, 1) := by decide +kernel
theorem d_Mo_root_36 : decode b_Mo_root 36 = .ok (.lreturn, 1) := by decide +kernel
theorem d_Mo_root_37 : decode b_Mo_root 37 = .ok (.lconst 0, 1) := by decide +kernel
theorem d_Mo_root_38 : decode b_Mo_root 38 = .ok (.lstore 6, 2) := by decide +kernel
theorem d_Mo_root_40 : decode b_Mo_root 40 = .ok (.ldc2_w 268, 3) := by decide +kernel
theorem d_Mo_root_43 : decode b_Mo_root 43 = .ok (.lstore 8, 2) := by decide +kernel
theorem d_Mo_root_45 : decode b_Mo_root 45 = .ok (.lload 8, 2) := by decide +kernel
theorem d_Mo_root_47 : decode b_Mo_root 47 = .ok (.lconst 0, 1) := by decide +kernel
theorem d_Mo_root_48 : decode b_Mo_root 48 = .ok (.lcmp, 1) := by decide +kernel
theorem d_Mo_root_49 : decode b_Mo_root 49 = .ok (.ifCond .le (48), 3) := by decide +kernel
theorem d_Mo_root_52 : decode b_Mo_root 52 = .ok (.lload 6, 2) := by decide +kernel
theorem d_Mo_root_54 : decode b_Mo_root 54 = .ok (.lload 8, 2) := by decide +kernel
theorem d_Mo_root_56 : decode b_Mo_root 56 = .ok (.ladd, 1) := by decide +kernel
theorem d_Mo_root_57 : decode b_Mo_root 57 = .ok (.lstore 10, 2) := by decide +kernel
theorem d_Mo_root_59 : decode b_Mo_root 59 = .ok (.lload 10, 2) := by decide +kernel
theorem d_Mo_root_61 : decode b_Mo_root 61 = .ok (.lload 10, 2) := by decide +kernel
theorem d_Mo_root_63 : decode b_Mo_root 63 = .ok (.lmul, 1) := by decide +kernel
theorem d_Mo_root_64 : decode b_Mo_root 64 = .ok (.lload 10, 2) := by decide +kernel
theorem d_Mo_root_66 : decode b_Mo_root 66 = .ok (.lmul, 1) := by decide +kernel
theorem d_Mo_root_67 : decode b_Mo_root 67 = .ok (.ldc2_w 270, 3) := by decide +kernel
theorem d_Mo_root_70 : decode b_Mo_root 70 = .ok (.lload 4, 2) := by decide +kernel
theorem d_Mo_root_72 : decode b_Mo_root 72 = .ok (.lmul, 1) := by decide +kernel
theorem d_Mo_root_73 : decode b_Mo_root 73 = .ok (.lcmp, 1) := by decide +kernel
theorem d_Mo_root_74 : decode b_Mo_root 74 = .ok (.ifCond .gt (8), 3) := by decide +kernel
theorem d_Mo_root_77 : decode b_Mo_root 77 = .ok (.lload 10, 2) := by decide +kernel
theorem d_Mo_root_79 : decode b_Mo_root 79 = .ok (.goto (5), 3) := by decide +kernel
theorem d_Mo_root_82 : decode b_Mo_root 82 = .ok (.lload 6, 2) := by decide +kernel
theorem d_Mo_root_84 : decode b_Mo_root 84 = .ok (.lstore 6, 2) := by decide +kernel
theorem d_Mo_root_86 : decode b_Mo_root 86 = .ok (.lload 8, 2) := by decide +kernel
theorem d_Mo_root_88 : decode b_Mo_root 88 = .ok (.ldc2_w 110, 3) := by decide +kernel
theorem d_Mo_root_91 : decode b_Mo_root 91 = .ok (.ldiv, 1) := by decide +kernel
theorem d_Mo_root_92 : decode b_Mo_root 92 = .ok (.lstore 8, 2) := by decide +kernel
theorem d_Mo_root_94 : decode b_Mo_root 94 = .ok (.goto (-49), 3) := by decide +kernel
theorem d_Mo_root_97 : decode b_Mo_root 97 = .ok (.lload 6, 2) := by decide +kernel
theorem d_Mo_root_99 : decode b_Mo_root 99 = .ok (.lreturn, 1) := by decide +kernel
