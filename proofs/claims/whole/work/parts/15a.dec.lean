theorem d_Profile_init_0 : decode b_Profile_init 0 = .ok (.aload_n 0, 1) := by decide +kernel
theorem d_Profile_init_1 : decode b_Profile_init 1 = .ok (.invokespecial 3, 3) := by decide +kernel
theorem d_Profile_init_4 : decode b_Profile_init 4 = .ok (.aload_n 0, 1) := by decide +kernel
theorem d_Profile_init_5 : decode b_Profile_init 5 = .ok (.bipush (13), 2) := by decide +kernel
theorem d_Profile_init_7 : decode b_Profile_init 7 = .ok (.newarray .int, 2) := by decide +kernel
theorem d_Profile_init_9 : decode b_Profile_init 9 = .ok (.putfield 9, 3) := by decide +kernel
theorem d_Profile_init_12 : decode b_Profile_init 12 = .ok (.aload_n 0, 1) := by decide +kernel
theorem d_Profile_init_13 : decode b_Profile_init 13 = .ok (.iconst (5), 1) := by decide +kernel
theorem d_Profile_init_14 : decode b_Profile_init 14 = .ok (.anewarray 15, 3) := by decide +kernel
theorem d_Profile_init_17 : decode b_Profile_init 17 = .ok (.putfield 17, 3) := by decide +kernel
theorem d_Profile_init_20 : decode b_Profile_init 20 = .ok (.aload_n 0, 1) := by decide +kernel
theorem d_Profile_init_21 : decode b_Profile_init 21 = .ok (.bipush (13), 2) := by decide +kernel
theorem d_Profile_init_23 : decode b_Profile_init 23 = .ok (.anewarray 21, 3) := by decide +kernel
theorem d_Profile_init_26 : decode b_Profile_init 26 = .ok (.putfield 23, 3) := by decide +kernel
theorem d_Profile_init_29 : decode b_Profile_init 29 = .ok (.aload_n 0, 1) := by decide +kernel
theorem d_Profile_init_30 : decode b_Profile_init 30 = .ok (.iconst (3), 1) := by decide +kernel
theorem d_Profile_init_31 : decode b_Profile_init 31 = .ok (.newarray .int, 2) := by decide +kernel
theorem d_Profile_init_33 : decode b_Profile_init 33 = .ok (.putfield 27, 3) := by decide +kernel
theorem d_Profile_init_36 : decode b_Profile_init 36 = .ok (.aload_n 0, 1) := by decide +kernel
theorem d_Profile_init_37 : decode b_Profile_init 37 = .ok (.iconst (3), 1) := by decide +kernel
theorem d_Profile_init_38 : decode b_Profile_init 38 = .ok (.newarray .int, 2) := by decide +kernel
theorem d_Profile_init_40 : decode b_Profile_init 40 = .ok (.putfield 30, 3) := by decide +kernel
theorem d_Profile_init_43 : decode b_Profile_init 43 = .ok (.aload_n 0, 1) := by decide +kernel
theorem d_Profile_init_44 : decode b_Profile_init 44 = .ok (.aload_n 1, 1) := by decide +kernel
theorem d_Profile_init_45 : decode b_Profile_init 45 = .ok (.putfield 33, 3) := by decide +kernel
theorem d_Profile_init_48 : decode b_Profile_init 48 = .ok (.aload_n 0, 1) := by decide +kernel
theorem d_Profile_init_49 : decode b_Profile_init 49 = .ok (.iload_n 2, 1) := by decide +kernel
theorem d_Profile_init_50 : decode b_Profile_init 50 = .ok (.putfield 36, 3) := by decide +kernel
theorem d_Profile_init_53 : decode b_Profile_init 53 = .ok (.iconst (0), 1) := by decide +kernel
theorem d_Profile_init_54 : decode b_Profile_init 54 = .ok (.istore_n 3, 1) := by decide +kernel
theorem d_Profile_init_55 : decode b_Profile_init 55 = .ok (.iload_n 3, 1) := by decide +kernel
theorem d_Profile_init_56 : decode b_Profile_init 56 = .ok (.aload_n 1, 1) := by decide +kernel
theorem d_Profile_init_57 : decode b_Profile_init 57 = .ok (.bipush (6), 2) := by decide +kernel
theorem d_Profile_init_59 : decode b_Profile_init 59 = .ok (.iaload, 1) := by decide +kernel
theorem d_Profile_init_60 : decode b_Profile_init 60 = .ok (.if_icmp .ge (30), 3) := by decide +kernel
theorem d_Profile_init_63 : decode b_Profile_init 63 = .ok (.aload_n 0, 1) := by decide +kernel
theorem d_Profile_init_64 : decode b_Profile_init 64 = .ok (.getfield 9, 3) := by decide +kernel
theorem d_Profile_init_67 : decode b_Profile_init 67 = .ok (.aload_n 1, 1) := by decide +kernel
theorem d_Profile_init_68 : decode b_Profile_init 68 = .ok (.bipush (8), 2) := by decide +kernel
theorem d_Profile_init_70 : decode b_Profile_init 70 = .ok (.iconst (4), 1) := by decide +kernel
theorem d_Profile_init_71 : decode b_Profile_init 71 = .ok (.iload_n 3, 1) := by decide +kernel
theorem d_Profile_init_72 : decode b_Profile_init 72 = .ok (.imul, 1) := by decide +kernel
theorem d_Profile_init_73 : decode b_Profile_init 73 = .ok (.iadd, 1) := by decide +kernel
theorem d_Profile_init_74 : decode b_Profile_init 74 = .ok (.iaload, 1) := by decide +kernel
theorem d_Profile_init_75 : decode b_Profile_init 75 = .ok (.aload_n 1, 1) := by decide +kernel
theorem d_Profile_init_76 : decode b_Profile_init 76 = .ok (.bipush (9), 2) := by decide +kernel
theorem d_Profile_init_78 : decode b_Profile_init 78 = .ok (.iconst (4), 1) := by decide +kernel
theorem d_Profile_init_79 : decode b_Profile_init 79 = .ok (.iload_n 3, 1) := by decide +kernel
theorem d_Profile_init_80 : decode b_Profile_init 80 = .ok (.imul, 1) := by decide +kernel
theorem d_Profile_init_81 : decode b_Profile_init 81 = .ok (.iadd, 1) := by decide +kernel
theorem d_Profile_init_82 : decode b_Profile_init 82 = .ok (.iaload, 1) := by decide +kernel
theorem d_Profile_init_83 : decode b_Profile_init 83 = .ok (.iastore, 1) := by decide +kernel
theorem d_Profile_init_84 : decode b_Profile_init 84 = .ok (.iinc 3 (1), 3) := by decide +kernel
theorem d_Profile_init_87 : decode b_Profile_init 87 = .ok (.goto (-32), 3) := by decide +kernel
theorem d_Profile_init_90 : decode b_Profile_init 90 = .ok (.iconst (1), 1) := by decide +kernel
theorem d_Profile_init_91 : decode b_Profile_init 91 = .ok (.istore_n 3, 1) := by decide +kernel
theorem d_Profile_init_92 : decode b_Profile_init 92 = .ok (.iload_n 3, 1) := by decide +kernel
theorem d_Profile_init_93 : decode b_Profile_init 93 = .ok (.iconst (4), 1) := by decide +kernel
theorem d_Profile_init_94 : decode b_Profile_init 94 = .ok (.if_icmp .gt (42), 3) := by decide +kernel
theorem d_Profile_init_97 : decode b_Profile_init 97 = .ok (.aload_n 0, 1) := by decide +kernel
theorem d_Profile_init_98 : decode b_Profile_init 98 = .ok (.getfield 17, 3) := by decide +kernel
theorem d_Profile_init_101 : decode b_Profile_init 101 = .ok (.iload_n 3, 1) := by decide +kernel
theorem d_Profile_init_102 : decode b_Profile_init 102 = .ok (.aload_n 0, 1) := by decide +kernel
theorem d_Profile_init_103 : decode b_Profile_init 103 = .ok (.getfield 9, 3) := by decide +kernel
theorem d_Profile_init_106 : decode b_Profile_init 106 = .ok (.iload_n 3, 1) := by decide +kernel
theorem d_Profile_init_107 : decode b_Profile_init 107 = .ok (.iaload, 1) := by decide +kernel
theorem d_Profile_init_108 : decode b_Profile_init 108 = .ok (.ifCond .ne (7), 3) := by decide +kernel
theorem d_Profile_init_111 : decode b_Profile_init 111 = .ok (.aconst_null, 1) := by decide +kernel
theorem d_Profile_init_112 : decode b_Profile_init 112 = .ok (.goto (17), 3) := by decide +kernel
theorem d_Profile_init_115 : decode b_Profile_init 115 = .ok (.new 15, 3) := by decide +kernel
theorem d_Profile_init_118 : decode b_Profile_init 118 = .ok (.dup, 1) := by decide +kernel
theorem d_Profile_init_119 : decode b_Profile_init 119 = .ok (.aload_n 1, 1) := by decide +kernel
theorem d_Profile_init_120 : decode b_Profile_init 120 = .ok (.aload_n 0, 1) := by decide +kernel
theorem d_Profile_init_121 : decode b_Profile_init 121 = .ok (.getfield 9, 3) := by decide +kernel
theorem d_Profile_init_124 : decode b_Profile_init 124 = .ok (.iload_n 3, 1) := by decide +kernel
theorem d_Profile_init_125 : decode b_Profile_init 125 = .ok (.iaload, 1) := by decide +kernel
theorem d_Profile_init_126 : decode b_Profile_init 126 = .ok (.invokespecial 40, 3) := by decide +kernel
theorem d_Profile_init_129 : decode b_Profile_init 129 = .ok (.aastore, 1) := by decide +kernel
theorem d_Profile_init_130 : decode b_Profile_init 130 = .ok (.iinc 3 (1), 3) := by decide +kernel
theorem d_Profile_init_133 : decode b_Profile_init 133 = .ok (.goto (-41), 3) := by decide +kernel
theorem d_Profile_init_136 : decode b_Profile_init 136 = .ok (.iconst (0), 1) := by decide +kernel
theorem d_Profile_init_137 : decode b_Profile_init 137 = .ok (.istore_n 3, 1) := by decide +kernel
theorem d_Profile_init_138 : decode b_Profile_init 138 = .ok (.iload_n 3, 1) := by decide +kernel
theorem d_Profile_init_139 : decode b_Profile_init 139 = .ok (.iconst (3), 1) := by decide +kernel
theorem d_Profile_init_140 : decode b_Profile_init 140 = .ok (.if_icmp .ge (50), 3) := by decide +kernel
theorem d_Profile_init_143 : decode b_Profile_init 143 = .ok (.aload_n 0, 1) := by decide +kernel
theorem d_Profile_init_144 : decode b_Profile_init 144 = .ok (.getfield 27, 3) := by decide +kernel
theorem d_Profile_init_147 : decode b_Profile_init 147 = .ok (.iload_n 3, 1) := by decide +kernel
theorem d_Profile_init_148 : decode b_Profile_init 148 = .ok (.aload_n 0, 1) := by decide +kernel
theorem d_Profile_init_149 : decode b_Profile_init 149 = .ok (.getfield 9, 3) := by decide +kernel
theorem d_Profile_init_152 : decode b_Profile_init 152 = .ok (.bipush (12), 2) := by decide +kernel
theorem d_Profile_init_154 : decode b_Profile_init 154 = .ok (.iaload, 1) := by decide +kernel
theorem d_Profile_init_155 : decode b_Profile_init 155 = .ok (.ifCond .ne (11), 3) := by decide +kernel
theorem d_Profile_init_158 : decode b_Profile_init 158 = .ok (.getstatic 43, 3) := by decide +kernel
theorem d_Profile_init_161 : decode b_Profile_init 161 = .ok (.iload_n 3, 1) := by decide +kernel
theorem d_Profile_init_162 : decode b_Profile_init 162 = .ok (.iaload, 1) := by decide +kernel
theorem d_Profile_init_163 : decode b_Profile_init 163 = .ok (.goto (20), 3) := by decide +kernel
theorem d_Profile_init_166 : decode b_Profile_init 166 = .ok (.aload_n 1, 1) := by decide +kernel
theorem d_Profile_init_167 : decode b_Profile_init 167 = .ok (.aload_n 0, 1) := by decide +kernel
theorem d_Profile_init_168 : decode b_Profile_init 168 = .ok (.getfield 9, 3) := by decide +kernel
theorem d_Profile_init_171 : decode b_Profile_init 171 = .ok (.bipush (12), 2) := by decide +kernel
theorem d_Profile_init_173 : decode b_Profile_init 173 = .ok (.iaload, 1) := by decide +kernel
theorem d_Profile_init_174 : decode b_Profile_init 174 = .ok (.iconst (2), 1) := by decide +kernel
theorem d_Profile_init_175 : decode b_Profile_init 175 = .ok (.iadd, 1) := by decide +kernel
theorem d_Profile_init_176 : decode b_Profile_init 176 = .ok (.iconst (2), 1) := by decide +kernel
theorem d_Profile_init_177 : decode b_Profile_init 177 = .ok (.iload_n 3, 1) := by decide +kernel
theorem d_Profile_init_178 : decode b_Profile_init 178 = .ok (.imul, 1) := by decide +kernel
theorem d_Profile_init_179 : decode b_Profile_init 179 = .ok (.iadd, 1) := by decide +kernel
theorem d_Profile_init_180 : decode b_Profile_init 180 = .ok (.invokestatic 46, 3) := by decide +kernel
theorem d_Profile_init_183 : decode b_Profile_init 183 = .ok (.iastore, 1) := by decide +kernel
theorem d_Profile_init_184 : decode b_Profile_init 184 = .ok (.iinc 3 (1), 3) := by decide +kernel
theorem d_Profile_init_187 : decode b_Profile_init 187 = .ok (.goto (-49), 3) := by decide +kernel
theorem d_Profile_init_190 : decode b_Profile_init 190 = .ok (.aload_n 1, 1) := by decide +kernel
theorem d_Profile_init_191 : decode b_Profile_init 191 = .ok (.iconst (3), 1) := by decide +kernel
theorem d_Profile_init_192 : decode b_Profile_init 192 = .ok (.iaload, 1) := by decide +kernel
theorem d_Profile_init_193 : decode b_Profile_init 193 = .ok (.iconst (1), 1) := by decide +kernel
theorem d_Profile_init_194 : decode b_Profile_init 194 = .ok (.if_icmp .ne (7), 3) := by decide +kernel
theorem d_Profile_init_197 : decode b_Profile_init 197 = .ok (.iconst (1), 1) := by decide +kernel
theorem d_Profile_init_198 : decode b_Profile_init 198 = .ok (.goto (4), 3) := by decide +kernel
theorem d_Profile_init_201 : decode b_Profile_init 201 = .ok (.iconst (0), 1) := by decide +kernel
theorem d_Profile_init_202 : decode b_Profile_init 202 = .ok (.istore_n 3, 1) := by decide +kernel
theorem d_Profile_init_203 : decode b_Profile_init 203 = .ok (.bipush (6), 2) := by decide +kernel
theorem d_Profile_init_205 : decode b_Profile_init 205 = .ok (.istore 4, 2) := by decide +kernel
theorem d_Profile_init_207 : decode b_Profile_init 207 = .ok (.iload 4, 2) := by decide +kernel
theorem d_Profile_init_209 : decode b_Profile_init 209 = .ok (.bipush (11), 2) := by decide +kernel
theorem d_Profile_init_211 : decode b_Profile_init 211 = .ok (.if_icmp .gt (49), 3) := by decide +kernel
theorem d_Profile_init_214 : decode b_Profile_init 214 = .ok (.aload_n 0, 1) := by decide +kernel
theorem d_Profile_init_215 : decode b_Profile_init 215 = .ok (.getfield 23, 3) := by decide +kernel
theorem d_Profile_init_218 : decode b_Profile_init 218 = .ok (.iload 4, 2) := by decide +kernel
theorem d_Profile_init_220 : decode b_Profile_init 220 = .ok (.iload_n 3, 1) := by decide +kernel
theorem d_Profile_init_221 : decode b_Profile_init 221 = .ok (.ifCond .ne (13), 3) := by decide +kernel
theorem d_Profile_init_224 : decode b_Profile_init 224 = .ok (.aload_n 0, 1) := by decide +kernel
theorem d_Profile_init_225 : decode b_Profile_init 225 = .ok (.getfield 9, 3) := by decide +kernel
theorem d_Profile_init_228 : decode b_Profile_init 228 = .ok (.iload 4, 2) := by decide +kernel
theorem d_Profile_init_230 : decode b_Profile_init 230 = .ok (.iaload, 1) := by decide +kernel
theorem d_Profile_init_231 : decode b_Profile_init 231 = .ok (.ifCond .ne (7), 3) := by decide +kernel
theorem d_Profile_init_234 : decode b_Profile_init 234 = .ok (.aconst_null, 1) := by decide +kernel
theorem d_Profile_init_235 : decode b_Profile_init 235 = .ok (.goto (18), 3) := by decide +kernel
theorem d_Profile_init_238 : decode b_Profile_init 238 = .ok (.new 21, 3) := by decide +kernel
theorem d_Profile_init_241 : decode b_Profile_init 241 = .ok (.dup, 1) := by decide +kernel
theorem d_Profile_init_242 : decode b_Profile_init 242 = .ok (.aload_n 1, 1) := by decide +kernel
theorem d_Profile_init_243 : decode b_Profile_init 243 = .ok (.aload_n 0, 1) := by decide +kernel
theorem d_Profile_init_244 : decode b_Profile_init 244 = .ok (.getfield 9, 3) := by decide +kernel
theorem d_Profile_init_247 : decode b_Profile_init 247 = .ok (.iload 4, 2) := by decide +kernel
theorem d_Profile_init_249 : decode b_Profile_init 249 = .ok (.iaload, 1) := by decide +kernel
theorem d_Profile_init_250 : decode b_Profile_init 250 = .ok (.invokespecial 50, 3) := by decide +kernel
theorem d_Profile_init_253 : decode b_Profile_init 253 = .ok (.aastore, 1) := by decide +kernel
theorem d_Profile_init_254 : decode b_Profile_init 254 = .ok (.iinc 4 (1), 3) := by decide +kernel
theorem d_Profile_init_257 : decode b_Profile_init 257 = .ok (.goto (-50), 3) := by decide +kernel
theorem d_Profile_init_260 : decode b_Profile_init 260 = .ok (.aload_n 1, 1) := by decide +kernel
theorem d_Profile_init_261 : decode b_Profile_init 261 = .ok (.iconst (4), 1) := by decide +kernel
theorem d_Profile_init_262 : decode b_Profile_init 262 = .ok (.iaload, 1) := by decide +kernel
theorem d_Profile_init_263 : decode b_Profile_init 263 = .ok (.ifCond .ne (43), 3) := by decide +kernel
theorem d_Profile_init_266 : decode b_Profile_init 266 = .ok (.aload_n 0, 1) := by decide +kernel
theorem d_Profile_init_267 : decode b_Profile_init 267 = .ok (.getfield 9, 3) := by decide +kernel
theorem d_Profile_init_270 : decode b_Profile_init 270 = .ok (.iconst (2), 1) := by decide +kernel
theorem d_Profile_init_271 : decode b_Profile_init 271 = .ok (.iaload, 1) := by decide +kernel
theorem d_Profile_init_272 : decode b_Profile_init 272 = .ok (.ifCond .eq (34), 3) := by decide +kernel
theorem d_Profile_init_275 : decode b_Profile_init 275 = .ok (.aload_n 0, 1) := by decide +kernel
theorem d_Profile_init_276 : decode b_Profile_init 276 = .ok (.getfield 9, 3) := by decide +kernel
theorem d_Profile_init_279 : decode b_Profile_init 279 = .ok (.iconst (3), 1) := by decide +kernel
theorem d_Profile_init_280 : decode b_Profile_init 280 = .ok (.iaload, 1) := by decide +kernel
theorem d_Profile_init_281 : decode b_Profile_init 281 = .ok (.ifCond .eq (25), 3) := by decide +kernel
theorem d_Profile_init_284 : decode b_Profile_init 284 = .ok (.aload_n 0, 1) := by decide +kernel
theorem d_Profile_init_285 : decode b_Profile_init 285 = .ok (.getfield 9, 3) := by decide +kernel
theorem d_Profile_init_288 : decode b_Profile_init 288 = .ok (.iconst (4), 1) := by decide +kernel
theorem d_Profile_init_289 : decode b_Profile_init 289 = .ok (.iaload, 1) := by decide +kernel
theorem d_Profile_init_290 : decode b_Profile_init 290 = .ok (.ifCond .eq (16), 3) := by decide +kernel
theorem d_Profile_init_293 : decode b_Profile_init 293 = .ok (.aload_n 0, 1) := by decide +kernel
theorem d_Profile_init_294 : decode b_Profile_init 294 = .ok (.getfield 9, 3) := by decide +kernel
theorem d_Profile_init_297 : decode b_Profile_init 297 = .ok (.iconst (5), 1) := by decide +kernel
theorem d_Profile_init_298 : decode b_Profile_init 298 = .ok (.iaload, 1) := by decide +kernel
theorem d_Profile_init_299 : decode b_Profile_init 299 = .ok (.ifCond .eq (7), 3) := by decide +kernel
theorem d_Profile_init_302 : decode b_Profile_init 302 = .ok (.iconst (1), 1) := by decide +kernel
theorem d_Profile_init_303 : decode b_Profile_init 303 = .ok (.goto (4), 3) := by decide +kernel
theorem d_Profile_init_306 : decode b_Profile_init 306 = .ok (.iconst (0), 1) := by decide +kernel
theorem d_Profile_init_307 : decode b_Profile_init 307 = .ok (.istore 4, 2) := by decide +kernel
theorem d_Profile_init_309 : decode b_Profile_init 309 = .ok (.iload_n 3, 1) := by decide +kernel
theorem d_Profile_init_310 : decode b_Profile_init 310 = .ok (.ifCond .ne (8), 3) := by decide +kernel
theorem d_Profile_init_313 : decode b_Profile_init 313 = .ok (.iload 4, 2) := by decide +kernel
theorem d_Profile_init_315 : decode b_Profile_init 315 = .ok (.ifCond .eq (88), 3) := by decide +kernel
theorem d_Profile_init_318 : decode b_Profile_init 318 = .ok (.iload_n 3, 1) := by decide +kernel
theorem d_Profile_init_319 : decode b_Profile_init 319 = .ok (.ifCond .eq (19), 3) := by decide +kernel
theorem d_Profile_init_322 : decode b_Profile_init 322 = .ok (.iconst (1), 1) := by decide +kernel
theorem d_Profile_init_323 : decode b_Profile_init 323 = .ok (.anewarray 15, 3) := by decide +kernel
theorem d_Profile_init_326 : decode b_Profile_init 326 = .ok (.dup, 1) := by decide +kernel
theorem d_Profile_init_327 : decode b_Profile_init 327 = .ok (.iconst (0), 1) := by decide +kernel
theorem d_Profile_init_328 : decode b_Profile_init 328 = .ok (.aload_n 0, 1) := by decide +kernel
theorem d_Profile_init_329 : decode b_Profile_init 329 = .ok (.getfield 17, 3) := by decide +kernel
theorem d_Profile_init_332 : decode b_Profile_init 332 = .ok (.iconst (1), 1) := by decide +kernel
theorem d_Profile_init_333 : decode b_Profile_init 333 = .ok (.aaload, 1) := by decide +kernel
theorem d_Profile_init_334 : decode b_Profile_init 334 = .ok (.aastore, 1) := by decide +kernel
theorem d_Profile_init_335 : decode b_Profile_init 335 = .ok (.goto (34), 3) := by decide +kernel
theorem d_Profile_init_338 : decode b_Profile_init 338 = .ok (.iconst (3), 1) := by decide +kernel
theorem d_Profile_init_339 : decode b_Profile_init 339 = .ok (.anewarray 15, 3) := by decide +kernel
theorem d_Profile_init_342 : decode b_Profile_init 342 = .ok (.dup, 1) := by decide +kernel
theorem d_Profile_init_343 : decode b_Profile_init 343 = .ok (.iconst (0), 1) := by decide +kernel
theorem d_Profile_init_344 : decode b_Profile_init 344 = .ok (.aload_n 0, 1) := by decide +kernel
theorem d_Profile_init_345 : decode b_Profile_init 345 = .ok (.getfield 17, 3) := by decide +kernel
theorem d_Profile_init_348 : decode b_Profile_init 348 = .ok (.iconst (2), 1) := by decide +kernel
theorem d_Profile_init_349 : decode b_Profile_init 349 = .ok (.aaload, 1) := by decide +kernel
theorem d_Profile_init_350 : decode b_Profile_init 350 = .ok (.aastore, 1) := by decide +kernel
theorem d_Profile_init_351 : decode b_Profile_init 351 = .ok (.dup, 1) := by decide +kernel
theorem d_Profile_init_352 : decode b_Profile_init 352 = .ok (.iconst (1), 1) := by decide +kernel
theorem d_Profile_init_353 : decode b_Profile_init 353 = .ok (.aload_n 0, 1) := by decide +kernel
theorem d_Profile_init_354 : decode b_Profile_init 354 = .ok (.getfield 17, 3) := by decide +kernel
theorem d_Profile_init_357 : decode b_Profile_init 357 = .ok (.iconst (3), 1) := by decide +kernel
theorem d_Profile_init_358 : decode b_Profile_init 358 = .ok (.aaload, 1) := by decide +kernel
theorem d_Profile_init_359 : decode b_Profile_init 359 = .ok (.aastore, 1) := by decide +kernel
theorem d_Profile_init_360 : decode b_Profile_init 360 = .ok (.dup, 1) := by decide +kernel
theorem d_Profile_init_361 : decode b_Profile_init 361 = .ok (.iconst (2), 1) := by decide +kernel
theorem d_Profile_init_362 : decode b_Profile_init 362 = .ok (.aload_n 0, 1) := by decide +kernel
theorem d_Profile_init_363 : decode b_Profile_init 363 = .ok (.getfield 17, 3) := by decide +kernel
theorem d_Profile_init_366 : decode b_Profile_init 366 = .ok (.iconst (4), 1) := by decide +kernel
theorem d_Profile_init_367 : decode b_Profile_init 367 = .ok (.aaload, 1) := by decide +kernel
theorem d_Profile_init_368 : decode b_Profile_init 368 = .ok (.aastore, 1) := by decide +kernel
theorem d_Profile_init_369 : decode b_Profile_init 369 = .ok (.astore 5, 2) := by decide +kernel
theorem d_Profile_init_371 : decode b_Profile_init 371 = .ok (.aload_n 0, 1) := by decide +kernel
theorem d_Profile_init_372 : decode b_Profile_init 372 = .ok (.new 51, 3) := by decide +kernel
theorem d_Profile_init_375 : decode b_Profile_init 375 = .ok (.dup, 1) := by decide +kernel
theorem d_Profile_init_376 : decode b_Profile_init 376 = .ok (.iconst (1), 1) := by decide +kernel
theorem d_Profile_init_377 : decode b_Profile_init 377 = .ok (.aload 5, 2) := by decide +kernel
theorem d_Profile_init_379 : decode b_Profile_init 379 = .ok (.invokespecial 53, 3) := by decide +kernel
theorem d_Profile_init_382 : decode b_Profile_init 382 = .ok (.putfield 56, 3) := by decide +kernel
theorem d_Profile_init_385 : decode b_Profile_init 385 = .ok (.aload_n 0, 1) := by decide +kernel
theorem d_Profile_init_386 : decode b_Profile_init 386 = .ok (.new 51, 3) := by decide +kernel
theorem d_Profile_init_389 : decode b_Profile_init 389 = .ok (.dup, 1) := by decide +kernel
theorem d_Profile_init_390 : decode b_Profile_init 390 = .ok (.bipush (11), 2) := by decide +kernel
theorem d_Profile_init_392 : decode b_Profile_init 392 = .ok (.aload 5, 2) := by decide +kernel
theorem d_Profile_init_394 : decode b_Profile_init 394 = .ok (.invokespecial 53, 3) := by decide +kernel
theorem d_Profile_init_397 : decode b_Profile_init 397 = .ok (.putfield 60, 3) := by decide +kernel
theorem d_Profile_init_400 : decode b_Profile_init 400 = .ok (.goto (13), 3) := by decide +kernel
theorem d_Profile_init_403 : decode b_Profile_init 403 = .ok (.aload_n 0, 1) := by decide +kernel
theorem d_Profile_init_404 : decode b_Profile_init 404 = .ok (.aconst_null, 1) := by decide +kernel
theorem d_Profile_init_405 : decode b_Profile_init 405 = .ok (.putfield 56, 3) := by decide +kernel
theorem d_Profile_init_408 : decode b_Profile_init 408 = .ok (.aload_n 0, 1) := by decide +kernel
theorem d_Profile_init_409 : decode b_Profile_init 409 = .ok (.aconst_null, 1) := by decide +kernel
theorem d_Profile_init_410 : decode b_Profile_init 410 = .ok (.putfield 60, 3) := by decide +kernel
theorem d_Profile_init_413 : decode b_Profile_init 413 = .ok (.iload_n 3, 1) := by decide +kernel
theorem d_Profile_init_414 : decode b_Profile_init 414 = .ok (.ifCond .eq (37), 3) := by decide +kernel
theorem d_Profile_init_417 : decode b_Profile_init 417 = .ok (.aload_n 0, 1) := by decide +kernel
theorem d_Profile_init_418 : decode b_Profile_init 418 = .ok (.new 63, 3) := by decide +kernel
theorem d_Profile_init_421 : decode b_Profile_init 421 = .ok (.dup, 1) := by decide +kernel
theorem d_Profile_init_422 : decode b_Profile_init 422 = .ok (.iconst (4), 1) := by decide +kernel
theorem d_Profile_init_423 : decode b_Profile_init 423 = .ok (.aload_n 1, 1) := by decide +kernel
theorem d_Profile_init_424 : decode b_Profile_init 424 = .ok (.iconst (4), 1) := by decide +kernel
theorem d_Profile_init_425 : decode b_Profile_init 425 = .ok (.iaload, 1) := by decide +kernel
theorem d_Profile_init_426 : decode b_Profile_init 426 = .ok (.invokespecial 65, 3) := by decide +kernel
theorem d_Profile_init_429 : decode b_Profile_init 429 = .ok (.putfield 68, 3) := by decide +kernel
theorem d_Profile_init_432 : decode b_Profile_init 432 = .ok (.aload_n 0, 1) := by decide +kernel
theorem d_Profile_init_433 : decode b_Profile_init 433 = .ok (.new 63, 3) := by decide +kernel
theorem d_Profile_init_436 : decode b_Profile_init 436 = .ok (.dup, 1) := by decide +kernel
theorem d_Profile_init_437 : decode b_Profile_init 437 = .ok (.bipush (9), 2) := by decide +kernel
theorem d_Profile_init_439 : decode b_Profile_init 439 = .ok (.aload_n 1, 1) := by decide +kernel
theorem d_Profile_init_440 : decode b_Profile_init 440 = .ok (.iconst (4), 1) := by decide +kernel
theorem d_Profile_init_441 : decode b_Profile_init 441 = .ok (.iaload, 1) := by decide +kernel
theorem d_Profile_init_442 : decode b_Profile_init 442 = .ok (.invokespecial 65, 3) := by decide +kernel
theorem d_Profile_init_445 : decode b_Profile_init 445 = .ok (.putfield 72, 3) := by decide +kernel
theorem d_Profile_init_448 : decode b_Profile_init 448 = .ok (.goto (49), 3) := by decide +kernel
theorem d_Profile_init_451 : decode b_Profile_init 451 = .ok (.aload_n 0, 1) := by decide +kernel
theorem d_Profile_init_452 : decode b_Profile_init 452 = .ok (.iload 4, 2) := by decide +kernel
theorem d_Profile_init_454 : decode b_Profile_init 454 = .ok (.ifCond .eq (16), 3) := by decide +kernel
theorem d_Profile_init_457 : decode b_Profile_init 457 = .ok (.aload_n 1, 1) := by decide +kernel
theorem d_Profile_init_458 : decode b_Profile_init 458 = .ok (.aload_n 0, 1) := by decide +kernel
theorem d_Profile_init_459 : decode b_Profile_init 459 = .ok (.getfield 9, 3) := by decide +kernel
theorem d_Profile_init_462 : decode b_Profile_init 462 = .ok (.iconst (5), 1) := by decide +kernel
theorem d_Profile_init_463 : decode b_Profile_init 463 = .ok (.iaload, 1) := by decide +kernel
theorem d_Profile_init_464 : decode b_Profile_init 464 = .ok (.invokestatic 75, 3) := by decide +kernel
theorem d_Profile_init_467 : decode b_Profile_init 467 = .ok (.goto (4), 3) := by decide +kernel
theorem d_Profile_init_470 : decode b_Profile_init 470 = .ok (.aconst_null, 1) := by decide +kernel
theorem d_Profile_init_471 : decode b_Profile_init 471 = .ok (.putfield 68, 3) := by decide +kernel
theorem d_Profile_init_474 : decode b_Profile_init 474 = .ok (.aload_n 0, 1) := by decide +kernel
theorem d_Profile_init_475 : decode b_Profile_init 475 = .ok (.iload 4, 2) := by decide +kernel
theorem d_Profile_init_477 : decode b_Profile_init 477 = .ok (.ifCond .eq (16), 3) := by decide +kernel
theorem d_Profile_init_480 : decode b_Profile_init 480 = .ok (.aload_n 1, 1) := by decide +kernel
theorem d_Profile_init_481 : decode b_Profile_init 481 = .ok (.aload_n 0, 1) := by decide +kernel
theorem d_Profile_init_482 : decode b_Profile_init 482 = .ok (.getfield 9, 3) := by decide +kernel
theorem d_Profile_init_485 : decode b_Profile_init 485 = .ok (.iconst (5), 1) := by decide +kernel
theorem d_Profile_init_486 : decode b_Profile_init 486 = .ok (.iaload, 1) := by decide +kernel
theorem d_Profile_init_487 : decode b_Profile_init 487 = .ok (.invokestatic 81, 3) := by decide +kernel
theorem d_Profile_init_490 : decode b_Profile_init 490 = .ok (.goto (4), 3) := by decide +kernel
theorem d_Profile_init_493 : decode b_Profile_init 493 = .ok (.aconst_null, 1) := by decide +kernel
theorem d_Profile_init_494 : decode b_Profile_init 494 = .ok (.putfield 72, 3) := by decide +kernel
theorem d_Profile_init_497 : decode b_Profile_init 497 = .ok (.return_, 1) := by decide +kernel
theorem d_Arrays_fill_0 : decode b_Arrays_fill 0 = .ok (.iconst (0), 1) := by decide +kernel
theorem d_Arrays_fill_1 : decode b_Arrays_fill 1 = .ok (.istore_n 2, 1) := by decide +kernel
theorem d_Arrays_fill_2 : decode b_Arrays_fill 2 = .ok (.aload_n 0, 1) := by decide +kernel
theorem d_Arrays_fill_3 : decode b_Arrays_fill 3 = .ok (.arraylength, 1) := by decide +kernel
theorem d_Arrays_fill_4 : decode b_Arrays_fill 4 = .ok (.istore_n 3, 1) := by decide +kernel
theorem d_Arrays_fill_5 : decode b_Arrays_fill 5 = .ok (.iload_n 2, 1) := by decide +kernel
theorem d_Arrays_fill_6 : decode b_Arrays_fill 6 = .ok (.iload_n 3, 1) := by decide +kernel
theorem d_Arrays_fill_7 : decode b_Arrays_fill 7 = .ok (.if_icmp .ge (13), 3) := by decide +kernel
theorem d_Arrays_fill_10 : decode b_Arrays_fill 10 = .ok (.aload_n 0, 1) := by decide +kernel
theorem d_Arrays_fill_11 : decode b_Arrays_fill 11 = .ok (.iload_n 2, 1) := by decide +kernel
theorem d_Arrays_fill_12 : decode b_Arrays_fill 12 = .ok (.iload_n 1, 1) := by decide +kernel
theorem d_Arrays_fill_13 : decode b_Arrays_fill 13 = .ok (.iastore, 1) := by decide +kernel
theorem d_Arrays_fill_14 : decode b_Arrays_fill 14 = .ok (.iinc 2 (1), 3) := by decide +kernel
theorem d_Arrays_fill_17 : decode b_Arrays_fill 17 = .ok (.goto (-12), 3) := by decide +kernel
theorem d_Arrays_fill_20 : decode b_Arrays_fill 20 = .ok (.return_, 1) := by decide +kernel
theorem d_Profile_gridFor_0 : decode b_Profile_gridFor 0 = .ok (.iload_n 2, 1) := by decide +kernel
theorem d_Profile_gridFor_1 : decode b_Profile_gridFor 1 = .ok (.iconst (3), 1) := by decide +kernel
theorem d_Profile_gridFor_2 : decode b_Profile_gridFor 2 = .ok (.if_icmp .ne (7), 3) := by decide +kernel
theorem d_Profile_gridFor_5 : decode b_Profile_gridFor 5 = .ok (.iconst (1), 1) := by decide +kernel
theorem d_Profile_gridFor_6 : decode b_Profile_gridFor 6 = .ok (.goto (4), 3) := by decide +kernel
theorem d_Profile_gridFor_9 : decode b_Profile_gridFor 9 = .ok (.iload_n 2, 1) := by decide +kernel
theorem d_Profile_gridFor_10 : decode b_Profile_gridFor 10 = .ok (.istore_n 3, 1) := by decide +kernel
theorem d_Profile_gridFor_11 : decode b_Profile_gridFor 11 = .ok (.iload_n 3, 1) := by decide +kernel
theorem d_Profile_gridFor_12 : decode b_Profile_gridFor 12 = .ok (.ifCond .lt (19), 3) := by decide +kernel
theorem d_Profile_gridFor_15 : decode b_Profile_gridFor 15 = .ok (.iload_n 3, 1) := by decide +kernel
theorem d_Profile_gridFor_16 : decode b_Profile_gridFor 16 = .ok (.iconst (3), 1) := by decide +kernel
theorem d_Profile_gridFor_17 : decode b_Profile_gridFor 17 = .ok (.if_icmp .ge (14), 3) := by decide +kernel
theorem d_Profile_gridFor_20 : decode b_Profile_gridFor 20 = .ok (.aload_n 0, 1) := by decide +kernel
theorem d_Profile_gridFor_21 : decode b_Profile_gridFor 21 = .ok (.getfield 23, 3) := by decide +kernel
theorem d_Profile_gridFor_24 : decode b_Profile_gridFor 24 = .ok (.iload_n 1, 1) := by decide +kernel
theorem d_Profile_gridFor_25 : decode b_Profile_gridFor 25 = .ok (.iload_n 3, 1) := by decide +kernel
theorem d_Profile_gridFor_26 : decode b_Profile_gridFor 26 = .ok (.iadd, 1) := by decide +kernel
theorem d_Profile_gridFor_27 : decode b_Profile_gridFor 27 = .ok (.aaload, 1) := by decide +kernel
theorem d_Profile_gridFor_28 : decode b_Profile_gridFor 28 = .ok (.goto (4), 3) := by decide +kernel
theorem d_Profile_gridFor_31 : decode b_Profile_gridFor 31 = .ok (.aconst_null, 1) := by decide +kernel
theorem d_Profile_gridFor_32 : decode b_Profile_gridFor 32 = .ok (.astore 4, 2) := by decide +kernel
theorem d_Profile_gridFor_34 : decode b_Profile_gridFor 34 = .ok (.aload 4, 2) := by decide +kernel
theorem d_Profile_gridFor_36 : decode b_Profile_gridFor 36 = .ok (.ifnull (8), 3) := by decide +kernel
theorem d_Profile_gridFor_39 : decode b_Profile_gridFor 39 = .ok (.aload 4, 2) := by decide +kernel
theorem d_Profile_gridFor_41 : decode b_Profile_gridFor 41 = .ok (.goto (9), 3) := by decide +kernel
theorem d_Profile_gridFor_44 : decode b_Profile_gridFor 44 = .ok (.aload_n 0, 1) := by decide +kernel
theorem d_Profile_gridFor_45 : decode b_Profile_gridFor 45 = .ok (.getfield 23, 3) := by decide +kernel
theorem d_Profile_gridFor_48 : decode b_Profile_gridFor 48 = .ok (.iload_n 1, 1) := by decide +kernel
theorem d_Profile_gridFor_49 : decode b_Profile_gridFor 49 = .ok (.aaload, 1) := by decide +kernel
theorem d_Profile_gridFor_50 : decode b_Profile_gridFor 50 = .ok (.areturn, 1) := by decide +kernel
theorem d_Profile_forthPiece_0 : decode b_Profile_forthPiece 0 = .ok (.aload_n 0, 1) := by decide +kernel
theorem d_Profile_forthPiece_1 : decode b_Profile_forthPiece 1 = .ok (.bipush (6), 2) := by decide +kernel
theorem d_Profile_forthPiece_3 : decode b_Profile_forthPiece 3 = .ok (.iload_n 1, 1) := by decide +kernel
theorem d_Profile_forthPiece_4 : decode b_Profile_forthPiece 4 = .ok (.invokevirtual 84, 3) := by decide +kernel
theorem d_Profile_forthPiece_7 : decode b_Profile_forthPiece 7 = .ok (.astore_n 3, 1) := by decide +kernel
theorem d_Profile_forthPiece_8 : decode b_Profile_forthPiece 8 = .ok (.aload_n 3, 1) := by decide +kernel
theorem d_Profile_forthPiece_9 : decode b_Profile_forthPiece 9 = .ok (.ifnull (13), 3) := by decide +kernel
theorem d_Profile_forthPiece_12 : decode b_Profile_forthPiece 12 = .ok (.iload_n 2, 1) := by decide +kernel
theorem d_Profile_forthPiece_13 : decode b_Profile_forthPiece 13 = .ok (.ifCond .ne (7), 3) := by decide +kernel
theorem d_Profile_forthPiece_16 : decode b_Profile_forthPiece 16 = .ok (.aload_n 3, 1) := by decide +kernel
theorem d_Profile_forthPiece_17 : decode b_Profile_forthPiece 17 = .ok (.goto (4), 3) := by decide +kernel
theorem d_Profile_forthPiece_20 : decode b_Profile_forthPiece 20 = .ok (.aconst_null, 1) := by decide +kernel
theorem d_Profile_forthPiece_21 : decode b_Profile_forthPiece 21 = .ok (.areturn, 1) := by decide +kernel
theorem d_Profile_forthPiece_22 : decode b_Profile_forthPiece 22 = .ok (.iload_n 2, 1) := by decide +kernel
theorem d_Profile_forthPiece_23 : decode b_Profile_forthPiece 23 = .ok (.ifCond .ne (10), 3) := by decide +kernel
theorem d_Profile_forthPiece_26 : decode b_Profile_forthPiece 26 = .ok (.aload_n 0, 1) := by decide +kernel
theorem d_Profile_forthPiece_27 : decode b_Profile_forthPiece 27 = .ok (.getfield 56, 3) := by decide +kernel
theorem d_Profile_forthPiece_30 : decode b_Profile_forthPiece 30 = .ok (.goto (7), 3) := by decide +kernel
theorem d_Profile_forthPiece_33 : decode b_Profile_forthPiece 33 = .ok (.aload_n 0, 1) := by decide +kernel
theorem d_Profile_forthPiece_34 : decode b_Profile_forthPiece 34 = .ok (.getfield 68, 3) := by decide +kernel
theorem d_Profile_forthPiece_37 : decode b_Profile_forthPiece 37 = .ok (.areturn, 1) := by decide +kernel
