theorem d_Mo_entryFault_0 : decode b_Mo_entryFault 0 = .ok (.bipush (8), 2) := by decide +kernel
theorem d_Mo_entryFault_2 : decode b_Mo_entryFault 2 = .ok (.iconst (4), 1) := by decide +kernel
theorem d_Mo_entryFault_3 : decode b_Mo_entryFault 3 = .ok (.iload_n 1, 1) := by decide +kernel
theorem d_Mo_entryFault_4 : decode b_Mo_entryFault 4 = .ok (.imul, 1) := by decide +kernel
theorem d_Mo_entryFault_5 : decode b_Mo_entryFault 5 = .ok (.iadd, 1) := by decide +kernel
theorem d_Mo_entryFault_6 : decode b_Mo_entryFault 6 = .ok (.istore_n 3, 1) := by decide +kernel
theorem d_Mo_entryFault_7 : decode b_Mo_entryFault 7 = .ok (.aload_n 0, 1) := by decide +kernel
theorem d_Mo_entryFault_8 : decode b_Mo_entryFault 8 = .ok (.getfield 7, 3) := by decide +kernel
theorem d_Mo_entryFault_11 : decode b_Mo_entryFault 11 = .ok (.iload_n 3, 1) := by decide +kernel
theorem d_Mo_entryFault_12 : decode b_Mo_entryFault 12 = .ok (.iaload, 1) := by decide +kernel
theorem d_Mo_entryFault_13 : decode b_Mo_entryFault 13 = .ok (.istore 4, 2) := by decide +kernel
theorem d_Mo_entryFault_15 : decode b_Mo_entryFault 15 = .ok (.aload_n 0, 1) := by decide +kernel
theorem d_Mo_entryFault_16 : decode b_Mo_entryFault 16 = .ok (.getfield 7, 3) := by decide +kernel
theorem d_Mo_entryFault_19 : decode b_Mo_entryFault 19 = .ok (.iload_n 3, 1) := by decide +kernel
theorem d_Mo_entryFault_20 : decode b_Mo_entryFault 20 = .ok (.iconst (1), 1) := by decide +kernel
theorem d_Mo_entryFault_21 : decode b_Mo_entryFault 21 = .ok (.iadd, 1) := by decide +kernel
theorem d_Mo_entryFault_22 : decode b_Mo_entryFault 22 = .ok (.iaload, 1) := by decide +kernel
theorem d_Mo_entryFault_23 : decode b_Mo_entryFault 23 = .ok (.istore 5, 2) := by decide +kernel
theorem d_Mo_entryFault_25 : decode b_Mo_entryFault 25 = .ok (.aload_n 0, 1) := by decide +kernel
theorem d_Mo_entryFault_26 : decode b_Mo_entryFault 26 = .ok (.getfield 7, 3) := by decide +kernel
theorem d_Mo_entryFault_29 : decode b_Mo_entryFault 29 = .ok (.iload_n 3, 1) := by decide +kernel
theorem d_Mo_entryFault_30 : decode b_Mo_entryFault 30 = .ok (.iconst (2), 1) := by decide +kernel
theorem d_Mo_entryFault_31 : decode b_Mo_entryFault 31 = .ok (.iadd, 1) := by decide +kernel
theorem d_Mo_entryFault_32 : decode b_Mo_entryFault 32 = .ok (.iaload, 1) := by decide +kernel
theorem d_Mo_entryFault_33 : decode b_Mo_entryFault 33 = .ok (.istore 6, 2) := by decide +kernel
theorem d_Mo_entryFault_35 : decode b_Mo_entryFault 35 = .ok (.iconst (0), 1) := by decide +kernel
theorem d_Mo_entryFault_36 : decode b_Mo_entryFault 36 = .ok (.istore 7, 2) := by decide +kernel
theorem d_Mo_entryFault_38 : decode b_Mo_entryFault 38 = .ok (.iconst (1), 1) := by decide +kernel
theorem d_Mo_entryFault_39 : decode b_Mo_entryFault 39 = .ok (.istore 8, 2) := by decide +kernel
theorem d_Mo_entryFault_41 : decode b_Mo_entryFault 41 = .ok (.bipush (8), 2) := by decide +kernel
theorem d_Mo_entryFault_43 : decode b_Mo_entryFault 43 = .ok (.istore 9, 2) := by decide +kernel
theorem d_Mo_entryFault_45 : decode b_Mo_entryFault 45 = .ok (.iload 9, 2) := by decide +kernel
theorem d_Mo_entryFault_47 : decode b_Mo_entryFault 47 = .ok (.iload_n 3, 1) := by decide +kernel
theorem d_Mo_entryFault_48 : decode b_Mo_entryFault 48 = .ok (.if_icmp .ge (101), 3) := by decide +kernel
theorem d_Mo_entryFault_51 : decode b_Mo_entryFault 51 = .ok (.aload_n 0, 1) := by decide +kernel
theorem d_Mo_entryFault_52 : decode b_Mo_entryFault 52 = .ok (.getfield 7, 3) := by decide +kernel
theorem d_Mo_entryFault_55 : decode b_Mo_entryFault 55 = .ok (.iload 9, 2) := by decide +kernel
theorem d_Mo_entryFault_57 : decode b_Mo_entryFault 57 = .ok (.iconst (1), 1) := by decide +kernel
theorem d_Mo_entryFault_58 : decode b_Mo_entryFault 58 = .ok (.iadd, 1) := by decide +kernel
theorem d_Mo_entryFault_59 : decode b_Mo_entryFault 59 = .ok (.iaload, 1) := by decide +kernel
theorem d_Mo_entryFault_60 : decode b_Mo_entryFault 60 = .ok (.istore 10, 2) := by decide +kernel
theorem d_Mo_entryFault_62 : decode b_Mo_entryFault 62 = .ok (.aload_n 0, 1) := by decide +kernel
theorem d_Mo_entryFault_63 : decode b_Mo_entryFault 63 = .ok (.getfield 7, 3) := by decide +kernel
theorem d_Mo_entryFault_66 : decode b_Mo_entryFault 66 = .ok (.iload 9, 2) := by decide +kernel
theorem d_Mo_entryFault_68 : decode b_Mo_entryFault 68 = .ok (.iconst (2), 1) := by decide +kernel
theorem d_Mo_entryFault_69 : decode b_Mo_entryFault 69 = .ok (.iadd, 1) := by decide +kernel
theorem d_Mo_entryFault_70 : decode b_Mo_entryFault 70 = .ok (.iaload, 1) := by decide +kernel
theorem d_Mo_entryFault_71 : decode b_Mo_entryFault 71 = .ok (.istore 11, 2) := by decide +kernel
theorem d_Mo_entryFault_73 : decode b_Mo_entryFault 73 = .ok (.iload 7, 2) := by decide +kernel
theorem d_Mo_entryFault_75 : decode b_Mo_entryFault 75 = .ok (.ifCond .ne (15), 3) := by decide +kernel
theorem d_Mo_entryFault_78 : decode b_Mo_entryFault 78 = .ok (.aload_n 0, 1) := by decide +kernel
theorem d_Mo_entryFault_79 : decode b_Mo_entryFault 79 = .ok (.getfield 7, 3) := by decide +kernel
theorem d_Mo_entryFault_82 : decode b_Mo_entryFault 82 = .ok (.iload 9, 2) := by decide +kernel
theorem d_Mo_entryFault_84 : decode b_Mo_entryFault 84 = .ok (.iaload, 1) := by decide +kernel
theorem d_Mo_entryFault_85 : decode b_Mo_entryFault 85 = .ok (.iload 4, 2) := by decide +kernel
theorem d_Mo_entryFault_87 : decode b_Mo_entryFault 87 = .ok (.if_icmp .ne (7), 3) := by decide +kernel
theorem d_Mo_entryFault_90 : decode b_Mo_entryFault 90 = .ok (.iconst (1), 1) := by decide +kernel
theorem d_Mo_entryFault_91 : decode b_Mo_entryFault 91 = .ok (.goto (4), 3) := by decide +kernel
theorem d_Mo_entryFault_94 : decode b_Mo_entryFault 94 = .ok (.iconst (0), 1) := by decide +kernel
theorem d_Mo_entryFault_95 : decode b_Mo_entryFault 95 = .ok (.istore 7, 2) := by decide +kernel
theorem d_Mo_entryFault_97 : decode b_Mo_entryFault 97 = .ok (.iload 8, 2) := by decide +kernel
theorem d_Mo_entryFault_99 : decode b_Mo_entryFault 99 = .ok (.ifCond .eq (41), 3) := by decide +kernel
theorem d_Mo_entryFault_102 : decode b_Mo_entryFault 102 = .ok (.iload 10, 2) := by decide +kernel
theorem d_Mo_entryFault_104 : decode b_Mo_entryFault 104 = .ok (.iload 5, 2) := by decide +kernel
theorem d_Mo_entryFault_106 : decode b_Mo_entryFault 106 = .ok (.if_icmp .ne (10), 3) := by decide +kernel
theorem d_Mo_entryFault_109 : decode b_Mo_entryFault 109 = .ok (.iload 11, 2) := by decide +kernel
theorem d_Mo_entryFault_111 : decode b_Mo_entryFault 111 = .ok (.iload 6, 2) := by decide +kernel
theorem d_Mo_entryFault_113 : decode b_Mo_entryFault 113 = .ok (.if_icmp .eq (23), 3) := by decide +kernel
theorem d_Mo_entryFault_116 : decode b_Mo_entryFault 116 = .ok (.iload 10, 2) := by decide +kernel
theorem d_Mo_entryFault_118 : decode b_Mo_entryFault 118 = .ok (.iload 11, 2) := by decide +kernel
theorem d_Mo_entryFault_120 : decode b_Mo_entryFault 120 = .ok (.iadd, 1) := by decide +kernel
theorem d_Mo_entryFault_121 : decode b_Mo_entryFault 121 = .ok (.iload 5, 2) := by decide +kernel
theorem d_Mo_entryFault_123 : decode b_Mo_entryFault 123 = .ok (.if_icmp .le (13), 3) := by decide +kernel
theorem d_Mo_entryFault_126 : decode b_Mo_entryFault 126 = .ok (.iload 5, 2) := by decide +kernel
theorem d_Mo_entryFault_128 : decode b_Mo_entryFault 128 = .ok (.iload 6, 2) := by decide +kernel
theorem d_Mo_entryFault_130 : decode b_Mo_entryFault 130 = .ok (.iadd, 1) := by decide +kernel
theorem d_Mo_entryFault_131 : decode b_Mo_entryFault 131 = .ok (.iload 10, 2) := by decide +kernel
theorem d_Mo_entryFault_133 : decode b_Mo_entryFault 133 = .ok (.if_icmp .gt (7), 3) := by decide +kernel
theorem d_Mo_entryFault_136 : decode b_Mo_entryFault 136 = .ok (.iconst (1), 1) := by decide +kernel
theorem d_Mo_entryFault_137 : decode b_Mo_entryFault 137 = .ok (.goto (4), 3) := by decide +kernel
theorem d_Mo_entryFault_140 : decode b_Mo_entryFault 140 = .ok (.iconst (0), 1) := by decide +kernel
theorem d_Mo_entryFault_141 : decode b_Mo_entryFault 141 = .ok (.istore 8, 2) := by decide +kernel
theorem d_Mo_entryFault_143 : decode b_Mo_entryFault 143 = .ok (.iinc 9 (4), 3) := by decide +kernel
theorem d_Mo_entryFault_146 : decode b_Mo_entryFault 146 = .ok (.goto (-101), 3) := by decide +kernel
theorem d_Mo_entryFault_149 : decode b_Mo_entryFault 149 = .ok (.iload 4, 2) := by decide +kernel
theorem d_Mo_entryFault_151 : decode b_Mo_entryFault 151 = .ok (.iconst (1), 1) := by decide +kernel
theorem d_Mo_entryFault_152 : decode b_Mo_entryFault 152 = .ok (.if_icmp .lt (15), 3) := by decide +kernel
theorem d_Mo_entryFault_155 : decode b_Mo_entryFault 155 = .ok (.iload 4, 2) := by decide +kernel
theorem d_Mo_entryFault_157 : decode b_Mo_entryFault 157 = .ok (.bipush (12), 2) := by decide +kernel
theorem d_Mo_entryFault_159 : decode b_Mo_entryFault 159 = .ok (.if_icmp .gt (8), 3) := by decide +kernel
theorem d_Mo_entryFault_162 : decode b_Mo_entryFault 162 = .ok (.iload 7, 2) := by decide +kernel
theorem d_Mo_entryFault_164 : decode b_Mo_entryFault 164 = .ok (.ifCond .eq (9), 3) := by decide +kernel
theorem d_Mo_entryFault_167 : decode b_Mo_entryFault 167 = .ok (.sipush (3000), 3) := by decide +kernel
theorem d_Mo_entryFault_170 : decode b_Mo_entryFault 170 = .ok (.iload_n 3, 1) := by decide +kernel
theorem d_Mo_entryFault_171 : decode b_Mo_entryFault 171 = .ok (.iadd, 1) := by decide +kernel
theorem d_Mo_entryFault_172 : decode b_Mo_entryFault 172 = .ok (.ireturn, 1) := by decide +kernel
theorem d_Mo_entryFault_173 : decode b_Mo_entryFault 173 = .ok (.iload 5, 2) := by decide +kernel
theorem d_Mo_entryFault_175 : decode b_Mo_entryFault 175 = .ok (.iconst (4), 1) := by decide +kernel
theorem d_Mo_entryFault_176 : decode b_Mo_entryFault 176 = .ok (.irem, 1) := by decide +kernel
theorem d_Mo_entryFault_177 : decode b_Mo_entryFault 177 = .ok (.ifCond .ne (27), 3) := by decide +kernel
theorem d_Mo_entryFault_180 : decode b_Mo_entryFault 180 = .ok (.iload 5, 2) := by decide +kernel
theorem d_Mo_entryFault_182 : decode b_Mo_entryFault 182 = .ok (.iload_n 2, 1) := by decide +kernel
theorem d_Mo_entryFault_183 : decode b_Mo_entryFault 183 = .ok (.if_icmp .lt (21), 3) := by decide +kernel
theorem d_Mo_entryFault_186 : decode b_Mo_entryFault 186 = .ok (.iload 6, 2) := by decide +kernel
theorem d_Mo_entryFault_188 : decode b_Mo_entryFault 188 = .ok (.iconst (2), 1) := by decide +kernel
theorem d_Mo_entryFault_189 : decode b_Mo_entryFault 189 = .ok (.if_icmp .lt (15), 3) := by decide +kernel
theorem d_Mo_entryFault_192 : decode b_Mo_entryFault 192 = .ok (.iload 5, 2) := by decide +kernel
theorem d_Mo_entryFault_194 : decode b_Mo_entryFault 194 = .ok (.iload 6, 2) := by decide +kernel
theorem d_Mo_entryFault_196 : decode b_Mo_entryFault 196 = .ok (.iadd, 1) := by decide +kernel
theorem d_Mo_entryFault_197 : decode b_Mo_entryFault 197 = .ok (.aload_n 0, 1) := by decide +kernel
theorem d_Mo_entryFault_198 : decode b_Mo_entryFault 198 = .ok (.getfield 60, 3) := by decide +kernel
theorem d_Mo_entryFault_201 : decode b_Mo_entryFault 201 = .ok (.if_icmp .le (9), 3) := by decide +kernel
theorem d_Mo_entryFault_204 : decode b_Mo_entryFault 204 = .ok (.sipush (4001), 3) := by decide +kernel
theorem d_Mo_entryFault_207 : decode b_Mo_entryFault 207 = .ok (.iload_n 3, 1) := by decide +kernel
theorem d_Mo_entryFault_208 : decode b_Mo_entryFault 208 = .ok (.iadd, 1) := by decide +kernel
theorem d_Mo_entryFault_209 : decode b_Mo_entryFault 209 = .ok (.ireturn, 1) := by decide +kernel
theorem d_Mo_entryFault_210 : decode b_Mo_entryFault 210 = .ok (.aload_n 0, 1) := by decide +kernel
theorem d_Mo_entryFault_211 : decode b_Mo_entryFault 211 = .ok (.getfield 7, 3) := by decide +kernel
theorem d_Mo_entryFault_214 : decode b_Mo_entryFault 214 = .ok (.iload_n 3, 1) := by decide +kernel
theorem d_Mo_entryFault_215 : decode b_Mo_entryFault 215 = .ok (.iconst (3), 1) := by decide +kernel
theorem d_Mo_entryFault_216 : decode b_Mo_entryFault 216 = .ok (.iadd, 1) := by decide +kernel
theorem d_Mo_entryFault_217 : decode b_Mo_entryFault 217 = .ok (.iaload, 1) := by decide +kernel
theorem d_Mo_entryFault_218 : decode b_Mo_entryFault 218 = .ok (.ifCond .eq (9), 3) := by decide +kernel
theorem d_Mo_entryFault_221 : decode b_Mo_entryFault 221 = .ok (.sipush (5003), 3) := by decide +kernel
theorem d_Mo_entryFault_224 : decode b_Mo_entryFault 224 = .ok (.iload_n 3, 1) := by decide +kernel
theorem d_Mo_entryFault_225 : decode b_Mo_entryFault 225 = .ok (.iadd, 1) := by decide +kernel
theorem d_Mo_entryFault_226 : decode b_Mo_entryFault 226 = .ok (.ireturn, 1) := by decide +kernel
theorem d_Mo_entryFault_227 : decode b_Mo_entryFault 227 = .ok (.iload 8, 2) := by decide +kernel
theorem d_Mo_entryFault_229 : decode b_Mo_entryFault 229 = .ok (.ifCond .ne (9), 3) := by decide +kernel
theorem d_Mo_entryFault_232 : decode b_Mo_entryFault 232 = .ok (.sipush (6001), 3) := by decide +kernel
theorem d_Mo_entryFault_235 : decode b_Mo_entryFault 235 = .ok (.iload_n 3, 1) := by decide +kernel
theorem d_Mo_entryFault_236 : decode b_Mo_entryFault 236 = .ok (.iadd, 1) := by decide +kernel
theorem d_Mo_entryFault_237 : decode b_Mo_entryFault 237 = .ok (.ireturn, 1) := by decide +kernel
theorem d_Mo_entryFault_238 : decode b_Mo_entryFault 238 = .ok (.aload_n 0, 1) := by decide +kernel
theorem d_Mo_entryFault_239 : decode b_Mo_entryFault 239 = .ok (.getfield 7, 3) := by decide +kernel
theorem d_Mo_entryFault_242 : decode b_Mo_entryFault 242 = .ok (.iload 5, 2) := by decide +kernel
theorem d_Mo_entryFault_244 : decode b_Mo_entryFault 244 = .ok (.iaload, 1) := by decide +kernel
theorem d_Mo_entryFault_245 : decode b_Mo_entryFault 245 = .ok (.istore 9, 2) := by decide +kernel
theorem d_Mo_entryFault_247 : decode b_Mo_entryFault 247 = .ok (.aload_n 0, 1) := by decide +kernel
theorem d_Mo_entryFault_248 : decode b_Mo_entryFault 248 = .ok (.getfield 7, 3) := by decide +kernel
theorem d_Mo_entryFault_251 : decode b_Mo_entryFault 251 = .ok (.iload 5, 2) := by decide +kernel
theorem d_Mo_entryFault_253 : decode b_Mo_entryFault 253 = .ok (.iconst (1), 1) := by decide +kernel
theorem d_Mo_entryFault_254 : decode b_Mo_entryFault 254 = .ok (.iadd, 1) := by decide +kernel
theorem d_Mo_entryFault_255 : decode b_Mo_entryFault 255 = .ok (.iaload, 1) := by decide +kernel
theorem d_Mo_entryFault_256 : decode b_Mo_entryFault 256 = .ok (.istore 10, 2) := by decide +kernel
theorem d_Mo_entryFault_258 : decode b_Mo_entryFault 258 = .ok (.iload 4, 2) := by decide +kernel
theorem d_Mo_entryFault_260 : decode b_Mo_entryFault 260 = .ok (.iconst (5), 1) := by decide +kernel
theorem d_Mo_entryFault_261 : decode b_Mo_entryFault 261 = .ok (.if_icmp .ge (23), 3) := by decide +kernel
theorem d_Mo_entryFault_264 : decode b_Mo_entryFault 264 = .ok (.iload 9, 2) := by decide +kernel
theorem d_Mo_entryFault_266 : decode b_Mo_entryFault 266 = .ok (.iconst (1), 1) := by decide +kernel
theorem d_Mo_entryFault_267 : decode b_Mo_entryFault 267 = .ok (.if_icmp .eq (9), 3) := by decide +kernel
theorem d_Mo_entryFault_270 : decode b_Mo_entryFault 270 = .ok (.iload 9, 2) := by decide +kernel
theorem d_Mo_entryFault_272 : decode b_Mo_entryFault 272 = .ok (.iconst (2), 1) := by decide +kernel
theorem d_Mo_entryFault_273 : decode b_Mo_entryFault 273 = .ok (.if_icmp .ne (7), 3) := by decide +kernel
theorem d_Mo_entryFault_276 : decode b_Mo_entryFault 276 = .ok (.iconst (1), 1) := by decide +kernel
theorem d_Mo_entryFault_277 : decode b_Mo_entryFault 277 = .ok (.goto (59), 3) := by decide +kernel
theorem d_Mo_entryFault_280 : decode b_Mo_entryFault 280 = .ok (.iconst (0), 1) := by decide +kernel
theorem d_Mo_entryFault_281 : decode b_Mo_entryFault 281 = .ok (.goto (55), 3) := by decide +kernel
theorem d_Mo_entryFault_284 : decode b_Mo_entryFault 284 = .ok (.iload 4, 2) := by decide +kernel
theorem d_Mo_entryFault_286 : decode b_Mo_entryFault 286 = .ok (.iconst (5), 1) := by decide +kernel
theorem d_Mo_entryFault_287 : decode b_Mo_entryFault 287 = .ok (.if_icmp .ne (17), 3) := by decide +kernel
theorem d_Mo_entryFault_290 : decode b_Mo_entryFault 290 = .ok (.iload 9, 2) := by decide +kernel
theorem d_Mo_entryFault_292 : decode b_Mo_entryFault 292 = .ok (.iconst (3), 1) := by decide +kernel
theorem d_Mo_entryFault_293 : decode b_Mo_entryFault 293 = .ok (.if_icmp .ne (7), 3) := by decide +kernel
theorem d_Mo_entryFault_296 : decode b_Mo_entryFault 296 = .ok (.iconst (1), 1) := by decide +kernel
theorem d_Mo_entryFault_297 : decode b_Mo_entryFault 297 = .ok (.goto (39), 3) := by decide +kernel
theorem d_Mo_entryFault_300 : decode b_Mo_entryFault 300 = .ok (.iconst (0), 1) := by decide +kernel
theorem d_Mo_entryFault_301 : decode b_Mo_entryFault 301 = .ok (.goto (35), 3) := by decide +kernel
theorem d_Mo_entryFault_304 : decode b_Mo_entryFault 304 = .ok (.iload 4, 2) := by decide +kernel
theorem d_Mo_entryFault_306 : decode b_Mo_entryFault 306 = .ok (.bipush (12), 2) := by decide +kernel
theorem d_Mo_entryFault_308 : decode b_Mo_entryFault 308 = .ok (.if_icmp .ne (17), 3) := by decide +kernel
theorem d_Mo_entryFault_311 : decode b_Mo_entryFault 311 = .ok (.iload 9, 2) := by decide +kernel
theorem d_Mo_entryFault_313 : decode b_Mo_entryFault 313 = .ok (.iconst (5), 1) := by decide +kernel
theorem d_Mo_entryFault_314 : decode b_Mo_entryFault 314 = .ok (.if_icmp .ne (7), 3) := by decide +kernel
theorem d_Mo_entryFault_317 : decode b_Mo_entryFault 317 = .ok (.iconst (1), 1) := by decide +kernel
theorem d_Mo_entryFault_318 : decode b_Mo_entryFault 318 = .ok (.goto (18), 3) := by decide +kernel
theorem d_Mo_entryFault_321 : decode b_Mo_entryFault 321 = .ok (.iconst (0), 1) := by decide +kernel
theorem d_Mo_entryFault_322 : decode b_Mo_entryFault 322 = .ok (.goto (14), 3) := by decide +kernel
theorem d_Mo_entryFault_325 : decode b_Mo_entryFault 325 = .ok (.iload 9, 2) := by decide +kernel
theorem d_Mo_entryFault_327 : decode b_Mo_entryFault 327 = .ok (.iconst (4), 1) := by decide +kernel
theorem d_Mo_entryFault_328 : decode b_Mo_entryFault 328 = .ok (.if_icmp .ne (7), 3) := by decide +kernel
theorem d_Mo_entryFault_331 : decode b_Mo_entryFault 331 = .ok (.iconst (1), 1) := by decide +kernel
theorem d_Mo_entryFault_332 : decode b_Mo_entryFault 332 = .ok (.goto (4), 3) := by decide +kernel
theorem d_Mo_entryFault_335 : decode b_Mo_entryFault 335 = .ok (.iconst (0), 1) := by decide +kernel
theorem d_Mo_entryFault_336 : decode b_Mo_entryFault 336 = .ok (.istore 11, 2) := by decide +kernel
theorem d_Mo_entryFault_338 : decode b_Mo_entryFault 338 = .ok (.iload 11, 2) := by decide +kernel
theorem d_Mo_entryFault_340 : decode b_Mo_entryFault 340 = .ok (.ifCond .ne (10), 3) := by decide +kernel
theorem d_Mo_entryFault_343 : decode b_Mo_entryFault 343 = .ok (.sipush (7000), 3) := by decide +kernel
theorem d_Mo_entryFault_346 : decode b_Mo_entryFault 346 = .ok (.iload 5, 2) := by decide +kernel
theorem d_Mo_entryFault_348 : decode b_Mo_entryFault 348 = .ok (.iadd, 1) := by decide +kernel
theorem d_Mo_entryFault_349 : decode b_Mo_entryFault 349 = .ok (.ireturn, 1) := by decide +kernel
theorem d_Mo_entryFault_350 : decode b_Mo_entryFault 350 = .ok (.iload 9, 2) := by decide +kernel
theorem d_Mo_entryFault_352 : decode b_Mo_entryFault 352 = .ok (.iconst (1), 1) := by decide +kernel
theorem d_Mo_entryFault_353 : decode b_Mo_entryFault 353 = .ok (.if_icmp .ne (29), 3) := by decide +kernel
theorem d_Mo_entryFault_356 : decode b_Mo_entryFault 356 = .ok (.iload 10, 2) := by decide +kernel
theorem d_Mo_entryFault_358 : decode b_Mo_entryFault 358 = .ok (.ifCond .eq (16), 3) := by decide +kernel
theorem d_Mo_entryFault_361 : decode b_Mo_entryFault 361 = .ok (.iload 10, 2) := by decide +kernel
theorem d_Mo_entryFault_363 : decode b_Mo_entryFault 363 = .ok (.iconst (2), 1) := by decide +kernel
theorem d_Mo_entryFault_364 : decode b_Mo_entryFault 364 = .ok (.if_icmp .lt (14), 3) := by decide +kernel
theorem d_Mo_entryFault_367 : decode b_Mo_entryFault 367 = .ok (.iload 10, 2) := by decide +kernel
theorem d_Mo_entryFault_369 : decode b_Mo_entryFault 369 = .ok (.bipush (24), 2) := by decide +kernel
theorem d_Mo_entryFault_371 : decode b_Mo_entryFault 371 = .ok (.if_icmp .gt (7), 3) := by decide +kernel
theorem d_Mo_entryFault_374 : decode b_Mo_entryFault 374 = .ok (.iconst (1), 1) := by decide +kernel
theorem d_Mo_entryFault_375 : decode b_Mo_entryFault 375 = .ok (.goto (69), 3) := by decide +kernel
theorem d_Mo_entryFault_378 : decode b_Mo_entryFault 378 = .ok (.iconst (0), 1) := by decide +kernel
theorem d_Mo_entryFault_379 : decode b_Mo_entryFault 379 = .ok (.goto (65), 3) := by decide +kernel
theorem d_Mo_entryFault_382 : decode b_Mo_entryFault 382 = .ok (.iload 9, 2) := by decide +kernel
theorem d_Mo_entryFault_384 : decode b_Mo_entryFault 384 = .ok (.iconst (2), 1) := by decide +kernel
theorem d_Mo_entryFault_385 : decode b_Mo_entryFault 385 = .ok (.if_icmp .ne (23), 3) := by decide +kernel
theorem d_Mo_entryFault_388 : decode b_Mo_entryFault 388 = .ok (.iload 10, 2) := by decide +kernel
theorem d_Mo_entryFault_390 : decode b_Mo_entryFault 390 = .ok (.iconst (1), 1) := by decide +kernel
theorem d_Mo_entryFault_391 : decode b_Mo_entryFault 391 = .ok (.if_icmp .lt (13), 3) := by decide +kernel
theorem d_Mo_entryFault_394 : decode b_Mo_entryFault 394 = .ok (.iload 10, 2) := by decide +kernel
theorem d_Mo_entryFault_396 : decode b_Mo_entryFault 396 = .ok (.iconst (4), 1) := by decide +kernel
theorem d_Mo_entryFault_397 : decode b_Mo_entryFault 397 = .ok (.if_icmp .gt (7), 3) := by decide +kernel
theorem d_Mo_entryFault_400 : decode b_Mo_entryFault 400 = .ok (.iconst (1), 1) := by decide +kernel
theorem d_Mo_entryFault_401 : decode b_Mo_entryFault 401 = .ok (.goto (43), 3) := by decide +kernel
theorem d_Mo_entryFault_404 : decode b_Mo_entryFault 404 = .ok (.iconst (0), 1) := by decide +kernel
theorem d_Mo_entryFault_405 : decode b_Mo_entryFault 405 = .ok (.goto (39), 3) := by decide +kernel
theorem d_Mo_entryFault_408 : decode b_Mo_entryFault 408 = .ok (.iload 9, 2) := by decide +kernel
theorem d_Mo_entryFault_410 : decode b_Mo_entryFault 410 = .ok (.iconst (4), 1) := by decide +kernel
theorem d_Mo_entryFault_411 : decode b_Mo_entryFault 411 = .ok (.if_icmp .ne (23), 3) := by decide +kernel
theorem d_Mo_entryFault_414 : decode b_Mo_entryFault 414 = .ok (.iload 10, 2) := by decide +kernel
theorem d_Mo_entryFault_416 : decode b_Mo_entryFault 416 = .ok (.iconst (2), 1) := by decide +kernel
theorem d_Mo_entryFault_417 : decode b_Mo_entryFault 417 = .ok (.if_icmp .eq (9), 3) := by decide +kernel
theorem d_Mo_entryFault_420 : decode b_Mo_entryFault 420 = .ok (.iload 10, 2) := by decide +kernel
theorem d_Mo_entryFault_422 : decode b_Mo_entryFault 422 = .ok (.iconst (3), 1) := by decide +kernel
theorem d_Mo_entryFault_423 : decode b_Mo_entryFault 423 = .ok (.if_icmp .ne (7), 3) := by decide +kernel
theorem d_Mo_entryFault_426 : decode b_Mo_entryFault 426 = .ok (.iconst (1), 1) := by decide +kernel
theorem d_Mo_entryFault_427 : decode b_Mo_entryFault 427 = .ok (.goto (17), 3) := by decide +kernel
theorem d_Mo_entryFault_430 : decode b_Mo_entryFault 430 = .ok (.iconst (0), 1) := by decide +kernel
theorem d_Mo_entryFault_431 : decode b_Mo_entryFault 431 = .ok (.goto (13), 3) := by decide +kernel
theorem d_Mo_entryFault_434 : decode b_Mo_entryFault 434 = .ok (.iload 10, 2) := by decide +kernel
theorem d_Mo_entryFault_436 : decode b_Mo_entryFault 436 = .ok (.ifCond .ne (7), 3) := by decide +kernel
theorem d_Mo_entryFault_439 : decode b_Mo_entryFault 439 = .ok (.iconst (1), 1) := by decide +kernel
theorem d_Mo_entryFault_440 : decode b_Mo_entryFault 440 = .ok (.goto (4), 3) := by decide +kernel
theorem d_Mo_entryFault_443 : decode b_Mo_entryFault 443 = .ok (.iconst (0), 1) := by decide +kernel
theorem d_Mo_entryFault_444 : decode b_Mo_entryFault 444 = .ok (.istore 12, 2) := by decide +kernel
theorem d_Mo_entryFault_446 : decode b_Mo_entryFault 446 = .ok (.iload 9, 2) := by decide +kernel
theorem d_Mo_entryFault_448 : decode b_Mo_entryFault 448 = .ok (.iconst (1), 1) := by decide +kernel
theorem d_Mo_entryFault_449 : decode b_Mo_entryFault 449 = .ok (.if_icmp .ne (12), 3) := by decide +kernel
theorem d_Mo_entryFault_452 : decode b_Mo_entryFault 452 = .ok (.iconst (2), 1) := by decide +kernel
theorem d_Mo_entryFault_453 : decode b_Mo_entryFault 453 = .ok (.iconst (2), 1) := by decide +kernel
theorem d_Mo_entryFault_454 : decode b_Mo_entryFault 454 = .ok (.iload 10, 2) := by decide +kernel
theorem d_Mo_entryFault_456 : decode b_Mo_entryFault 456 = .ok (.imul, 1) := by decide +kernel
theorem d_Mo_entryFault_457 : decode b_Mo_entryFault 457 = .ok (.iadd, 1) := by decide +kernel
theorem d_Mo_entryFault_458 : decode b_Mo_entryFault 458 = .ok (.goto (48), 3) := by decide +kernel
theorem d_Mo_entryFault_461 : decode b_Mo_entryFault 461 = .ok (.iload 9, 2) := by decide +kernel
theorem d_Mo_entryFault_463 : decode b_Mo_entryFault 463 = .ok (.iconst (2), 1) := by decide +kernel
theorem d_Mo_entryFault_464 : decode b_Mo_entryFault 464 = .ok (.if_icmp .ne (8), 3) := by decide +kernel
theorem d_Mo_entryFault_467 : decode b_Mo_entryFault 467 = .ok (.bipush (6), 2) := by decide +kernel
theorem d_Mo_entryFault_469 : decode b_Mo_entryFault 469 = .ok (.goto (37), 3) := by decide +kernel
theorem d_Mo_entryFault_472 : decode b_Mo_entryFault 472 = .ok (.iload 9, 2) := by decide +kernel
theorem d_Mo_entryFault_474 : decode b_Mo_entryFault 474 = .ok (.iconst (3), 1) := by decide +kernel
theorem d_Mo_entryFault_475 : decode b_Mo_entryFault 475 = .ok (.if_icmp .ne (8), 3) := by decide +kernel
theorem d_Mo_entryFault_478 : decode b_Mo_entryFault 478 = .ok (.bipush (20), 2) := by decide +kernel
theorem d_Mo_entryFault_480 : decode b_Mo_entryFault 480 = .ok (.goto (26), 3) := by decide +kernel
theorem d_Mo_entryFault_483 : decode b_Mo_entryFault 483 = .ok (.iload 9, 2) := by decide +kernel
theorem d_Mo_entryFault_485 : decode b_Mo_entryFault 485 = .ok (.iconst (4), 1) := by decide +kernel
theorem d_Mo_entryFault_486 : decode b_Mo_entryFault 486 = .ok (.if_icmp .ne (18), 3) := by decide +kernel
theorem d_Mo_entryFault_489 : decode b_Mo_entryFault 489 = .ok (.iconst (2), 1) := by decide +kernel
theorem d_Mo_entryFault_490 : decode b_Mo_entryFault 490 = .ok (.iconst (3), 1) := by decide +kernel
theorem d_Mo_entryFault_491 : decode b_Mo_entryFault 491 = .ok (.iload 10, 2) := by decide +kernel
theorem d_Mo_entryFault_493 : decode b_Mo_entryFault 493 = .ok (.imul, 1) := by decide +kernel
theorem d_Mo_entryFault_494 : decode b_Mo_entryFault 494 = .ok (.iload 10, 2) := by decide +kernel
theorem d_Mo_entryFault_496 : decode b_Mo_entryFault 496 = .ok (.imul, 1) := by decide +kernel
theorem d_Mo_entryFault_497 : decode b_Mo_entryFault 497 = .ok (.iload 10, 2) := by decide +kernel
theorem d_Mo_entryFault_499 : decode b_Mo_entryFault 499 = .ok (.imul, 1) := by decide +kernel
theorem d_Mo_entryFault_500 : decode b_Mo_entryFault 500 = .ok (.iadd, 1) := by decide +kernel
theorem d_Mo_entryFault_501 : decode b_Mo_entryFault 501 = .ok (.goto (5), 3) := by decide +kernel
theorem d_Mo_entryFault_504 : decode b_Mo_entryFault 504 = .ok (.bipush (8), 2) := by decide +kernel
theorem d_Mo_entryFault_506 : decode b_Mo_entryFault 506 = .ok (.istore 13, 2) := by decide +kernel
theorem d_Mo_entryFault_508 : decode b_Mo_entryFault 508 = .ok (.iload 12, 2) := by decide +kernel
theorem d_Mo_entryFault_510 : decode b_Mo_entryFault 510 = .ok (.ifCond .eq (14), 3) := by decide +kernel
theorem d_Mo_entryFault_513 : decode b_Mo_entryFault 513 = .ok (.iload 6, 2) := by decide +kernel
theorem d_Mo_entryFault_515 : decode b_Mo_entryFault 515 = .ok (.iload 13, 2) := by decide +kernel
theorem d_Mo_entryFault_517 : decode b_Mo_entryFault 517 = .ok (.if_icmp .ne (7), 3) := by decide +kernel
theorem d_Mo_entryFault_520 : decode b_Mo_entryFault 520 = .ok (.iconst (0), 1) := by decide +kernel
theorem d_Mo_entryFault_521 : decode b_Mo_entryFault 521 = .ok (.goto (9), 3) := by decide +kernel
theorem d_Mo_entryFault_524 : decode b_Mo_entryFault 524 = .ok (.sipush (8001), 3) := by decide +kernel
theorem d_Mo_entryFault_527 : decode b_Mo_entryFault 527 = .ok (.iload 5, 2) := by decide +kernel
theorem d_Mo_entryFault_529 : decode b_Mo_entryFault 529 = .ok (.iadd, 1) := by decide +kernel
theorem d_Mo_entryFault_530 : decode b_Mo_entryFault 530 = .ok (.ireturn, 1) := by decide +kernel
theorem d_Mo_has_0 : decode b_Mo_has 0 = .ok (.iconst (0), 1) := by decide +kernel
theorem d_Mo_has_1 : decode b_Mo_has 1 = .ok (.istore_n 2, 1) := by decide +kernel
theorem d_Mo_has_2 : decode b_Mo_has 2 = .ok (.iconst (0), 1) := by decide +kernel
theorem d_Mo_has_3 : decode b_Mo_has 3 = .ok (.istore_n 3, 1) := by decide +kernel
theorem d_Mo_has_4 : decode b_Mo_has 4 = .ok (.iload_n 3, 1) := by decide +kernel
theorem d_Mo_has_5 : decode b_Mo_has 5 = .ok (.aload_n 0, 1) := by decide +kernel
theorem d_Mo_has_6 : decode b_Mo_has 6 = .ok (.getfield 7, 3) := by decide +kernel
theorem d_Mo_has_9 : decode b_Mo_has 9 = .ok (.bipush (6), 2) := by decide +kernel
theorem d_Mo_has_11 : decode b_Mo_has 11 = .ok (.iaload, 1) := by decide +kernel
theorem d_Mo_has_12 : decode b_Mo_has 12 = .ok (.if_icmp .ge (34), 3) := by decide +kernel
theorem d_Mo_has_15 : decode b_Mo_has 15 = .ok (.iload_n 2, 1) := by decide +kernel
theorem d_Mo_has_16 : decode b_Mo_has 16 = .ok (.ifCond .ne (18), 3) := by decide +kernel
theorem d_Mo_has_19 : decode b_Mo_has 19 = .ok (.aload_n 0, 1) := by decide +kernel
theorem d_Mo_has_20 : decode b_Mo_has 20 = .ok (.getfield 7, 3) := by decide +kernel
theorem d_Mo_has_23 : decode b_Mo_has 23 = .ok (.bipush (8), 2) := by decide +kernel
theorem d_Mo_has_25 : decode b_Mo_has 25 = .ok (.iconst (4), 1) := by decide +kernel
theorem d_Mo_has_26 : decode b_Mo_has 26 = .ok (.iload_n 3, 1) := by decide +kernel
theorem d_Mo_has_27 : decode b_Mo_has 27 = .ok (.imul, 1) := by decide +kernel
theorem d_Mo_has_28 : decode b_Mo_has 28 = .ok (.iadd, 1) := by decide +kernel
theorem d_Mo_has_29 : decode b_Mo_has 29 = .ok (.iaload, 1) := by decide +kernel
theorem d_Mo_has_30 : decode b_Mo_has 30 = .ok (.iload_n 1, 1) := by decide +kernel
theorem d_Mo_has_31 : decode b_Mo_has 31 = .ok (.if_icmp .ne (7), 3) := by decide +kernel
theorem d_Mo_has_34 : decode b_Mo_has 34 = .ok (.iconst (1), 1) := by decide +kernel
theorem d_Mo_has_35 : decode b_Mo_has 35 = .ok (.goto (4), 3) := by decide +kernel
theorem d_Mo_has_38 : decode b_Mo_has 38 = .ok (.iconst (0), 1) := by decide +kernel
theorem d_Mo_has_39 : decode b_Mo_has 39 = .ok (.istore_n 2, 1) := by decide +kernel
theorem d_Mo_has_40 : decode b_Mo_has 40 = .ok (.iinc 3 (1), 3) := by decide +kernel
theorem d_Mo_has_43 : decode b_Mo_has 43 = .ok (.goto (-39), 3) := by decide +kernel
theorem d_Mo_has_46 : decode b_Mo_has 46 = .ok (.iload_n 2, 1) := by decide +kernel
theorem d_Mo_has_47 : decode b_Mo_has 47 = .ok (.ireturn, 1) := by decide +kernel
