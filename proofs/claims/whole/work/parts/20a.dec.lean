theorem d_Mo_fault_0 : decode b_Mo_fault 0 = .ok (.aload_n 0, 1) := by decide +kernel
theorem d_Mo_fault_1 : decode b_Mo_fault 1 = .ok (.getfield 60, 3) := by decide +kernel
theorem d_Mo_fault_4 : decode b_Mo_fault 4 = .ok (.bipush (12), 2) := by decide +kernel
theorem d_Mo_fault_6 : decode b_Mo_fault 6 = .ok (.if_icmp .lt (36), 3) := by decide +kernel
theorem d_Mo_fault_9 : decode b_Mo_fault 9 = .ok (.aload_n 0, 1) := by decide +kernel
theorem d_Mo_fault_10 : decode b_Mo_fault 10 = .ok (.getfield 60, 3) := by decide +kernel
theorem d_Mo_fault_13 : decode b_Mo_fault 13 = .ok (.iconst (4), 1) := by decide +kernel
theorem d_Mo_fault_14 : decode b_Mo_fault 14 = .ok (.irem, 1) := by decide +kernel
theorem d_Mo_fault_15 : decode b_Mo_fault 15 = .ok (.ifCond .ne (27), 3) := by decide +kernel
theorem d_Mo_fault_18 : decode b_Mo_fault 18 = .ok (.sipush (256), 3) := by decide +kernel
theorem d_Mo_fault_21 : decode b_Mo_fault 21 = .ok (.aload_n 0, 1) := by decide +kernel
theorem d_Mo_fault_22 : decode b_Mo_fault 22 = .ok (.getfield 7, 3) := by decide +kernel
theorem d_Mo_fault_25 : decode b_Mo_fault 25 = .ok (.iconst (0), 1) := by decide +kernel
theorem d_Mo_fault_26 : decode b_Mo_fault 26 = .ok (.iaload, 1) := by decide +kernel
theorem d_Mo_fault_27 : decode b_Mo_fault 27 = .ok (.imul, 1) := by decide +kernel
theorem d_Mo_fault_28 : decode b_Mo_fault 28 = .ok (.aload_n 0, 1) := by decide +kernel
theorem d_Mo_fault_29 : decode b_Mo_fault 29 = .ok (.getfield 7, 3) := by decide +kernel
theorem d_Mo_fault_32 : decode b_Mo_fault 32 = .ok (.iconst (1), 1) := by decide +kernel
theorem d_Mo_fault_33 : decode b_Mo_fault 33 = .ok (.iaload, 1) := by decide +kernel
theorem d_Mo_fault_34 : decode b_Mo_fault 34 = .ok (.iadd, 1) := by decide +kernel
theorem d_Mo_fault_35 : decode b_Mo_fault 35 = .ok (.aload_n 0, 1) := by decide +kernel
theorem d_Mo_fault_36 : decode b_Mo_fault 36 = .ok (.getfield 60, 3) := by decide +kernel
theorem d_Mo_fault_39 : decode b_Mo_fault 39 = .ok (.if_icmp .eq (7), 3) := by decide +kernel
theorem d_Mo_fault_42 : decode b_Mo_fault 42 = .ok (.sipush (1000), 3) := by decide +kernel
theorem d_Mo_fault_45 : decode b_Mo_fault 45 = .ok (.ireturn, 1) := by decide +kernel
theorem d_Mo_fault_46 : decode b_Mo_fault 46 = .ok (.aload_n 0, 1) := by decide +kernel
theorem d_Mo_fault_47 : decode b_Mo_fault 47 = .ok (.getfield 7, 3) := by decide +kernel
theorem d_Mo_fault_50 : decode b_Mo_fault 50 = .ok (.bipush (6), 2) := by decide +kernel
theorem d_Mo_fault_52 : decode b_Mo_fault 52 = .ok (.iaload, 1) := by decide +kernel
theorem d_Mo_fault_53 : decode b_Mo_fault 53 = .ok (.istore_n 1, 1) := by decide +kernel
theorem d_Mo_fault_54 : decode b_Mo_fault 54 = .ok (.aload_n 0, 1) := by decide +kernel
theorem d_Mo_fault_55 : decode b_Mo_fault 55 = .ok (.getfield 7, 3) := by decide +kernel
theorem d_Mo_fault_58 : decode b_Mo_fault 58 = .ok (.iconst (2), 1) := by decide +kernel
theorem d_Mo_fault_59 : decode b_Mo_fault 59 = .ok (.iaload, 1) := by decide +kernel
theorem d_Mo_fault_60 : decode b_Mo_fault 60 = .ok (.iconst (1), 1) := by decide +kernel
theorem d_Mo_fault_61 : decode b_Mo_fault 61 = .ok (.if_icmp .eq (17), 3) := by decide +kernel
theorem d_Mo_fault_64 : decode b_Mo_fault 64 = .ok (.aload_n 0, 1) := by decide +kernel
theorem d_Mo_fault_65 : decode b_Mo_fault 65 = .ok (.getfield 7, 3) := by decide +kernel
theorem d_Mo_fault_68 : decode b_Mo_fault 68 = .ok (.iconst (2), 1) := by decide +kernel
theorem d_Mo_fault_69 : decode b_Mo_fault 69 = .ok (.iaload, 1) := by decide +kernel
theorem d_Mo_fault_70 : decode b_Mo_fault 70 = .ok (.iconst (2), 1) := by decide +kernel
theorem d_Mo_fault_71 : decode b_Mo_fault 71 = .ok (.if_icmp .eq (7), 3) := by decide +kernel
theorem d_Mo_fault_74 : decode b_Mo_fault 74 = .ok (.sipush (2002), 3) := by decide +kernel
theorem d_Mo_fault_77 : decode b_Mo_fault 77 = .ok (.ireturn, 1) := by decide +kernel
theorem d_Mo_fault_78 : decode b_Mo_fault 78 = .ok (.aload_n 0, 1) := by decide +kernel
theorem d_Mo_fault_79 : decode b_Mo_fault 79 = .ok (.getfield 7, 3) := by decide +kernel
theorem d_Mo_fault_82 : decode b_Mo_fault 82 = .ok (.iconst (3), 1) := by decide +kernel
theorem d_Mo_fault_83 : decode b_Mo_fault 83 = .ok (.iaload, 1) := by decide +kernel
theorem d_Mo_fault_84 : decode b_Mo_fault 84 = .ok (.iconst (1), 1) := by decide +kernel
theorem d_Mo_fault_85 : decode b_Mo_fault 85 = .ok (.if_icmp .eq (17), 3) := by decide +kernel
theorem d_Mo_fault_88 : decode b_Mo_fault 88 = .ok (.aload_n 0, 1) := by decide +kernel
theorem d_Mo_fault_89 : decode b_Mo_fault 89 = .ok (.getfield 7, 3) := by decide +kernel
theorem d_Mo_fault_92 : decode b_Mo_fault 92 = .ok (.iconst (3), 1) := by decide +kernel
theorem d_Mo_fault_93 : decode b_Mo_fault 93 = .ok (.iaload, 1) := by decide +kernel
theorem d_Mo_fault_94 : decode b_Mo_fault 94 = .ok (.iconst (3), 1) := by decide +kernel
theorem d_Mo_fault_95 : decode b_Mo_fault 95 = .ok (.if_icmp .eq (7), 3) := by decide +kernel
theorem d_Mo_fault_98 : decode b_Mo_fault 98 = .ok (.sipush (2003), 3) := by decide +kernel
theorem d_Mo_fault_101 : decode b_Mo_fault 101 = .ok (.ireturn, 1) := by decide +kernel
theorem d_Mo_fault_102 : decode b_Mo_fault 102 = .ok (.aload_n 0, 1) := by decide +kernel
theorem d_Mo_fault_103 : decode b_Mo_fault 103 = .ok (.getfield 7, 3) := by decide +kernel
theorem d_Mo_fault_106 : decode b_Mo_fault 106 = .ok (.iconst (4), 1) := by decide +kernel
theorem d_Mo_fault_107 : decode b_Mo_fault 107 = .ok (.iaload, 1) := by decide +kernel
theorem d_Mo_fault_108 : decode b_Mo_fault 108 = .ok (.iconst (1), 1) := by decide +kernel
theorem d_Mo_fault_109 : decode b_Mo_fault 109 = .ok (.if_icmp .le (7), 3) := by decide +kernel
theorem d_Mo_fault_112 : decode b_Mo_fault 112 = .ok (.sipush (2004), 3) := by decide +kernel
theorem d_Mo_fault_115 : decode b_Mo_fault 115 = .ok (.ireturn, 1) := by decide +kernel
theorem d_Mo_fault_116 : decode b_Mo_fault 116 = .ok (.aload_n 0, 1) := by decide +kernel
theorem d_Mo_fault_117 : decode b_Mo_fault 117 = .ok (.getfield 7, 3) := by decide +kernel
theorem d_Mo_fault_120 : decode b_Mo_fault 120 = .ok (.iconst (5), 1) := by decide +kernel
theorem d_Mo_fault_121 : decode b_Mo_fault 121 = .ok (.iaload, 1) := by decide +kernel
theorem d_Mo_fault_122 : decode b_Mo_fault 122 = .ok (.ifCond .eq (7), 3) := by decide +kernel
theorem d_Mo_fault_125 : decode b_Mo_fault 125 = .ok (.sipush (2005), 3) := by decide +kernel
theorem d_Mo_fault_128 : decode b_Mo_fault 128 = .ok (.ireturn, 1) := by decide +kernel
theorem d_Mo_fault_129 : decode b_Mo_fault 129 = .ok (.iload_n 1, 1) := by decide +kernel
theorem d_Mo_fault_130 : decode b_Mo_fault 130 = .ok (.iconst (1), 1) := by decide +kernel
theorem d_Mo_fault_131 : decode b_Mo_fault 131 = .ok (.if_icmp .lt (22), 3) := by decide +kernel
theorem d_Mo_fault_134 : decode b_Mo_fault 134 = .ok (.iload_n 1, 1) := by decide +kernel
theorem d_Mo_fault_135 : decode b_Mo_fault 135 = .ok (.bipush (12), 2) := by decide +kernel
theorem d_Mo_fault_137 : decode b_Mo_fault 137 = .ok (.if_icmp .gt (16), 3) := by decide +kernel
theorem d_Mo_fault_140 : decode b_Mo_fault 140 = .ok (.bipush (8), 2) := by decide +kernel
theorem d_Mo_fault_142 : decode b_Mo_fault 142 = .ok (.iconst (4), 1) := by decide +kernel
theorem d_Mo_fault_143 : decode b_Mo_fault 143 = .ok (.iload_n 1, 1) := by decide +kernel
theorem d_Mo_fault_144 : decode b_Mo_fault 144 = .ok (.imul, 1) := by decide +kernel
theorem d_Mo_fault_145 : decode b_Mo_fault 145 = .ok (.iadd, 1) := by decide +kernel
theorem d_Mo_fault_146 : decode b_Mo_fault 146 = .ok (.aload_n 0, 1) := by decide +kernel
theorem d_Mo_fault_147 : decode b_Mo_fault 147 = .ok (.getfield 60, 3) := by decide +kernel
theorem d_Mo_fault_150 : decode b_Mo_fault 150 = .ok (.if_icmp .le (7), 3) := by decide +kernel
theorem d_Mo_fault_153 : decode b_Mo_fault 153 = .ok (.sipush (2006), 3) := by decide +kernel
theorem d_Mo_fault_156 : decode b_Mo_fault 156 = .ok (.ireturn, 1) := by decide +kernel
theorem d_Mo_fault_157 : decode b_Mo_fault 157 = .ok (.aload_n 0, 1) := by decide +kernel
theorem d_Mo_fault_158 : decode b_Mo_fault 158 = .ok (.getfield 7, 3) := by decide +kernel
theorem d_Mo_fault_161 : decode b_Mo_fault 161 = .ok (.bipush (7), 2) := by decide +kernel
theorem d_Mo_fault_163 : decode b_Mo_fault 163 = .ok (.iaload, 1) := by decide +kernel
theorem d_Mo_fault_164 : decode b_Mo_fault 164 = .ok (.ifCond .eq (7), 3) := by decide +kernel
theorem d_Mo_fault_167 : decode b_Mo_fault 167 = .ok (.sipush (2007), 3) := by decide +kernel
theorem d_Mo_fault_170 : decode b_Mo_fault 170 = .ok (.ireturn, 1) := by decide +kernel
theorem d_Mo_fault_171 : decode b_Mo_fault 171 = .ok (.iconst (0), 1) := by decide +kernel
theorem d_Mo_fault_172 : decode b_Mo_fault 172 = .ok (.istore_n 2, 1) := by decide +kernel
theorem d_Mo_fault_173 : decode b_Mo_fault 173 = .ok (.iload_n 2, 1) := by decide +kernel
theorem d_Mo_fault_174 : decode b_Mo_fault 174 = .ok (.iload_n 1, 1) := by decide +kernel
theorem d_Mo_fault_175 : decode b_Mo_fault 175 = .ok (.if_icmp .ge (27), 3) := by decide +kernel
theorem d_Mo_fault_178 : decode b_Mo_fault 178 = .ok (.aload_n 0, 1) := by decide +kernel
theorem d_Mo_fault_179 : decode b_Mo_fault 179 = .ok (.iload_n 2, 1) := by decide +kernel
theorem d_Mo_fault_180 : decode b_Mo_fault 180 = .ok (.bipush (8), 2) := by decide +kernel
theorem d_Mo_fault_182 : decode b_Mo_fault 182 = .ok (.iconst (4), 1) := by decide +kernel
theorem d_Mo_fault_183 : decode b_Mo_fault 183 = .ok (.iload_n 1, 1) := by decide +kernel
theorem d_Mo_fault_184 : decode b_Mo_fault 184 = .ok (.imul, 1) := by decide +kernel
theorem d_Mo_fault_185 : decode b_Mo_fault 185 = .ok (.iadd, 1) := by decide +kernel
theorem d_Mo_fault_186 : decode b_Mo_fault 186 = .ok (.invokevirtual 64, 3) := by decide +kernel
theorem d_Mo_fault_189 : decode b_Mo_fault 189 = .ok (.istore_n 3, 1) := by decide +kernel
theorem d_Mo_fault_190 : decode b_Mo_fault 190 = .ok (.iload_n 3, 1) := by decide +kernel
theorem d_Mo_fault_191 : decode b_Mo_fault 191 = .ok (.ifCond .le (5), 3) := by decide +kernel
theorem d_Mo_fault_194 : decode b_Mo_fault 194 = .ok (.iload_n 3, 1) := by decide +kernel
theorem d_Mo_fault_195 : decode b_Mo_fault 195 = .ok (.ireturn, 1) := by decide +kernel
theorem d_Mo_fault_196 : decode b_Mo_fault 196 = .ok (.iinc 2 (1), 3) := by decide +kernel
theorem d_Mo_fault_199 : decode b_Mo_fault 199 = .ok (.goto (-26), 3) := by decide +kernel
theorem d_Mo_fault_202 : decode b_Mo_fault 202 = .ok (.aload_n 0, 1) := by decide +kernel
theorem d_Mo_fault_203 : decode b_Mo_fault 203 = .ok (.iconst (2), 1) := by decide +kernel
theorem d_Mo_fault_204 : decode b_Mo_fault 204 = .ok (.invokevirtual 68, 3) := by decide +kernel
theorem d_Mo_fault_207 : decode b_Mo_fault 207 = .ok (.ifCond .eq (40), 3) := by decide +kernel
theorem d_Mo_fault_210 : decode b_Mo_fault 210 = .ok (.aload_n 0, 1) := by decide +kernel
theorem d_Mo_fault_211 : decode b_Mo_fault 211 = .ok (.iconst (3), 1) := by decide +kernel
theorem d_Mo_fault_212 : decode b_Mo_fault 212 = .ok (.invokevirtual 68, 3) := by decide +kernel
theorem d_Mo_fault_215 : decode b_Mo_fault 215 = .ok (.ifCond .eq (32), 3) := by decide +kernel
theorem d_Mo_fault_218 : decode b_Mo_fault 218 = .ok (.aload_n 0, 1) := by decide +kernel
theorem d_Mo_fault_219 : decode b_Mo_fault 219 = .ok (.iconst (4), 1) := by decide +kernel
theorem d_Mo_fault_220 : decode b_Mo_fault 220 = .ok (.invokevirtual 68, 3) := by decide +kernel
theorem d_Mo_fault_223 : decode b_Mo_fault 223 = .ok (.ifCond .eq (24), 3) := by decide +kernel
theorem d_Mo_fault_226 : decode b_Mo_fault 226 = .ok (.aload_n 0, 1) := by decide +kernel
theorem d_Mo_fault_227 : decode b_Mo_fault 227 = .ok (.iconst (5), 1) := by decide +kernel
theorem d_Mo_fault_228 : decode b_Mo_fault 228 = .ok (.invokevirtual 68, 3) := by decide +kernel
theorem d_Mo_fault_231 : decode b_Mo_fault 231 = .ok (.ifCond .eq (16), 3) := by decide +kernel
theorem d_Mo_fault_234 : decode b_Mo_fault 234 = .ok (.aload_n 0, 1) := by decide +kernel
theorem d_Mo_fault_235 : decode b_Mo_fault 235 = .ok (.getfield 7, 3) := by decide +kernel
theorem d_Mo_fault_238 : decode b_Mo_fault 238 = .ok (.iconst (4), 1) := by decide +kernel
theorem d_Mo_fault_239 : decode b_Mo_fault 239 = .ok (.iaload, 1) := by decide +kernel
theorem d_Mo_fault_240 : decode b_Mo_fault 240 = .ok (.ifCond .ne (7), 3) := by decide +kernel
theorem d_Mo_fault_243 : decode b_Mo_fault 243 = .ok (.iconst (1), 1) := by decide +kernel
theorem d_Mo_fault_244 : decode b_Mo_fault 244 = .ok (.goto (4), 3) := by decide +kernel
theorem d_Mo_fault_247 : decode b_Mo_fault 247 = .ok (.iconst (0), 1) := by decide +kernel
theorem d_Mo_fault_248 : decode b_Mo_fault 248 = .ok (.istore_n 2, 1) := by decide +kernel
theorem d_Mo_fault_249 : decode b_Mo_fault 249 = .ok (.aload_n 0, 1) := by decide +kernel
theorem d_Mo_fault_250 : decode b_Mo_fault 250 = .ok (.getfield 7, 3) := by decide +kernel
theorem d_Mo_fault_253 : decode b_Mo_fault 253 = .ok (.iconst (3), 1) := by decide +kernel
theorem d_Mo_fault_254 : decode b_Mo_fault 254 = .ok (.iaload, 1) := by decide +kernel
theorem d_Mo_fault_255 : decode b_Mo_fault 255 = .ok (.iconst (1), 1) := by decide +kernel
theorem d_Mo_fault_256 : decode b_Mo_fault 256 = .ok (.if_icmp .ne (11), 3) := by decide +kernel
theorem d_Mo_fault_259 : decode b_Mo_fault 259 = .ok (.aload_n 0, 1) := by decide +kernel
theorem d_Mo_fault_260 : decode b_Mo_fault 260 = .ok (.iconst (1), 1) := by decide +kernel
theorem d_Mo_fault_261 : decode b_Mo_fault 261 = .ok (.invokevirtual 68, 3) := by decide +kernel
theorem d_Mo_fault_264 : decode b_Mo_fault 264 = .ok (.goto (21), 3) := by decide +kernel
theorem d_Mo_fault_267 : decode b_Mo_fault 267 = .ok (.aload_n 0, 1) := by decide +kernel
theorem d_Mo_fault_268 : decode b_Mo_fault 268 = .ok (.bipush (6), 2) := by decide +kernel
theorem d_Mo_fault_270 : decode b_Mo_fault 270 = .ok (.invokevirtual 68, 3) := by decide +kernel
theorem d_Mo_fault_273 : decode b_Mo_fault 273 = .ok (.ifCond .ne (7), 3) := by decide +kernel
theorem d_Mo_fault_276 : decode b_Mo_fault 276 = .ok (.iload_n 2, 1) := by decide +kernel
theorem d_Mo_fault_277 : decode b_Mo_fault 277 = .ok (.ifCond .eq (7), 3) := by decide +kernel
theorem d_Mo_fault_280 : decode b_Mo_fault 280 = .ok (.iconst (1), 1) := by decide +kernel
theorem d_Mo_fault_281 : decode b_Mo_fault 281 = .ok (.goto (4), 3) := by decide +kernel
theorem d_Mo_fault_284 : decode b_Mo_fault 284 = .ok (.iconst (0), 1) := by decide +kernel
theorem d_Mo_fault_285 : decode b_Mo_fault 285 = .ok (.istore_n 3, 1) := by decide +kernel
theorem d_Mo_fault_286 : decode b_Mo_fault 286 = .ok (.iload_n 3, 1) := by decide +kernel
theorem d_Mo_fault_287 : decode b_Mo_fault 287 = .ok (.ifCond .eq (7), 3) := by decide +kernel
theorem d_Mo_fault_290 : decode b_Mo_fault 290 = .ok (.iconst (0), 1) := by decide +kernel
theorem d_Mo_fault_291 : decode b_Mo_fault 291 = .ok (.goto (6), 3) := by decide +kernel
theorem d_Mo_fault_294 : decode b_Mo_fault 294 = .ok (.sipush (9003), 3) := by decide +kernel
theorem d_Mo_fault_297 : decode b_Mo_fault 297 = .ok (.ireturn, 1) := by decide +kernel
theorem d_Mo_parse_0 : decode b_Mo_parse 0 = .ok (.aload_n 0, 1) := by decide +kernel
theorem d_Mo_parse_1 : decode b_Mo_parse 1 = .ok (.getfield 72, 3) := by decide +kernel
theorem d_Mo_parse_4 : decode b_Mo_parse 4 = .ok (.bipush (6), 2) := by decide +kernel
theorem d_Mo_parse_6 : decode b_Mo_parse 6 = .ok (.if_icmp .ne (6), 3) := by decide +kernel
theorem d_Mo_parse_9 : decode b_Mo_parse 9 = .ok (.bipush (-8), 2) := by decide +kernel
theorem d_Mo_parse_11 : decode b_Mo_parse 11 = .ok (.ireturn, 1) := by decide +kernel
theorem d_Mo_parse_12 : decode b_Mo_parse 12 = .ok (.aload_n 0, 1) := by decide +kernel
theorem d_Mo_parse_13 : decode b_Mo_parse 13 = .ok (.invokevirtual 75, 3) := by decide +kernel
theorem d_Mo_parse_16 : decode b_Mo_parse 16 = .ok (.istore_n 1, 1) := by decide +kernel
theorem d_Mo_parse_17 : decode b_Mo_parse 17 = .ok (.iload_n 1, 1) := by decide +kernel
theorem d_Mo_parse_18 : decode b_Mo_parse 18 = .ok (.ifCond .le (6), 3) := by decide +kernel
theorem d_Mo_parse_21 : decode b_Mo_parse 21 = .ok (.iload_n 1, 1) := by decide +kernel
theorem d_Mo_parse_22 : decode b_Mo_parse 22 = .ok (.ineg, 1) := by decide +kernel
theorem d_Mo_parse_23 : decode b_Mo_parse 23 = .ok (.ireturn, 1) := by decide +kernel
theorem d_Mo_parse_24 : decode b_Mo_parse 24 = .ok (.iconst (0), 1) := by decide +kernel
theorem d_Mo_parse_25 : decode b_Mo_parse 25 = .ok (.istore_n 2, 1) := by decide +kernel
theorem d_Mo_parse_26 : decode b_Mo_parse 26 = .ok (.iload_n 2, 1) := by decide +kernel
theorem d_Mo_parse_27 : decode b_Mo_parse 27 = .ok (.aload_n 0, 1) := by decide +kernel
theorem d_Mo_parse_28 : decode b_Mo_parse 28 = .ok (.getfield 60, 3) := by decide +kernel
theorem d_Mo_parse_31 : decode b_Mo_parse 31 = .ok (.if_icmp .ge (30), 3) := by decide +kernel
theorem d_Mo_parse_34 : decode b_Mo_parse 34 = .ok (.aload_n 0, 1) := by decide +kernel
theorem d_Mo_parse_35 : decode b_Mo_parse 35 = .ok (.getfield 13, 3) := by decide +kernel
theorem d_Mo_parse_38 : decode b_Mo_parse 38 = .ok (.sipush (256), 3) := by decide +kernel
theorem d_Mo_parse_41 : decode b_Mo_parse 41 = .ok (.aload_n 0, 1) := by decide +kernel
theorem d_Mo_parse_42 : decode b_Mo_parse 42 = .ok (.getfield 72, 3) := by decide +kernel
theorem d_Mo_parse_45 : decode b_Mo_parse 45 = .ok (.imul, 1) := by decide +kernel
theorem d_Mo_parse_46 : decode b_Mo_parse 46 = .ok (.iload_n 2, 1) := by decide +kernel
theorem d_Mo_parse_47 : decode b_Mo_parse 47 = .ok (.iadd, 1) := by decide +kernel
theorem d_Mo_parse_48 : decode b_Mo_parse 48 = .ok (.aload_n 0, 1) := by decide +kernel
theorem d_Mo_parse_49 : decode b_Mo_parse 49 = .ok (.getfield 7, 3) := by decide +kernel
theorem d_Mo_parse_52 : decode b_Mo_parse 52 = .ok (.iload_n 2, 1) := by decide +kernel
theorem d_Mo_parse_53 : decode b_Mo_parse 53 = .ok (.iaload, 1) := by decide +kernel
theorem d_Mo_parse_54 : decode b_Mo_parse 54 = .ok (.iastore, 1) := by decide +kernel
theorem d_Mo_parse_55 : decode b_Mo_parse 55 = .ok (.iinc 2 (1), 3) := by decide +kernel
theorem d_Mo_parse_58 : decode b_Mo_parse 58 = .ok (.goto (-32), 3) := by decide +kernel
theorem d_Mo_parse_61 : decode b_Mo_parse 61 = .ok (.aload_n 0, 1) := by decide +kernel
theorem d_Mo_parse_62 : decode b_Mo_parse 62 = .ok (.dup, 1) := by decide +kernel
theorem d_Mo_parse_63 : decode b_Mo_parse 63 = .ok (.getfield 72, 3) := by decide +kernel
theorem d_Mo_parse_66 : decode b_Mo_parse 66 = .ok (.iconst (1), 1) := by decide +kernel
theorem d_Mo_parse_67 : decode b_Mo_parse 67 = .ok (.iadd, 1) := by decide +kernel
theorem d_Mo_parse_68 : decode b_Mo_parse 68 = .ok (.putfield 72, 3) := by decide +kernel
theorem d_Mo_parse_71 : decode b_Mo_parse 71 = .ok (.aload_n 0, 1) := by decide +kernel
theorem d_Mo_parse_72 : decode b_Mo_parse 72 = .ok (.getfield 72, 3) := by decide +kernel
theorem d_Mo_parse_75 : decode b_Mo_parse 75 = .ok (.iconst (1), 1) := by decide +kernel
theorem d_Mo_parse_76 : decode b_Mo_parse 76 = .ok (.isub, 1) := by decide +kernel
theorem d_Mo_parse_77 : decode b_Mo_parse 77 = .ok (.ireturn, 1) := by decide +kernel
theorem d_CL_profiles_0 : decode b_CL_profiles 0 = .ok (.aload_n 0, 1) := by decide +kernel
theorem d_CL_profiles_1 : decode b_CL_profiles 1 = .ok (.getfield 65, 3) := by decide +kernel
theorem d_CL_profiles_4 : decode b_CL_profiles 4 = .ok (.ireturn, 1) := by decide +kernel
theorem d_Mo_profiles_0 : decode b_Mo_profiles 0 = .ok (.aload_n 0, 1) := by decide +kernel
theorem d_Mo_profiles_1 : decode b_Mo_profiles 1 = .ok (.getfield 72, 3) := by decide +kernel
theorem d_Mo_profiles_4 : decode b_Mo_profiles 4 = .ok (.ireturn, 1) := by decide +kernel
theorem d_CL_profileAt_0 : decode b_CL_profileAt 0 = .ok (.iload_n 1, 1) := by decide +kernel
theorem d_CL_profileAt_1 : decode b_CL_profileAt 1 = .ok (.ifCond .lt (20), 3) := by decide +kernel
theorem d_CL_profileAt_4 : decode b_CL_profileAt 4 = .ok (.iload_n 1, 1) := by decide +kernel
theorem d_CL_profileAt_5 : decode b_CL_profileAt 5 = .ok (.aload_n 0, 1) := by decide +kernel
theorem d_CL_profileAt_6 : decode b_CL_profileAt 6 = .ok (.getfield 65, 3) := by decide +kernel
theorem d_CL_profileAt_9 : decode b_CL_profileAt 9 = .ok (.if_icmp .ge (12), 3) := by decide +kernel
theorem d_CL_profileAt_12 : decode b_CL_profileAt 12 = .ok (.aload_n 0, 1) := by decide +kernel
theorem d_CL_profileAt_13 : decode b_CL_profileAt 13 = .ok (.getfield 18, 3) := by decide +kernel
theorem d_CL_profileAt_16 : decode b_CL_profileAt 16 = .ok (.iload_n 1, 1) := by decide +kernel
theorem d_CL_profileAt_17 : decode b_CL_profileAt 17 = .ok (.aaload, 1) := by decide +kernel
theorem d_CL_profileAt_18 : decode b_CL_profileAt 18 = .ok (.goto (4), 3) := by decide +kernel
theorem d_CL_profileAt_21 : decode b_CL_profileAt 21 = .ok (.aconst_null, 1) := by decide +kernel
theorem d_CL_profileAt_22 : decode b_CL_profileAt 22 = .ok (.areturn, 1) := by decide +kernel
theorem d_CL_elements_0 : decode b_CL_elements 0 = .ok (.aload_n 0, 1) := by decide +kernel
theorem d_CL_elements_1 : decode b_CL_elements 1 = .ok (.iload_n 1, 1) := by decide +kernel
theorem d_CL_elements_2 : decode b_CL_elements 2 = .ok (.invokevirtual 85, 3) := by decide +kernel
theorem d_CL_elements_5 : decode b_CL_elements 5 = .ok (.astore_n 2, 1) := by decide +kernel
theorem d_CL_elements_6 : decode b_CL_elements 6 = .ok (.aload_n 2, 1) := by decide +kernel
theorem d_CL_elements_7 : decode b_CL_elements 7 = .ok (.ifnonnull (7), 3) := by decide +kernel
theorem d_CL_elements_10 : decode b_CL_elements 10 = .ok (.iconst (-1), 1) := by decide +kernel
theorem d_CL_elements_11 : decode b_CL_elements 11 = .ok (.goto (7), 3) := by decide +kernel
theorem d_CL_elements_14 : decode b_CL_elements 14 = .ok (.aload_n 2, 1) := by decide +kernel
theorem d_CL_elements_15 : decode b_CL_elements 15 = .ok (.getfield 89, 3) := by decide +kernel
theorem d_CL_elements_18 : decode b_CL_elements 18 = .ok (.ireturn, 1) := by decide +kernel
theorem d_Mo_there_0 : decode b_Mo_there 0 = .ok (.iload_n 1, 1) := by decide +kernel
theorem d_Mo_there_1 : decode b_Mo_there 1 = .ok (.ifCond .lt (15), 3) := by decide +kernel
theorem d_Mo_there_4 : decode b_Mo_there 4 = .ok (.iload_n 1, 1) := by decide +kernel
theorem d_Mo_there_5 : decode b_Mo_there 5 = .ok (.aload_n 0, 1) := by decide +kernel
theorem d_Mo_there_6 : decode b_Mo_there 6 = .ok (.getfield 72, 3) := by decide +kernel
theorem d_Mo_there_9 : decode b_Mo_there 9 = .ok (.if_icmp .ge (7), 3) := by decide +kernel
theorem d_Mo_there_12 : decode b_Mo_there 12 = .ok (.iconst (1), 1) := by decide +kernel
theorem d_Mo_there_13 : decode b_Mo_there 13 = .ok (.goto (4), 3) := by decide +kernel
theorem d_Mo_there_16 : decode b_Mo_there 16 = .ok (.iconst (0), 1) := by decide +kernel
theorem d_Mo_there_17 : decode b_Mo_there 17 = .ok (.ireturn, 1) := by decide +kernel
theorem d_Mo_part_0 : decode b_Mo_part 0 = .ok (.aload_n 0, 1) := by decide +kernel
theorem d_Mo_part_1 : decode b_Mo_part 1 = .ok (.getfield 13, 3) := by decide +kernel
theorem d_Mo_part_4 : decode b_Mo_part 4 = .ok (.sipush (256), 3) := by decide +kernel
theorem d_Mo_part_7 : decode b_Mo_part 7 = .ok (.iload_n 1, 1) := by decide +kernel
theorem d_Mo_part_8 : decode b_Mo_part 8 = .ok (.imul, 1) := by decide +kernel
theorem d_Mo_part_9 : decode b_Mo_part 9 = .ok (.iload_n 2, 1) := by decide +kernel
theorem d_Mo_part_10 : decode b_Mo_part 10 = .ok (.iadd, 1) := by decide +kernel
theorem d_Mo_part_11 : decode b_Mo_part 11 = .ok (.iaload, 1) := by decide +kernel
theorem d_Mo_part_12 : decode b_Mo_part 12 = .ok (.ireturn, 1) := by decide +kernel
theorem d_Mo_entry_0 : decode b_Mo_entry 0 = .ok (.aload_n 0, 1) := by decide +kernel
theorem d_Mo_entry_1 : decode b_Mo_entry 1 = .ok (.iload_n 1, 1) := by decide +kernel
theorem d_Mo_entry_2 : decode b_Mo_entry 2 = .ok (.bipush (6), 2) := by decide +kernel
theorem d_Mo_entry_4 : decode b_Mo_entry 4 = .ok (.invokevirtual 79, 3) := by decide +kernel
theorem d_Mo_entry_7 : decode b_Mo_entry 7 = .ok (.istore_n 3, 1) := by decide +kernel
theorem d_Mo_entry_8 : decode b_Mo_entry 8 = .ok (.iconst (0), 1) := by decide +kernel
theorem d_Mo_entry_9 : decode b_Mo_entry 9 = .ok (.istore 4, 2) := by decide +kernel
theorem d_Mo_entry_11 : decode b_Mo_entry 11 = .ok (.iload 4, 2) := by decide +kernel
theorem d_Mo_entry_13 : decode b_Mo_entry 13 = .ok (.iload_n 3, 1) := by decide +kernel
theorem d_Mo_entry_14 : decode b_Mo_entry 14 = .ok (.if_icmp .ge (39), 3) := by decide +kernel
theorem d_Mo_entry_17 : decode b_Mo_entry 17 = .ok (.aload_n 0, 1) := by decide +kernel
theorem d_Mo_entry_18 : decode b_Mo_entry 18 = .ok (.getfield 13, 3) := by decide +kernel
theorem d_Mo_entry_21 : decode b_Mo_entry 21 = .ok (.sipush (256), 3) := by decide +kernel
theorem d_Mo_entry_24 : decode b_Mo_entry 24 = .ok (.iload_n 1, 1) := by decide +kernel
theorem d_Mo_entry_25 : decode b_Mo_entry 25 = .ok (.imul, 1) := by decide +kernel
theorem d_Mo_entry_26 : decode b_Mo_entry 26 = .ok (.bipush (8), 2) := by decide +kernel
theorem d_Mo_entry_28 : decode b_Mo_entry 28 = .ok (.iadd, 1) := by decide +kernel
theorem d_Mo_entry_29 : decode b_Mo_entry 29 = .ok (.iconst (4), 1) := by decide +kernel
theorem d_Mo_entry_30 : decode b_Mo_entry 30 = .ok (.iload 4, 2) := by decide +kernel
theorem d_Mo_entry_32 : decode b_Mo_entry 32 = .ok (.imul, 1) := by decide +kernel
theorem d_Mo_entry_33 : decode b_Mo_entry 33 = .ok (.iadd, 1) := by decide +kernel
theorem d_Mo_entry_34 : decode b_Mo_entry 34 = .ok (.iaload, 1) := by decide +kernel
theorem d_Mo_entry_35 : decode b_Mo_entry 35 = .ok (.iload_n 2, 1) := by decide +kernel
theorem d_Mo_entry_36 : decode b_Mo_entry 36 = .ok (.if_icmp .ne (11), 3) := by decide +kernel
theorem d_Mo_entry_39 : decode b_Mo_entry 39 = .ok (.bipush (8), 2) := by decide +kernel
theorem d_Mo_entry_41 : decode b_Mo_entry 41 = .ok (.iconst (4), 1) := by decide +kernel
theorem d_Mo_entry_42 : decode b_Mo_entry 42 = .ok (.iload 4, 2) := by decide +kernel
theorem d_Mo_entry_44 : decode b_Mo_entry 44 = .ok (.imul, 1) := by decide +kernel
theorem d_Mo_entry_45 : decode b_Mo_entry 45 = .ok (.iadd, 1) := by decide +kernel
theorem d_Mo_entry_46 : decode b_Mo_entry 46 = .ok (.ireturn, 1) := by decide +kernel
theorem d_Mo_entry_47 : decode b_Mo_entry 47 = .ok (.iinc 4 (1), 3) := by decide +kernel
theorem d_Mo_entry_50 : decode b_Mo_entry 50 = .ok (.goto (-39), 3) := by decide +kernel
theorem d_Mo_entry_53 : decode b_Mo_entry 53 = .ok (.iconst (-1), 1) := by decide +kernel
theorem d_Mo_entry_54 : decode b_Mo_entry 54 = .ok (.ireturn, 1) := by decide +kernel
theorem d_Mo_data_0 : decode b_Mo_data 0 = .ok (.aload_n 0, 1) := by decide +kernel
theorem d_Mo_data_1 : decode b_Mo_data 1 = .ok (.iload_n 1, 1) := by decide +kernel
theorem d_Mo_data_2 : decode b_Mo_data 2 = .ok (.iload_n 2, 1) := by decide +kernel
theorem d_Mo_data_3 : decode b_Mo_data 3 = .ok (.invokevirtual 82, 3) := by decide +kernel
theorem d_Mo_data_6 : decode b_Mo_data 6 = .ok (.istore_n 3, 1) := by decide +kernel
theorem d_Mo_data_7 : decode b_Mo_data 7 = .ok (.iload_n 3, 1) := by decide +kernel
theorem d_Mo_data_8 : decode b_Mo_data 8 = .ok (.ifCond .ge (7), 3) := by decide +kernel
theorem d_Mo_data_11 : decode b_Mo_data 11 = .ok (.iconst (-1), 1) := by decide +kernel
theorem d_Mo_data_12 : decode b_Mo_data 12 = .ok (.goto (11), 3) := by decide +kernel
theorem d_Mo_data_15 : decode b_Mo_data 15 = .ok (.aload_n 0, 1) := by decide +kernel
theorem d_Mo_data_16 : decode b_Mo_data 16 = .ok (.iload_n 1, 1) := by decide +kernel
theorem d_Mo_data_17 : decode b_Mo_data 17 = .ok (.iload_n 3, 1) := by decide +kernel
theorem d_Mo_data_18 : decode b_Mo_data 18 = .ok (.iconst (1), 1) := by decide +kernel
theorem d_Mo_data_19 : decode b_Mo_data 19 = .ok (.iadd, 1) := by decide +kernel
theorem d_Mo_data_20 : decode b_Mo_data 20 = .ok (.invokevirtual 79, 3) := by decide +kernel
theorem d_Mo_data_23 : decode b_Mo_data 23 = .ok (.ireturn, 1) := by decide +kernel
