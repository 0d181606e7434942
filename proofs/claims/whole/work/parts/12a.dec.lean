theorem d_Buffer_entryFault_0 : decode b_Buffer_entryFault 0 = .ok (.bipush (8), 2) := by decide +kernel
theorem d_Buffer_entryFault_2 : decode b_Buffer_entryFault 2 = .ok (.iconst (4), 1) := by decide +kernel
theorem d_Buffer_entryFault_3 : decode b_Buffer_entryFault 3 = .ok (.iload_n 1, 1) := by decide +kernel
theorem d_Buffer_entryFault_4 : decode b_Buffer_entryFault 4 = .ok (.imul, 1) := by decide +kernel
theorem d_Buffer_entryFault_5 : decode b_Buffer_entryFault 5 = .ok (.iadd, 1) := by decide +kernel
theorem d_Buffer_entryFault_6 : decode b_Buffer_entryFault 6 = .ok (.istore_n 2, 1) := by decide +kernel
theorem d_Buffer_entryFault_7 : decode b_Buffer_entryFault 7 = .ok (.aload_n 0, 1) := by decide +kernel
theorem d_Buffer_entryFault_8 : decode b_Buffer_entryFault 8 = .ok (.getfield 9, 3) := by decide +kernel
theorem d_Buffer_entryFault_11 : decode b_Buffer_entryFault 11 = .ok (.iload_n 2, 1) := by decide +kernel
theorem d_Buffer_entryFault_12 : decode b_Buffer_entryFault 12 = .ok (.iaload, 1) := by decide +kernel
theorem d_Buffer_entryFault_13 : decode b_Buffer_entryFault 13 = .ok (.istore_n 3, 1) := by decide +kernel
theorem d_Buffer_entryFault_14 : decode b_Buffer_entryFault 14 = .ok (.aload_n 0, 1) := by decide +kernel
theorem d_Buffer_entryFault_15 : decode b_Buffer_entryFault 15 = .ok (.getfield 9, 3) := by decide +kernel
theorem d_Buffer_entryFault_18 : decode b_Buffer_entryFault 18 = .ok (.iload_n 2, 1) := by decide +kernel
theorem d_Buffer_entryFault_19 : decode b_Buffer_entryFault 19 = .ok (.iconst (1), 1) := by decide +kernel
theorem d_Buffer_entryFault_20 : decode b_Buffer_entryFault 20 = .ok (.iadd, 1) := by decide +kernel
theorem d_Buffer_entryFault_21 : decode b_Buffer_entryFault 21 = .ok (.iaload, 1) := by decide +kernel
theorem d_Buffer_entryFault_22 : decode b_Buffer_entryFault 22 = .ok (.istore 4, 2) := by decide +kernel
theorem d_Buffer_entryFault_24 : decode b_Buffer_entryFault 24 = .ok (.aload_n 0, 1) := by decide +kernel
theorem d_Buffer_entryFault_25 : decode b_Buffer_entryFault 25 = .ok (.getfield 9, 3) := by decide +kernel
theorem d_Buffer_entryFault_28 : decode b_Buffer_entryFault 28 = .ok (.iload_n 2, 1) := by decide +kernel
theorem d_Buffer_entryFault_29 : decode b_Buffer_entryFault 29 = .ok (.iconst (2), 1) := by decide +kernel
theorem d_Buffer_entryFault_30 : decode b_Buffer_entryFault 30 = .ok (.iadd, 1) := by decide +kernel
theorem d_Buffer_entryFault_31 : decode b_Buffer_entryFault 31 = .ok (.iaload, 1) := by decide +kernel
theorem d_Buffer_entryFault_32 : decode b_Buffer_entryFault 32 = .ok (.istore 5, 2) := by decide +kernel
theorem d_Buffer_entryFault_34 : decode b_Buffer_entryFault 34 = .ok (.iload_n 3, 1) := by decide +kernel
theorem d_Buffer_entryFault_35 : decode b_Buffer_entryFault 35 = .ok (.iconst (1), 1) := by decide +kernel
theorem d_Buffer_entryFault_36 : decode b_Buffer_entryFault 36 = .ok (.if_icmp .lt (18), 3) := by decide +kernel
theorem d_Buffer_entryFault_39 : decode b_Buffer_entryFault 39 = .ok (.iload_n 3, 1) := by decide +kernel
theorem d_Buffer_entryFault_40 : decode b_Buffer_entryFault 40 = .ok (.bipush (12), 2) := by decide +kernel
theorem d_Buffer_entryFault_42 : decode b_Buffer_entryFault 42 = .ok (.if_icmp .gt (12), 3) := by decide +kernel
theorem d_Buffer_entryFault_45 : decode b_Buffer_entryFault 45 = .ok (.aload_n 0, 1) := by decide +kernel
theorem d_Buffer_entryFault_46 : decode b_Buffer_entryFault 46 = .ok (.iload_n 3, 1) := by decide +kernel
theorem d_Buffer_entryFault_47 : decode b_Buffer_entryFault 47 = .ok (.iload_n 1, 1) := by decide +kernel
theorem d_Buffer_entryFault_48 : decode b_Buffer_entryFault 48 = .ok (.invokevirtual 54, 3) := by decide +kernel
theorem d_Buffer_entryFault_51 : decode b_Buffer_entryFault 51 = .ok (.ifCond .eq (9), 3) := by decide +kernel
theorem d_Buffer_entryFault_54 : decode b_Buffer_entryFault 54 = .ok (.iconst (3), 1) := by decide +kernel
theorem d_Buffer_entryFault_55 : decode b_Buffer_entryFault 55 = .ok (.iload_n 2, 1) := by decide +kernel
theorem d_Buffer_entryFault_56 : decode b_Buffer_entryFault 56 = .ok (.invokestatic 35, 3) := by decide +kernel
theorem d_Buffer_entryFault_59 : decode b_Buffer_entryFault 59 = .ok (.ireturn, 1) := by decide +kernel
theorem d_Buffer_entryFault_60 : decode b_Buffer_entryFault 60 = .ok (.iload 4, 2) := by decide +kernel
theorem d_Buffer_entryFault_62 : decode b_Buffer_entryFault 62 = .ok (.iconst (4), 1) := by decide +kernel
theorem d_Buffer_entryFault_63 : decode b_Buffer_entryFault 63 = .ok (.irem, 1) := by decide +kernel
theorem d_Buffer_entryFault_64 : decode b_Buffer_entryFault 64 = .ok (.ifCond .ne (38), 3) := by decide +kernel
theorem d_Buffer_entryFault_67 : decode b_Buffer_entryFault 67 = .ok (.iload 4, 2) := by decide +kernel
theorem d_Buffer_entryFault_69 : decode b_Buffer_entryFault 69 = .ok (.bipush (8), 2) := by decide +kernel
theorem d_Buffer_entryFault_71 : decode b_Buffer_entryFault 71 = .ok (.iconst (4), 1) := by decide +kernel
theorem d_Buffer_entryFault_72 : decode b_Buffer_entryFault 72 = .ok (.aload_n 0, 1) := by decide +kernel
theorem d_Buffer_entryFault_73 : decode b_Buffer_entryFault 73 = .ok (.getfield 9, 3) := by decide +kernel
theorem d_Buffer_entryFault_76 : decode b_Buffer_entryFault 76 = .ok (.bipush (6), 2) := by decide +kernel
theorem d_Buffer_entryFault_78 : decode b_Buffer_entryFault 78 = .ok (.iaload, 1) := by decide +kernel
theorem d_Buffer_entryFault_79 : decode b_Buffer_entryFault 79 = .ok (.imul, 1) := by decide +kernel
theorem d_Buffer_entryFault_80 : decode b_Buffer_entryFault 80 = .ok (.iadd, 1) := by decide +kernel
theorem d_Buffer_entryFault_81 : decode b_Buffer_entryFault 81 = .ok (.if_icmp .lt (21), 3) := by decide +kernel
theorem d_Buffer_entryFault_84 : decode b_Buffer_entryFault 84 = .ok (.iload 5, 2) := by decide +kernel
theorem d_Buffer_entryFault_86 : decode b_Buffer_entryFault 86 = .ok (.iconst (2), 1) := by decide +kernel
theorem d_Buffer_entryFault_87 : decode b_Buffer_entryFault 87 = .ok (.if_icmp .lt (15), 3) := by decide +kernel
theorem d_Buffer_entryFault_90 : decode b_Buffer_entryFault 90 = .ok (.iload 4, 2) := by decide +kernel
theorem d_Buffer_entryFault_92 : decode b_Buffer_entryFault 92 = .ok (.iload 5, 2) := by decide +kernel
theorem d_Buffer_entryFault_94 : decode b_Buffer_entryFault 94 = .ok (.iadd, 1) := by decide +kernel
theorem d_Buffer_entryFault_95 : decode b_Buffer_entryFault 95 = .ok (.aload_n 0, 1) := by decide +kernel
theorem d_Buffer_entryFault_96 : decode b_Buffer_entryFault 96 = .ok (.getfield 15, 3) := by decide +kernel
theorem d_Buffer_entryFault_99 : decode b_Buffer_entryFault 99 = .ok (.if_icmp .le (11), 3) := by decide +kernel
theorem d_Buffer_entryFault_102 : decode b_Buffer_entryFault 102 = .ok (.iconst (4), 1) := by decide +kernel
theorem d_Buffer_entryFault_103 : decode b_Buffer_entryFault 103 = .ok (.iload_n 2, 1) := by decide +kernel
theorem d_Buffer_entryFault_104 : decode b_Buffer_entryFault 104 = .ok (.iconst (1), 1) := by decide +kernel
theorem d_Buffer_entryFault_105 : decode b_Buffer_entryFault 105 = .ok (.iadd, 1) := by decide +kernel
theorem d_Buffer_entryFault_106 : decode b_Buffer_entryFault 106 = .ok (.invokestatic 35, 3) := by decide +kernel
theorem d_Buffer_entryFault_109 : decode b_Buffer_entryFault 109 = .ok (.ireturn, 1) := by decide +kernel
theorem d_Buffer_entryFault_110 : decode b_Buffer_entryFault 110 = .ok (.aload_n 0, 1) := by decide +kernel
theorem d_Buffer_entryFault_111 : decode b_Buffer_entryFault 111 = .ok (.getfield 9, 3) := by decide +kernel
theorem d_Buffer_entryFault_114 : decode b_Buffer_entryFault 114 = .ok (.iload_n 2, 1) := by decide +kernel
theorem d_Buffer_entryFault_115 : decode b_Buffer_entryFault 115 = .ok (.iconst (3), 1) := by decide +kernel
theorem d_Buffer_entryFault_116 : decode b_Buffer_entryFault 116 = .ok (.iadd, 1) := by decide +kernel
theorem d_Buffer_entryFault_117 : decode b_Buffer_entryFault 117 = .ok (.iaload, 1) := by decide +kernel
theorem d_Buffer_entryFault_118 : decode b_Buffer_entryFault 118 = .ok (.ifCond .eq (11), 3) := by decide +kernel
theorem d_Buffer_entryFault_121 : decode b_Buffer_entryFault 121 = .ok (.iconst (5), 1) := by decide +kernel
theorem d_Buffer_entryFault_122 : decode b_Buffer_entryFault 122 = .ok (.iload_n 2, 1) := by decide +kernel
theorem d_Buffer_entryFault_123 : decode b_Buffer_entryFault 123 = .ok (.iconst (3), 1) := by decide +kernel
theorem d_Buffer_entryFault_124 : decode b_Buffer_entryFault 124 = .ok (.iadd, 1) := by decide +kernel
theorem d_Buffer_entryFault_125 : decode b_Buffer_entryFault 125 = .ok (.invokestatic 35, 3) := by decide +kernel
theorem d_Buffer_entryFault_128 : decode b_Buffer_entryFault 128 = .ok (.ireturn, 1) := by decide +kernel
theorem d_Buffer_entryFault_129 : decode b_Buffer_entryFault 129 = .ok (.aload_n 0, 1) := by decide +kernel
theorem d_Buffer_entryFault_130 : decode b_Buffer_entryFault 130 = .ok (.iload_n 1, 1) := by decide +kernel
theorem d_Buffer_entryFault_131 : decode b_Buffer_entryFault 131 = .ok (.iload 4, 2) := by decide +kernel
theorem d_Buffer_entryFault_133 : decode b_Buffer_entryFault 133 = .ok (.iload 5, 2) := by decide +kernel
theorem d_Buffer_entryFault_135 : decode b_Buffer_entryFault 135 = .ok (.invokevirtual 57, 3) := by decide +kernel
theorem d_Buffer_entryFault_138 : decode b_Buffer_entryFault 138 = .ok (.ifCond .eq (12), 3) := by decide +kernel
theorem d_Buffer_entryFault_141 : decode b_Buffer_entryFault 141 = .ok (.bipush (6), 2) := by decide +kernel
theorem d_Buffer_entryFault_143 : decode b_Buffer_entryFault 143 = .ok (.iload_n 2, 1) := by decide +kernel
theorem d_Buffer_entryFault_144 : decode b_Buffer_entryFault 144 = .ok (.iconst (1), 1) := by decide +kernel
theorem d_Buffer_entryFault_145 : decode b_Buffer_entryFault 145 = .ok (.iadd, 1) := by decide +kernel
theorem d_Buffer_entryFault_146 : decode b_Buffer_entryFault 146 = .ok (.invokestatic 35, 3) := by decide +kernel
theorem d_Buffer_entryFault_149 : decode b_Buffer_entryFault 149 = .ok (.ireturn, 1) := by decide +kernel
theorem d_Buffer_entryFault_150 : decode b_Buffer_entryFault 150 = .ok (.iload_n 3, 1) := by decide +kernel
theorem d_Buffer_entryFault_151 : decode b_Buffer_entryFault 151 = .ok (.aload_n 0, 1) := by decide +kernel
theorem d_Buffer_entryFault_152 : decode b_Buffer_entryFault 152 = .ok (.getfield 9, 3) := by decide +kernel
theorem d_Buffer_entryFault_155 : decode b_Buffer_entryFault 155 = .ok (.iload 4, 2) := by decide +kernel
theorem d_Buffer_entryFault_157 : decode b_Buffer_entryFault 157 = .ok (.iaload, 1) := by decide +kernel
theorem d_Buffer_entryFault_158 : decode b_Buffer_entryFault 158 = .ok (.invokestatic 61, 3) := by decide +kernel
theorem d_Buffer_entryFault_161 : decode b_Buffer_entryFault 161 = .ok (.ifCond .ne (11), 3) := by decide +kernel
theorem d_Buffer_entryFault_164 : decode b_Buffer_entryFault 164 = .ok (.bipush (7), 2) := by decide +kernel
theorem d_Buffer_entryFault_166 : decode b_Buffer_entryFault 166 = .ok (.iload 4, 2) := by decide +kernel
theorem d_Buffer_entryFault_168 : decode b_Buffer_entryFault 168 = .ok (.invokestatic 35, 3) := by decide +kernel
theorem d_Buffer_entryFault_171 : decode b_Buffer_entryFault 171 = .ok (.ireturn, 1) := by decide +kernel
theorem d_Buffer_entryFault_172 : decode b_Buffer_entryFault 172 = .ok (.aload_n 0, 1) := by decide +kernel
theorem d_Buffer_entryFault_173 : decode b_Buffer_entryFault 173 = .ok (.getfield 9, 3) := by decide +kernel
theorem d_Buffer_entryFault_176 : decode b_Buffer_entryFault 176 = .ok (.iload 4, 2) := by decide +kernel
theorem d_Buffer_entryFault_178 : decode b_Buffer_entryFault 178 = .ok (.iaload, 1) := by decide +kernel
theorem d_Buffer_entryFault_179 : decode b_Buffer_entryFault 179 = .ok (.aload_n 0, 1) := by decide +kernel
theorem d_Buffer_entryFault_180 : decode b_Buffer_entryFault 180 = .ok (.getfield 9, 3) := by decide +kernel
theorem d_Buffer_entryFault_183 : decode b_Buffer_entryFault 183 = .ok (.iload 4, 2) := by decide +kernel
theorem d_Buffer_entryFault_185 : decode b_Buffer_entryFault 185 = .ok (.iconst (1), 1) := by decide +kernel
theorem d_Buffer_entryFault_186 : decode b_Buffer_entryFault 186 = .ok (.iadd, 1) := by decide +kernel
theorem d_Buffer_entryFault_187 : decode b_Buffer_entryFault 187 = .ok (.iaload, 1) := by decide +kernel
theorem d_Buffer_entryFault_188 : decode b_Buffer_entryFault 188 = .ok (.iload 5, 2) := by decide +kernel
theorem d_Buffer_entryFault_190 : decode b_Buffer_entryFault 190 = .ok (.invokestatic 64, 3) := by decide +kernel
theorem d_Buffer_entryFault_193 : decode b_Buffer_entryFault 193 = .ok (.ifCond .ne (13), 3) := by decide +kernel
theorem d_Buffer_entryFault_196 : decode b_Buffer_entryFault 196 = .ok (.bipush (8), 2) := by decide +kernel
theorem d_Buffer_entryFault_198 : decode b_Buffer_entryFault 198 = .ok (.iload 4, 2) := by decide +kernel
theorem d_Buffer_entryFault_200 : decode b_Buffer_entryFault 200 = .ok (.iconst (1), 1) := by decide +kernel
theorem d_Buffer_entryFault_201 : decode b_Buffer_entryFault 201 = .ok (.iadd, 1) := by decide +kernel
theorem d_Buffer_entryFault_202 : decode b_Buffer_entryFault 202 = .ok (.invokestatic 35, 3) := by decide +kernel
theorem d_Buffer_entryFault_205 : decode b_Buffer_entryFault 205 = .ok (.ireturn, 1) := by decide +kernel
theorem d_Buffer_entryFault_206 : decode b_Buffer_entryFault 206 = .ok (.iconst (0), 1) := by decide +kernel
theorem d_Buffer_entryFault_207 : decode b_Buffer_entryFault 207 = .ok (.ireturn, 1) := by decide +kernel
theorem d_Buffer_hasWayForth_0 : decode b_Buffer_hasWayForth 0 = .ok (.aload_n 0, 1) := by decide +kernel
theorem d_Buffer_hasWayForth_1 : decode b_Buffer_hasWayForth 1 = .ok (.getfield 9, 3) := by decide +kernel
theorem d_Buffer_hasWayForth_4 : decode b_Buffer_hasWayForth 4 = .ok (.bipush (6), 2) := by decide +kernel
theorem d_Buffer_hasWayForth_6 : decode b_Buffer_hasWayForth 6 = .ok (.iaload, 1) := by decide +kernel
theorem d_Buffer_hasWayForth_7 : decode b_Buffer_hasWayForth 7 = .ok (.istore_n 1, 1) := by decide +kernel
theorem d_Buffer_hasWayForth_8 : decode b_Buffer_hasWayForth 8 = .ok (.aload_n 0, 1) := by decide +kernel
theorem d_Buffer_hasWayForth_9 : decode b_Buffer_hasWayForth 9 = .ok (.getfield 9, 3) := by decide +kernel
theorem d_Buffer_hasWayForth_12 : decode b_Buffer_hasWayForth 12 = .ok (.iconst (3), 1) := by decide +kernel
theorem d_Buffer_hasWayForth_13 : decode b_Buffer_hasWayForth 13 = .ok (.iaload, 1) := by decide +kernel
theorem d_Buffer_hasWayForth_14 : decode b_Buffer_hasWayForth 14 = .ok (.iconst (1), 1) := by decide +kernel
theorem d_Buffer_hasWayForth_15 : decode b_Buffer_hasWayForth 15 = .ok (.if_icmp .ne (10), 3) := by decide +kernel
theorem d_Buffer_hasWayForth_18 : decode b_Buffer_hasWayForth 18 = .ok (.aload_n 0, 1) := by decide +kernel
theorem d_Buffer_hasWayForth_19 : decode b_Buffer_hasWayForth 19 = .ok (.iconst (1), 1) := by decide +kernel
theorem d_Buffer_hasWayForth_20 : decode b_Buffer_hasWayForth 20 = .ok (.iload_n 1, 1) := by decide +kernel
theorem d_Buffer_hasWayForth_21 : decode b_Buffer_hasWayForth 21 = .ok (.invokevirtual 54, 3) := by decide +kernel
theorem d_Buffer_hasWayForth_24 : decode b_Buffer_hasWayForth 24 = .ok (.ireturn, 1) := by decide +kernel
theorem d_Buffer_hasWayForth_25 : decode b_Buffer_hasWayForth 25 = .ok (.aload_n 0, 1) := by decide +kernel
theorem d_Buffer_hasWayForth_26 : decode b_Buffer_hasWayForth 26 = .ok (.bipush (6), 2) := by decide +kernel
theorem d_Buffer_hasWayForth_28 : decode b_Buffer_hasWayForth 28 = .ok (.iload_n 1, 1) := by decide +kernel
theorem d_Buffer_hasWayForth_29 : decode b_Buffer_hasWayForth 29 = .ok (.invokevirtual 54, 3) := by decide +kernel
theorem d_Buffer_hasWayForth_32 : decode b_Buffer_hasWayForth 32 = .ok (.ifCond .ne (48), 3) := by decide +kernel
theorem d_Buffer_hasWayForth_35 : decode b_Buffer_hasWayForth 35 = .ok (.aload_n 0, 1) := by decide +kernel
theorem d_Buffer_hasWayForth_36 : decode b_Buffer_hasWayForth 36 = .ok (.getfield 9, 3) := by decide +kernel
theorem d_Buffer_hasWayForth_39 : decode b_Buffer_hasWayForth 39 = .ok (.iconst (4), 1) := by decide +kernel
theorem d_Buffer_hasWayForth_40 : decode b_Buffer_hasWayForth 40 = .ok (.iaload, 1) := by decide +kernel
theorem d_Buffer_hasWayForth_41 : decode b_Buffer_hasWayForth 41 = .ok (.ifCond .ne (43), 3) := by decide +kernel
theorem d_Buffer_hasWayForth_44 : decode b_Buffer_hasWayForth 44 = .ok (.aload_n 0, 1) := by decide +kernel
theorem d_Buffer_hasWayForth_45 : decode b_Buffer_hasWayForth 45 = .ok (.iconst (2), 1) := by decide +kernel
theorem d_Buffer_hasWayForth_46 : decode b_Buffer_hasWayForth 46 = .ok (.iload_n 1, 1) := by decide +kernel
theorem d_Buffer_hasWayForth_47 : decode b_Buffer_hasWayForth 47 = .ok (.invokevirtual 54, 3) := by decide +kernel
theorem d_Buffer_hasWayForth_50 : decode b_Buffer_hasWayForth 50 = .ok (.ifCond .eq (34), 3) := by decide +kernel
theorem d_Buffer_hasWayForth_53 : decode b_Buffer_hasWayForth 53 = .ok (.aload_n 0, 1) := by decide +kernel
theorem d_Buffer_hasWayForth_54 : decode b_Buffer_hasWayForth 54 = .ok (.iconst (3), 1) := by decide +kernel
theorem d_Buffer_hasWayForth_55 : decode b_Buffer_hasWayForth 55 = .ok (.iload_n 1, 1) := by decide +kernel
theorem d_Buffer_hasWayForth_56 : decode b_Buffer_hasWayForth 56 = .ok (.invokevirtual 54, 3) := by decide +kernel
theorem d_Buffer_hasWayForth_59 : decode b_Buffer_hasWayForth 59 = .ok (.ifCond .eq (25), 3) := by decide +kernel
theorem d_Buffer_hasWayForth_62 : decode b_Buffer_hasWayForth 62 = .ok (.aload_n 0, 1) := by decide +kernel
theorem d_Buffer_hasWayForth_63 : decode b_Buffer_hasWayForth 63 = .ok (.iconst (4), 1) := by decide +kernel
theorem d_Buffer_hasWayForth_64 : decode b_Buffer_hasWayForth 64 = .ok (.iload_n 1, 1) := by decide +kernel
theorem d_Buffer_hasWayForth_65 : decode b_Buffer_hasWayForth 65 = .ok (.invokevirtual 54, 3) := by decide +kernel
theorem d_Buffer_hasWayForth_68 : decode b_Buffer_hasWayForth 68 = .ok (.ifCond .eq (16), 3) := by decide +kernel
theorem d_Buffer_hasWayForth_71 : decode b_Buffer_hasWayForth 71 = .ok (.aload_n 0, 1) := by decide +kernel
theorem d_Buffer_hasWayForth_72 : decode b_Buffer_hasWayForth 72 = .ok (.iconst (5), 1) := by decide +kernel
theorem d_Buffer_hasWayForth_73 : decode b_Buffer_hasWayForth 73 = .ok (.iload_n 1, 1) := by decide +kernel
theorem d_Buffer_hasWayForth_74 : decode b_Buffer_hasWayForth 74 = .ok (.invokevirtual 54, 3) := by decide +kernel
theorem d_Buffer_hasWayForth_77 : decode b_Buffer_hasWayForth 77 = .ok (.ifCond .eq (7), 3) := by decide +kernel
theorem d_Buffer_hasWayForth_80 : decode b_Buffer_hasWayForth 80 = .ok (.iconst (1), 1) := by decide +kernel
theorem d_Buffer_hasWayForth_81 : decode b_Buffer_hasWayForth 81 = .ok (.goto (4), 3) := by decide +kernel
theorem d_Buffer_hasWayForth_84 : decode b_Buffer_hasWayForth 84 = .ok (.iconst (0), 1) := by decide +kernel
theorem d_Buffer_hasWayForth_85 : decode b_Buffer_hasWayForth 85 = .ok (.ireturn, 1) := by decide +kernel
theorem d_Buffer_fault_0 : decode b_Buffer_fault 0 = .ok (.aload_n 0, 1) := by decide +kernel
theorem d_Buffer_fault_1 : decode b_Buffer_fault 1 = .ok (.getfield 15, 3) := by decide +kernel
theorem d_Buffer_fault_4 : decode b_Buffer_fault 4 = .ok (.bipush (12), 2) := by decide +kernel
theorem d_Buffer_fault_6 : decode b_Buffer_fault 6 = .ok (.if_icmp .lt (27), 3) := by decide +kernel
theorem d_Buffer_fault_9 : decode b_Buffer_fault 9 = .ok (.aload_n 0, 1) := by decide +kernel
theorem d_Buffer_fault_10 : decode b_Buffer_fault 10 = .ok (.getfield 15, 3) := by decide +kernel
theorem d_Buffer_fault_13 : decode b_Buffer_fault 13 = .ok (.iconst (4), 1) := by decide +kernel
theorem d_Buffer_fault_14 : decode b_Buffer_fault 14 = .ok (.irem, 1) := by decide +kernel
theorem d_Buffer_fault_15 : decode b_Buffer_fault 15 = .ok (.ifCond .ne (18), 3) := by decide +kernel
theorem d_Buffer_fault_18 : decode b_Buffer_fault 18 = .ok (.aload_n 0, 1) := by decide +kernel
theorem d_Buffer_fault_19 : decode b_Buffer_fault 19 = .ok (.getfield 9, 3) := by decide +kernel
theorem d_Buffer_fault_22 : decode b_Buffer_fault 22 = .ok (.iconst (0), 1) := by decide +kernel
theorem d_Buffer_fault_23 : decode b_Buffer_fault 23 = .ok (.invokestatic 31, 3) := by decide +kernel
theorem d_Buffer_fault_26 : decode b_Buffer_fault 26 = .ok (.aload_n 0, 1) := by decide +kernel
theorem d_Buffer_fault_27 : decode b_Buffer_fault 27 = .ok (.getfield 15, 3) := by decide +kernel
theorem d_Buffer_fault_30 : decode b_Buffer_fault 30 = .ok (.if_icmp .eq (9), 3) := by decide +kernel
theorem d_Buffer_fault_33 : decode b_Buffer_fault 33 = .ok (.iconst (1), 1) := by decide +kernel
theorem d_Buffer_fault_34 : decode b_Buffer_fault 34 = .ok (.iconst (0), 1) := by decide +kernel
theorem d_Buffer_fault_35 : decode b_Buffer_fault 35 = .ok (.invokestatic 35, 3) := by decide +kernel
theorem d_Buffer_fault_38 : decode b_Buffer_fault 38 = .ok (.ireturn, 1) := by decide +kernel
theorem d_Buffer_fault_39 : decode b_Buffer_fault 39 = .ok (.aload_n 0, 1) := by decide +kernel
theorem d_Buffer_fault_40 : decode b_Buffer_fault 40 = .ok (.invokevirtual 38, 3) := by decide +kernel
theorem d_Buffer_fault_43 : decode b_Buffer_fault 43 = .ok (.istore_n 1, 1) := by decide +kernel
theorem d_Buffer_fault_44 : decode b_Buffer_fault 44 = .ok (.iconst (0), 1) := by decide +kernel
theorem d_Buffer_fault_45 : decode b_Buffer_fault 45 = .ok (.istore_n 2, 1) := by decide +kernel
theorem d_Buffer_fault_46 : decode b_Buffer_fault 46 = .ok (.iload_n 1, 1) := by decide +kernel
theorem d_Buffer_fault_47 : decode b_Buffer_fault 47 = .ok (.ifCond .ne (26), 3) := by decide +kernel
theorem d_Buffer_fault_50 : decode b_Buffer_fault 50 = .ok (.iload_n 2, 1) := by decide +kernel
theorem d_Buffer_fault_51 : decode b_Buffer_fault 51 = .ok (.aload_n 0, 1) := by decide +kernel
theorem d_Buffer_fault_52 : decode b_Buffer_fault 52 = .ok (.getfield 9, 3) := by decide +kernel
theorem d_Buffer_fault_55 : decode b_Buffer_fault 55 = .ok (.bipush (6), 2) := by decide +kernel
theorem d_Buffer_fault_57 : decode b_Buffer_fault 57 = .ok (.iaload, 1) := by decide +kernel
theorem d_Buffer_fault_58 : decode b_Buffer_fault 58 = .ok (.if_icmp .ge (15), 3) := by decide +kernel
theorem d_Buffer_fault_61 : decode b_Buffer_fault 61 = .ok (.aload_n 0, 1) := by decide +kernel
theorem d_Buffer_fault_62 : decode b_Buffer_fault 62 = .ok (.iload_n 2, 1) := by decide +kernel
theorem d_Buffer_fault_63 : decode b_Buffer_fault 63 = .ok (.invokevirtual 42, 3) := by decide +kernel
theorem d_Buffer_fault_66 : decode b_Buffer_fault 66 = .ok (.istore_n 1, 1) := by decide +kernel
theorem d_Buffer_fault_67 : decode b_Buffer_fault 67 = .ok (.iinc 2 (1), 3) := by decide +kernel
theorem d_Buffer_fault_70 : decode b_Buffer_fault 70 = .ok (.goto (-24), 3) := by decide +kernel
theorem d_Buffer_fault_73 : decode b_Buffer_fault 73 = .ok (.iload_n 1, 1) := by decide +kernel
theorem d_Buffer_fault_74 : decode b_Buffer_fault 74 = .ok (.ifCond .ne (17), 3) := by decide +kernel
theorem d_Buffer_fault_77 : decode b_Buffer_fault 77 = .ok (.aload_n 0, 1) := by decide +kernel
theorem d_Buffer_fault_78 : decode b_Buffer_fault 78 = .ok (.invokevirtual 46, 3) := by decide +kernel
theorem d_Buffer_fault_81 : decode b_Buffer_fault 81 = .ok (.ifCond .ne (10), 3) := by decide +kernel
theorem d_Buffer_fault_84 : decode b_Buffer_fault 84 = .ok (.bipush (9), 2) := by decide +kernel
theorem d_Buffer_fault_86 : decode b_Buffer_fault 86 = .ok (.iconst (3), 1) := by decide +kernel
theorem d_Buffer_fault_87 : decode b_Buffer_fault 87 = .ok (.invokestatic 35, 3) := by decide +kernel
theorem d_Buffer_fault_90 : decode b_Buffer_fault 90 = .ok (.istore_n 1, 1) := by decide +kernel
theorem d_Buffer_fault_91 : decode b_Buffer_fault 91 = .ok (.iload_n 1, 1) := by decide +kernel
theorem d_Buffer_fault_92 : decode b_Buffer_fault 92 = .ok (.ireturn, 1) := by decide +kernel
theorem d_Buffer_findData_0 : decode b_Buffer_findData 0 = .ok (.bipush (8), 2) := by decide +kernel
theorem d_Buffer_findData_2 : decode b_Buffer_findData 2 = .ok (.istore 5, 2) := by decide +kernel
theorem d_Buffer_findData_4 : decode b_Buffer_findData 4 = .ok (.iload 5, 2) := by decide +kernel
theorem d_Buffer_findData_6 : decode b_Buffer_findData 6 = .ok (.iload_n 2, 1) := by decide +kernel
theorem d_Buffer_findData_7 : decode b_Buffer_findData 7 = .ok (.if_icmp .ge (90), 3) := by decide +kernel
theorem d_Buffer_findData_10 : decode b_Buffer_findData 10 = .ok (.aload_n 1, 1) := by decide +kernel
theorem d_Buffer_findData_11 : decode b_Buffer_findData 11 = .ok (.iload 5, 2) := by decide +kernel
theorem d_Buffer_findData_13 : decode b_Buffer_findData 13 = .ok (.iconst (2), 1) := by decide +kernel
theorem d_Buffer_findData_14 : decode b_Buffer_findData 14 = .ok (.iadd, 1) := by decide +kernel
theorem d_Buffer_findData_15 : decode b_Buffer_findData 15 = .ok (.iaload, 1) := by decide +kernel
theorem d_Buffer_findData_16 : decode b_Buffer_findData 16 = .ok (.iload 4, 2) := by decide +kernel
theorem d_Buffer_findData_18 : decode b_Buffer_findData 18 = .ok (.if_icmp .ne (7), 3) := by decide +kernel
theorem d_Buffer_findData_21 : decode b_Buffer_findData 21 = .ok (.iconst (1), 1) := by decide +kernel
theorem d_Buffer_findData_22 : decode b_Buffer_findData 22 = .ok (.goto (4), 3) := by decide +kernel
theorem d_Buffer_findData_25 : decode b_Buffer_findData 25 = .ok (.iconst (0), 1) := by decide +kernel
theorem d_Buffer_findData_26 : decode b_Buffer_findData 26 = .ok (.istore 6, 2) := by decide +kernel
theorem d_Buffer_findData_28 : decode b_Buffer_findData 28 = .ok (.iconst (0), 1) := by decide +kernel
theorem d_Buffer_findData_29 : decode b_Buffer_findData 29 = .ok (.istore 7, 2) := by decide +kernel
theorem d_Buffer_findData_31 : decode b_Buffer_findData 31 = .ok (.iload 6, 2) := by decide +kernel
theorem d_Buffer_findData_33 : decode b_Buffer_findData 33 = .ok (.ifCond .eq (46), 3) := by decide +kernel
theorem d_Buffer_findData_36 : decode b_Buffer_findData 36 = .ok (.iload 7, 2) := by decide +kernel
theorem d_Buffer_findData_38 : decode b_Buffer_findData 38 = .ok (.iload 4, 2) := by decide +kernel
theorem d_Buffer_findData_40 : decode b_Buffer_findData 40 = .ok (.if_icmp .ge (39), 3) := by decide +kernel
theorem d_Buffer_findData_43 : decode b_Buffer_findData 43 = .ok (.aload_n 1, 1) := by decide +kernel
theorem d_Buffer_findData_44 : decode b_Buffer_findData 44 = .ok (.aload_n 1, 1) := by decide +kernel
theorem d_Buffer_findData_45 : decode b_Buffer_findData 45 = .ok (.iload 5, 2) := by decide +kernel
theorem d_Buffer_findData_47 : decode b_Buffer_findData 47 = .ok (.iconst (1), 1) := by decide +kernel
theorem d_Buffer_findData_48 : decode b_Buffer_findData 48 = .ok (.iadd, 1) := by decide +kernel
theorem d_Buffer_findData_49 : decode b_Buffer_findData 49 = .ok (.iaload, 1) := by decide +kernel
theorem d_Buffer_findData_50 : decode b_Buffer_findData 50 = .ok (.iload 7, 2) := by decide +kernel
theorem d_Buffer_findData_52 : decode b_Buffer_findData 52 = .ok (.iadd, 1) := by decide +kernel
theorem d_Buffer_findData_53 : decode b_Buffer_findData 53 = .ok (.iaload, 1) := by decide +kernel
theorem d_Buffer_findData_54 : decode b_Buffer_findData 54 = .ok (.aload_n 0, 1) := by decide +kernel
theorem d_Buffer_findData_55 : decode b_Buffer_findData 55 = .ok (.getfield 9, 3) := by decide +kernel
theorem d_Buffer_findData_58 : decode b_Buffer_findData 58 = .ok (.iload_n 3, 1) := by decide +kernel
theorem d_Buffer_findData_59 : decode b_Buffer_findData 59 = .ok (.iload 7, 2) := by decide +kernel
theorem d_Buffer_findData_61 : decode b_Buffer_findData 61 = .ok (.iadd, 1) := by decide +kernel
theorem d_Buffer_findData_62 : decode b_Buffer_findData 62 = .ok (.iaload, 1) := by decide +kernel
theorem d_Buffer_findData_63 : decode b_Buffer_findData 63 = .ok (.if_icmp .ne (7), 3) := by decide +kernel
theorem d_Buffer_findData_66 : decode b_Buffer_findData 66 = .ok (.iconst (1), 1) := by decide +kernel
theorem d_Buffer_findData_67 : decode b_Buffer_findData 67 = .ok (.goto (4), 3) := by decide +kernel
theorem d_Buffer_findData_70 : decode b_Buffer_findData 70 = .ok (.iconst (0), 1) := by decide +kernel
theorem d_Buffer_findData_71 : decode b_Buffer_findData 71 = .ok (.istore 6, 2) := by decide +kernel
theorem d_Buffer_findData_73 : decode b_Buffer_findData 73 = .ok (.iinc 7 (1), 3) := by decide +kernel
theorem d_Buffer_findData_76 : decode b_Buffer_findData 76 = .ok (.goto (-45), 3) := by decide +kernel
theorem d_Buffer_findData_79 : decode b_Buffer_findData 79 = .ok (.iload 6, 2) := by decide +kernel
theorem d_Buffer_findData_81 : decode b_Buffer_findData 81 = .ok (.ifCond .eq (10), 3) := by decide +kernel
theorem d_Buffer_findData_84 : decode b_Buffer_findData 84 = .ok (.aload_n 1, 1) := by decide +kernel
theorem d_Buffer_findData_85 : decode b_Buffer_findData 85 = .ok (.iload 5, 2) := by decide +kernel
theorem d_Buffer_findData_87 : decode b_Buffer_findData 87 = .ok (.iconst (1), 1) := by decide +kernel
theorem d_Buffer_findData_88 : decode b_Buffer_findData 88 = .ok (.iadd, 1) := by decide +kernel
theorem d_Buffer_findData_89 : decode b_Buffer_findData 89 = .ok (.iaload, 1) := by decide +kernel
theorem d_Buffer_findData_90 : decode b_Buffer_findData 90 = .ok (.ireturn, 1) := by decide +kernel
theorem d_Buffer_findData_91 : decode b_Buffer_findData 91 = .ok (.iinc 5 (4), 3) := by decide +kernel
theorem d_Buffer_findData_94 : decode b_Buffer_findData 94 = .ok (.goto (-90), 3) := by decide +kernel
theorem d_Buffer_findData_97 : decode b_Buffer_findData 97 = .ok (.iconst (0), 1) := by decide +kernel
theorem d_Buffer_findData_98 : decode b_Buffer_findData 98 = .ok (.ireturn, 1) := by decide +kernel
theorem d_Arrays_copyOf_0 : decode b_Arrays_copyOf 0 = .ok (.iload_n 1, 1) := by decide +kernel
theorem d_Arrays_copyOf_1 : decode b_Arrays_copyOf 1 = .ok (.aload_n 0, 1) := by decide +kernel
theorem d_Arrays_copyOf_2 : decode b_Arrays_copyOf 2 = .ok (.arraylength, 1) := by decide +kernel
theorem d_Arrays_copyOf_3 : decode b_Arrays_copyOf 3 = .ok (.if_icmp .ne (11), 3) := by decide +kernel
theorem d_Arrays_copyOf_6 : decode b_Arrays_copyOf 6 = .ok (.aload_n 0, 1) := by decide +kernel
theorem d_Arrays_copyOf_7 : decode b_Arrays_copyOf 7 = .ok (.invokevirtual 316, 3) := by decide +kernel
theorem d_Arrays_copyOf_10 : decode b_Arrays_copyOf 10 = .ok (.checkcast 317, 3) := by decide +kernel
theorem d_Arrays_copyOf_13 : decode b_Arrays_copyOf 13 = .ok (.areturn, 1) := by decide +kernel
theorem d_Arrays_copyOf_14 : decode b_Arrays_copyOf 14 = .ok (.iload_n 1, 1) := by decide +kernel
theorem d_Arrays_copyOf_15 : decode b_Arrays_copyOf 15 = .ok (.newarray .int, 2) := by decide +kernel
theorem d_Arrays_copyOf_17 : decode b_Arrays_copyOf 17 = .ok (.astore_n 2, 1) := by decide +kernel
theorem d_Arrays_copyOf_18 : decode b_Arrays_copyOf 18 = .ok (.aload_n 0, 1) := by decide +kernel
theorem d_Arrays_copyOf_19 : decode b_Arrays_copyOf 19 = .ok (.iconst (0), 1) := by decide +kernel
theorem d_Arrays_copyOf_20 : decode b_Arrays_copyOf 20 = .ok (.aload_n 2, 1) := by decide +kernel
theorem d_Arrays_copyOf_21 : decode b_Arrays_copyOf 21 = .ok (.iconst (0), 1) := by decide +kernel
theorem d_Arrays_copyOf_22 : decode b_Arrays_copyOf 22 = .ok (.aload_n 0, 1) := by decide +kernel
theorem d_Arrays_copyOf_23 : decode b_Arrays_copyOf 23 = .ok (.arraylength, 1) := by decide +kernel
theorem d_Arrays_copyOf_24 : decode b_Arrays_copyOf 24 = .ok (.iload_n 1, 1) := by decide +kernel
theorem d_Arrays_copyOf_25 : decode b_Arrays_copyOf 25 = .ok (.invokestatic 304, 3) := by decide +kernel
theorem d_Arrays_copyOf_28 : decode b_Arrays_copyOf 28 = .ok (.invokestatic 150, 3) := by decide +kernel
theorem d_Arrays_copyOf_31 : decode b_Arrays_copyOf 31 = .ok (.aload_n 2, 1) := by decide +kernel
theorem d_Arrays_copyOf_32 : decode b_Arrays_copyOf 32 = .ok (.areturn, 1) := by decide +kernel
