/-! ===== decode rows of the law's own methods ===== -/
theorem dL_pair_93 : decode cL_pair 93 = .ok (.imul, 1) := by decide +kernel
theorem dL_pair_94 : decode cL_pair 94 = .ok (.iadd, 1) := by decide +kernel
theorem dL_pair_95 : decode cL_pair 95 = .ok (.iconst 2, 1) := by decide +kernel
theorem dL_pair_96 : decode cL_pair 96 = .ok (.iadd, 1) := by decide +kernel
theorem dL_pair_97 : decode cL_pair 97 = .ok (.iload_n 3, 1) := by decide +kernel
theorem dL_pair_98 : decode cL_pair 98 = .ok (.iconst 5, 1) := by decide +kernel
theorem dL_pair_99 : decode cL_pair 99 = .ok (.iload 6, 2) := by decide +kernel
theorem dL_pair_101 : decode cL_pair 101 = .ok (.iadd, 1) := by decide +kernel
theorem dL_pair_102 : decode cL_pair 102 = .ok (.ishr, 1) := by decide +kernel
theorem dL_pair_103 : decode cL_pair 103 = .ok (.sipush 400, 3) := by decide +kernel
theorem dL_pair_106 : decode cL_pair 106 = .ok (.invokestatic 15, 3) := by decide +kernel
theorem dL_pair_109 : decode cL_pair 109 = .ok (.iastore, 1) := by decide +kernel
theorem dL_pair_110 : decode cL_pair 110 = .ok (.aload_n 1, 1) := by decide +kernel
theorem dL_pair_111 : decode cL_pair 111 = .ok (.iload 5, 2) := by decide +kernel
theorem dL_pair_113 : decode cL_pair 113 = .ok (.iconst 4, 1) := by decide +kernel
theorem dL_pair_114 : decode cL_pair 114 = .ok (.iload 6, 2) := by decide +kernel
theorem dL_pair_116 : decode cL_pair 116 = .ok (.imul, 1) := by decide +kernel
theorem dL_pair_117 : decode cL_pair 117 = .ok (.iadd, 1) := by decide +kernel
theorem dL_pair_118 : decode cL_pair 118 = .ok (.iconst 3, 1) := by decide +kernel
theorem dL_pair_119 : decode cL_pair 119 = .ok (.iadd, 1) := by decide +kernel
theorem dL_pair_120 : decode cL_pair 120 = .ok (.sipush 500, 3) := by decide +kernel
theorem dL_pair_123 : decode cL_pair 123 = .ok (.iload_n 3, 1) := by decide +kernel
theorem dL_pair_124 : decode cL_pair 124 = .ok (.bipush 9, 2) := by decide +kernel
theorem dL_pair_126 : decode cL_pair 126 = .ok (.iload 6, 2) := by decide +kernel
theorem dL_pair_128 : decode cL_pair 128 = .ok (.isub, 1) := by decide +kernel
theorem dL_pair_129 : decode cL_pair 129 = .ok (.ishr, 1) := by decide +kernel
theorem dL_pair_130 : decode cL_pair 130 = .ok (.sipush 400, 3) := by decide +kernel
theorem dL_pair_133 : decode cL_pair 133 = .ok (.invokestatic 15, 3) := by decide +kernel
theorem dL_pair_136 : decode cL_pair 136 = .ok (.iadd, 1) := by decide +kernel
theorem dL_pair_137 : decode cL_pair 137 = .ok (.iastore, 1) := by decide +kernel
theorem dL_pair_138 : decode cL_pair 138 = .ok (.aload_n 0, 1) := by decide +kernel
theorem dL_pair_139 : decode cL_pair 139 = .ok (.invokevirtual 21, 3) := by decide +kernel
theorem dL_pair_142 : decode cL_pair 142 = .ok (.pop, 1) := by decide +kernel
theorem dL_pair_143 : decode cL_pair 143 = .ok (.aload_n 0, 1) := by decide +kernel
theorem dL_pair_144 : decode cL_pair 144 = .ok (.iload 6, 2) := by decide +kernel
theorem dL_pair_146 : decode cL_pair 146 = .ok (.ifCond .ne 8, 3) := by decide +kernel
theorem dL_pair_149 : decode cL_pair 149 = .ok (.bipush 117, 2) := by decide +kernel
theorem dL_pair_151 : decode cL_pair 151 = .ok (.goto 5, 3) := by decide +kernel
theorem dL_pair_154 : decode cL_pair 154 = .ok (.bipush 100, 2) := by decide +kernel
theorem dL_pair_156 : decode cL_pair 156 = .ok (.invokevirtual 9, 3) := by decide +kernel
theorem dL_pair_159 : decode cL_pair 159 = .ok (.pop, 1) := by decide +kernel
theorem dL_pair_160 : decode cL_pair 160 = .ok (.aload_n 0, 1) := by decide +kernel
theorem dL_pair_161 : decode cL_pair 161 = .ok (.aload_n 1, 1) := by decide +kernel
theorem dL_pair_162 : decode cL_pair 162 = .ok (.iload 5, 2) := by decide +kernel
theorem dL_pair_164 : decode cL_pair 164 = .ok (.iconst 4, 1) := by decide +kernel
theorem dL_pair_165 : decode cL_pair 165 = .ok (.iload 6, 2) := by decide +kernel
theorem dL_pair_167 : decode cL_pair 167 = .ok (.imul, 1) := by decide +kernel
theorem dL_pair_168 : decode cL_pair 168 = .ok (.iadd, 1) := by decide +kernel
theorem dL_pair_169 : decode cL_pair 169 = .ok (.iconst 1, 1) := by decide +kernel
theorem dL_pair_170 : decode cL_pair 170 = .ok (.iadd, 1) := by decide +kernel
theorem dL_pair_171 : decode cL_pair 171 = .ok (.iaload, 1) := by decide +kernel
theorem dL_pair_172 : decode cL_pair 172 = .ok (.iconst 0, 1) := by decide +kernel
theorem dL_pair_173 : decode cL_pair 173 = .ok (.invokestatic 25, 3) := by decide +kernel
theorem dL_pair_176 : decode cL_pair 176 = .ok (.aload_n 0, 1) := by decide +kernel
theorem dL_pair_177 : decode cL_pair 177 = .ok (.bipush 44, 2) := by decide +kernel
theorem dL_pair_179 : decode cL_pair 179 = .ok (.invokevirtual 9, 3) := by decide +kernel
theorem dL_pair_182 : decode cL_pair 182 = .ok (.pop, 1) := by decide +kernel
theorem dL_pair_183 : decode cL_pair 183 = .ok (.aload_n 0, 1) := by decide +kernel
theorem dL_pair_184 : decode cL_pair 184 = .ok (.aload_n 1, 1) := by decide +kernel
theorem dL_pair_185 : decode cL_pair 185 = .ok (.iload 5, 2) := by decide +kernel
theorem dL_pair_187 : decode cL_pair 187 = .ok (.iconst 4, 1) := by decide +kernel
theorem dL_pair_188 : decode cL_pair 188 = .ok (.iload 6, 2) := by decide +kernel
theorem dL_pair_190 : decode cL_pair 190 = .ok (.imul, 1) := by decide +kernel
theorem dL_pair_191 : decode cL_pair 191 = .ok (.iadd, 1) := by decide +kernel
theorem dL_pair_192 : decode cL_pair 192 = .ok (.iconst 2, 1) := by decide +kernel
theorem dL_pair_193 : decode cL_pair 193 = .ok (.iadd, 1) := by decide +kernel
theorem dL_pair_194 : decode cL_pair 194 = .ok (.iaload, 1) := by decide +kernel
theorem dL_pair_195 : decode cL_pair 195 = .ok (.iconst 1, 1) := by decide +kernel
theorem dL_pair_196 : decode cL_pair 196 = .ok (.invokestatic 25, 3) := by decide +kernel
theorem dL_pair_199 : decode cL_pair 199 = .ok (.aload_n 0, 1) := by decide +kernel
theorem dL_pair_200 : decode cL_pair 200 = .ok (.bipush 45, 2) := by decide +kernel
theorem dL_pair_202 : decode cL_pair 202 = .ok (.invokevirtual 9, 3) := by decide +kernel
theorem dL_pair_205 : decode cL_pair 205 = .ok (.pop, 1) := by decide +kernel
theorem dL_pair_206 : decode cL_pair 206 = .ok (.aload_n 0, 1) := by decide +kernel
theorem dL_pair_207 : decode cL_pair 207 = .ok (.aload_n 1, 1) := by decide +kernel
theorem dL_pair_208 : decode cL_pair 208 = .ok (.iload 5, 2) := by decide +kernel
theorem dL_pair_210 : decode cL_pair 210 = .ok (.iconst 4, 1) := by decide +kernel
theorem dL_pair_211 : decode cL_pair 211 = .ok (.iload 6, 2) := by decide +kernel
theorem dL_pair_213 : decode cL_pair 213 = .ok (.imul, 1) := by decide +kernel
theorem dL_pair_214 : decode cL_pair 214 = .ok (.iadd, 1) := by decide +kernel
theorem dL_pair_215 : decode cL_pair 215 = .ok (.iconst 3, 1) := by decide +kernel
theorem dL_pair_216 : decode cL_pair 216 = .ok (.iadd, 1) := by decide +kernel
theorem dL_pair_217 : decode cL_pair 217 = .ok (.iaload, 1) := by decide +kernel
theorem dL_pair_218 : decode cL_pair 218 = .ok (.iconst 0, 1) := by decide +kernel
theorem dL_pair_219 : decode cL_pair 219 = .ok (.invokestatic 25, 3) := by decide +kernel
theorem dL_pair_222 : decode cL_pair 222 = .ok (.aload_n 2, 1) := by decide +kernel
theorem dL_pair_223 : decode cL_pair 223 = .ok (.iconst 0, 1) := by decide +kernel
theorem dL_pair_224 : decode cL_pair 224 = .ok (.dup2, 1) := by decide +kernel
theorem dL_pair_225 : decode cL_pair 225 = .ok (.iaload, 1) := by decide +kernel
theorem dL_pair_226 : decode cL_pair 226 = .ok (.iconst 1, 1) := by decide +kernel
theorem dL_pair_227 : decode cL_pair 227 = .ok (.iadd, 1) := by decide +kernel
theorem dL_pair_228 : decode cL_pair 228 = .ok (.iastore, 1) := by decide +kernel
theorem dL_pair_229 : decode cL_pair 229 = .ok (.aload_n 0, 1) := by decide +kernel
theorem dL_pair_230 : decode cL_pair 230 = .ok (.invokevirtual 29, 3) := by decide +kernel
theorem dL_pair_233 : decode cL_pair 233 = .ok (.aload_n 2, 1) := by decide +kernel
theorem dL_pair_234 : decode cL_pair 234 = .ok (.iconst 0, 1) := by decide +kernel
theorem dL_pair_235 : decode cL_pair 235 = .ok (.iaload, 1) := by decide +kernel
theorem dL_pair_236 : decode cL_pair 236 = .ok (.if_icmp .eq 5, 3) := by decide +kernel
theorem dL_pair_239 : decode cL_pair 239 = .ok (.iconst 0, 1) := by decide +kernel
theorem dL_pair_240 : decode cL_pair 240 = .ok (.ireturn, 1) := by decide +kernel
theorem dL_pair_241 : decode cL_pair 241 = .ok (.iinc 6 1, 3) := by decide +kernel
theorem dL_pair_244 : decode cL_pair 244 = .ok (.goto (-225), 3) := by decide +kernel
theorem dL_pair_247 : decode cL_pair 247 = .ok (.iconst 1, 1) := by decide +kernel
theorem dL_pair_248 : decode cL_pair 248 = .ok (.ireturn, 1) := by decide +kernel
theorem dL_rules_0 : decode cL_rules 0 = .ok (.iconst 0, 1) := by decide +kernel
theorem dL_rules_1 : decode cL_rules 1 = .ok (.istore_n 3, 1) := by decide +kernel
theorem dL_rules_2 : decode cL_rules 2 = .ok (.iload_n 3, 1) := by decide +kernel
theorem dL_rules_3 : decode cL_rules 3 = .ok (.iconst 5, 1) := by decide +kernel
theorem dL_rules_4 : decode cL_rules 4 = .ok (.if_icmp .ge 116, 3) := by decide +kernel
theorem dL_rules_7 : decode cL_rules 7 = .ok (.iload_n 3, 1) := by decide +kernel
theorem dL_rules_8 : decode cL_rules 8 = .ok (.ifCond .ne 12, 3) := by decide +kernel
theorem dL_rules_11 : decode cL_rules 11 = .ok (.iload_n 2, 1) := by decide +kernel
theorem dL_rules_12 : decode cL_rules 12 = .ok (.bipush 60, 2) := by decide +kernel
theorem dL_rules_14 : decode cL_rules 14 = .ok (.invokestatic 15, 3) := by decide +kernel
theorem dL_rules_17 : decode cL_rules 17 = .ok (.goto 71, 3) := by decide +kernel
theorem dL_rules_20 : decode cL_rules 20 = .ok (.iload_n 3, 1) := by decide +kernel
theorem dL_rules_21 : decode cL_rules 21 = .ok (.iconst 3, 1) := by decide +kernel
theorem dL_rules_22 : decode cL_rules 22 = .ok (.if_icmp .ge 32, 3) := by decide +kernel
theorem dL_rules_25 : decode cL_rules 25 = .ok (.iload_n 2, 1) := by decide +kernel
theorem dL_rules_26 : decode cL_rules 26 = .ok (.bipush 6, 2) := by decide +kernel
theorem dL_rules_28 : decode cL_rules 28 = .ok (.iconst 2, 1) := by decide +kernel
theorem dL_rules_29 : decode cL_rules 29 = .ok (.iload_n 3, 1) := by decide +kernel
theorem dL_rules_30 : decode cL_rules 30 = .ok (.imul, 1) := by decide +kernel
theorem dL_rules_31 : decode cL_rules 31 = .ok (.iadd, 1) := by decide +kernel
theorem dL_rules_32 : decode cL_rules 32 = .ok (.ishr, 1) := by decide +kernel
theorem dL_rules_33 : decode cL_rules 33 = .ok (.iconst 3, 1) := by decide +kernel
theorem dL_rules_34 : decode cL_rules 34 = .ok (.iand, 1) := by decide +kernel
theorem dL_rules_35 : decode cL_rules 35 = .ok (.ifCond .ne 15, 3) := by decide +kernel
theorem dL_rules_38 : decode cL_rules 38 = .ok (.iload_n 2, 1) := by decide +kernel
theorem dL_rules_39 : decode cL_rules 39 = .ok (.bipush 9, 2) := by decide +kernel
theorem dL_rules_41 : decode cL_rules 41 = .ok (.ishr, 1) := by decide +kernel
theorem dL_rules_42 : decode cL_rules 42 = .ok (.bipush 10, 2) := by decide +kernel
theorem dL_rules_44 : decode cL_rules 44 = .ok (.invokestatic 15, 3) := by decide +kernel
theorem dL_rules_47 : decode cL_rules 47 = .ok (.goto 41, 3) := by decide +kernel
theorem dL_rules_50 : decode cL_rules 50 = .ok (.iconst 1, 1) := by decide +kernel
theorem dL_rules_51 : decode cL_rules 51 = .ok (.goto 37, 3) := by decide +kernel
theorem dL_rules_54 : decode cL_rules 54 = .ok (.iload_n 3, 1) := by decide +kernel
theorem dL_rules_55 : decode cL_rules 55 = .ok (.iconst 3, 1) := by decide +kernel
theorem dL_rules_56 : decode cL_rules 56 = .ok (.if_icmp .ne 12, 3) := by decide +kernel
theorem dL_rules_59 : decode cL_rules 59 = .ok (.iload_n 2, 1) := by decide +kernel
