/-! ===== decode rows of the law's own methods ===== -/
theorem dL_edge_119 : decode cL_edge 119 = .ok (.aload_n 0, 1) := by decide +kernel
theorem dL_edge_120 : decode cL_edge 120 = .ok (.invokevirtual 21, 3) := by decide +kernel
theorem dL_edge_123 : decode cL_edge 123 = .ok (.pop, 1) := by decide +kernel
theorem dL_edge_124 : decode cL_edge 124 = .ok (.aload_n 0, 1) := by decide +kernel
theorem dL_edge_125 : decode cL_edge 125 = .ok (.aload_n 1, 1) := by decide +kernel
theorem dL_edge_126 : decode cL_edge 126 = .ok (.iload 4, 2) := by decide +kernel
theorem dL_edge_128 : decode cL_edge 128 = .ok (.iaload, 1) := by decide +kernel
theorem dL_edge_129 : decode cL_edge 129 = .ok (.iconst 1, 1) := by decide +kernel
theorem dL_edge_130 : decode cL_edge 130 = .ok (.if_icmp .ne 8, 3) := by decide +kernel
theorem dL_edge_133 : decode cL_edge 133 = .ok (.bipush 117, 2) := by decide +kernel
theorem dL_edge_135 : decode cL_edge 135 = .ok (.goto 5, 3) := by decide +kernel
theorem dL_edge_138 : decode cL_edge 138 = .ok (.bipush 100, 2) := by decide +kernel
theorem dL_edge_140 : decode cL_edge 140 = .ok (.invokevirtual 9, 3) := by decide +kernel
theorem dL_edge_143 : decode cL_edge 143 = .ok (.pop, 1) := by decide +kernel
theorem dL_edge_144 : decode cL_edge 144 = .ok (.aload_n 0, 1) := by decide +kernel
theorem dL_edge_145 : decode cL_edge 145 = .ok (.aload_n 1, 1) := by decide +kernel
theorem dL_edge_146 : decode cL_edge 146 = .ok (.iload 4, 2) := by decide +kernel
theorem dL_edge_148 : decode cL_edge 148 = .ok (.iconst 1, 1) := by decide +kernel
theorem dL_edge_149 : decode cL_edge 149 = .ok (.iadd, 1) := by decide +kernel
theorem dL_edge_150 : decode cL_edge 150 = .ok (.iaload, 1) := by decide +kernel
theorem dL_edge_151 : decode cL_edge 151 = .ok (.iload_n 3, 1) := by decide +kernel
theorem dL_edge_152 : decode cL_edge 152 = .ok (.bipush 16, 2) := by decide +kernel
theorem dL_edge_154 : decode cL_edge 154 = .ok (.iand, 1) := by decide +kernel
theorem dL_edge_155 : decode cL_edge 155 = .ok (.ifCond .ne 7, 3) := by decide +kernel
theorem dL_edge_158 : decode cL_edge 158 = .ok (.iconst 1, 1) := by decide +kernel
theorem dL_edge_159 : decode cL_edge 159 = .ok (.goto 4, 3) := by decide +kernel
theorem dL_edge_162 : decode cL_edge 162 = .ok (.iconst 0, 1) := by decide +kernel
theorem dL_edge_163 : decode cL_edge 163 = .ok (.invokestatic 25, 3) := by decide +kernel
theorem dL_edge_166 : decode cL_edge 166 = .ok (.aload_n 0, 1) := by decide +kernel
theorem dL_edge_167 : decode cL_edge 167 = .ok (.bipush 44, 2) := by decide +kernel
theorem dL_edge_169 : decode cL_edge 169 = .ok (.invokevirtual 9, 3) := by decide +kernel
theorem dL_edge_172 : decode cL_edge 172 = .ok (.pop, 1) := by decide +kernel
theorem dL_edge_173 : decode cL_edge 173 = .ok (.aload_n 0, 1) := by decide +kernel
theorem dL_edge_174 : decode cL_edge 174 = .ok (.aload_n 1, 1) := by decide +kernel
theorem dL_edge_175 : decode cL_edge 175 = .ok (.iload 4, 2) := by decide +kernel
theorem dL_edge_177 : decode cL_edge 177 = .ok (.iconst 2, 1) := by decide +kernel
theorem dL_edge_178 : decode cL_edge 178 = .ok (.iadd, 1) := by decide +kernel
theorem dL_edge_179 : decode cL_edge 179 = .ok (.iaload, 1) := by decide +kernel
theorem dL_edge_180 : decode cL_edge 180 = .ok (.iload_n 3, 1) := by decide +kernel
theorem dL_edge_181 : decode cL_edge 181 = .ok (.bipush 32, 2) := by decide +kernel
theorem dL_edge_183 : decode cL_edge 183 = .ok (.iand, 1) := by decide +kernel
theorem dL_edge_184 : decode cL_edge 184 = .ok (.ifCond .ne 7, 3) := by decide +kernel
theorem dL_edge_187 : decode cL_edge 187 = .ok (.iconst 1, 1) := by decide +kernel
theorem dL_edge_188 : decode cL_edge 188 = .ok (.goto 4, 3) := by decide +kernel
theorem dL_edge_191 : decode cL_edge 191 = .ok (.iconst 0, 1) := by decide +kernel
theorem dL_edge_192 : decode cL_edge 192 = .ok (.invokestatic 25, 3) := by decide +kernel
theorem dL_edge_195 : decode cL_edge 195 = .ok (.aload_n 0, 1) := by decide +kernel
theorem dL_edge_196 : decode cL_edge 196 = .ok (.bipush 45, 2) := by decide +kernel
theorem dL_edge_198 : decode cL_edge 198 = .ok (.invokevirtual 9, 3) := by decide +kernel
theorem dL_edge_201 : decode cL_edge 201 = .ok (.pop, 1) := by decide +kernel
theorem dL_edge_202 : decode cL_edge 202 = .ok (.aload_n 0, 1) := by decide +kernel
theorem dL_edge_203 : decode cL_edge 203 = .ok (.aload_n 1, 1) := by decide +kernel
theorem dL_edge_204 : decode cL_edge 204 = .ok (.iload 4, 2) := by decide +kernel
theorem dL_edge_206 : decode cL_edge 206 = .ok (.iconst 3, 1) := by decide +kernel
theorem dL_edge_207 : decode cL_edge 207 = .ok (.iadd, 1) := by decide +kernel
theorem dL_edge_208 : decode cL_edge 208 = .ok (.iaload, 1) := by decide +kernel
theorem dL_edge_209 : decode cL_edge 209 = .ok (.iload_n 3, 1) := by decide +kernel
theorem dL_edge_210 : decode cL_edge 210 = .ok (.bipush 64, 2) := by decide +kernel
theorem dL_edge_212 : decode cL_edge 212 = .ok (.iand, 1) := by decide +kernel
theorem dL_edge_213 : decode cL_edge 213 = .ok (.ifCond .ne 7, 3) := by decide +kernel
theorem dL_edge_216 : decode cL_edge 216 = .ok (.iconst 1, 1) := by decide +kernel
theorem dL_edge_217 : decode cL_edge 217 = .ok (.goto 4, 3) := by decide +kernel
theorem dL_edge_220 : decode cL_edge 220 = .ok (.iconst 0, 1) := by decide +kernel
theorem dL_edge_221 : decode cL_edge 221 = .ok (.invokestatic 25, 3) := by decide +kernel
theorem dL_edge_224 : decode cL_edge 224 = .ok (.aload_n 2, 1) := by decide +kernel
theorem dL_edge_225 : decode cL_edge 225 = .ok (.iconst 0, 1) := by decide +kernel
theorem dL_edge_226 : decode cL_edge 226 = .ok (.dup2, 1) := by decide +kernel
theorem dL_edge_227 : decode cL_edge 227 = .ok (.iaload, 1) := by decide +kernel
theorem dL_edge_228 : decode cL_edge 228 = .ok (.iconst 1, 1) := by decide +kernel
theorem dL_edge_229 : decode cL_edge 229 = .ok (.iadd, 1) := by decide +kernel
theorem dL_edge_230 : decode cL_edge 230 = .ok (.iastore, 1) := by decide +kernel
theorem dL_edge_231 : decode cL_edge 231 = .ok (.aload_n 0, 1) := by decide +kernel
theorem dL_edge_232 : decode cL_edge 232 = .ok (.invokevirtual 29, 3) := by decide +kernel
theorem dL_edge_235 : decode cL_edge 235 = .ok (.aload_n 2, 1) := by decide +kernel
theorem dL_edge_236 : decode cL_edge 236 = .ok (.iconst 0, 1) := by decide +kernel
theorem dL_edge_237 : decode cL_edge 237 = .ok (.iaload, 1) := by decide +kernel
theorem dL_edge_238 : decode cL_edge 238 = .ok (.if_icmp .ne 7, 3) := by decide +kernel
theorem dL_edge_241 : decode cL_edge 241 = .ok (.iconst 1, 1) := by decide +kernel
theorem dL_edge_242 : decode cL_edge 242 = .ok (.goto 4, 3) := by decide +kernel
theorem dL_edge_245 : decode cL_edge 245 = .ok (.iconst 0, 1) := by decide +kernel
theorem dL_edge_246 : decode cL_edge 246 = .ok (.ireturn, 1) := by decide +kernel
theorem dL_pair_0 : decode cL_pair 0 = .ok (.iload_n 3, 1) := by decide +kernel
theorem dL_pair_1 : decode cL_pair 1 = .ok (.sipush 900, 3) := by decide +kernel
theorem dL_pair_4 : decode cL_pair 4 = .ok (.invokestatic 15, 3) := by decide +kernel
theorem dL_pair_7 : decode cL_pair 7 = .ok (.istore 4, 2) := by decide +kernel
theorem dL_pair_9 : decode cL_pair 9 = .ok (.iconst 4, 1) := by decide +kernel
theorem dL_pair_10 : decode cL_pair 10 = .ok (.aload_n 2, 1) := by decide +kernel
theorem dL_pair_11 : decode cL_pair 11 = .ok (.iconst 0, 1) := by decide +kernel
theorem dL_pair_12 : decode cL_pair 12 = .ok (.iaload, 1) := by decide +kernel
theorem dL_pair_13 : decode cL_pair 13 = .ok (.imul, 1) := by decide +kernel
theorem dL_pair_14 : decode cL_pair 14 = .ok (.istore 5, 2) := by decide +kernel
theorem dL_pair_16 : decode cL_pair 16 = .ok (.iconst 0, 1) := by decide +kernel
theorem dL_pair_17 : decode cL_pair 17 = .ok (.istore 6, 2) := by decide +kernel
theorem dL_pair_19 : decode cL_pair 19 = .ok (.iload 6, 2) := by decide +kernel
theorem dL_pair_21 : decode cL_pair 21 = .ok (.iconst 2, 1) := by decide +kernel
theorem dL_pair_22 : decode cL_pair 22 = .ok (.if_icmp .ge 225, 3) := by decide +kernel
theorem dL_pair_25 : decode cL_pair 25 = .ok (.aload_n 1, 1) := by decide +kernel
theorem dL_pair_26 : decode cL_pair 26 = .ok (.iload 5, 2) := by decide +kernel
theorem dL_pair_28 : decode cL_pair 28 = .ok (.iconst 4, 1) := by decide +kernel
theorem dL_pair_29 : decode cL_pair 29 = .ok (.iload 6, 2) := by decide +kernel
theorem dL_pair_31 : decode cL_pair 31 = .ok (.imul, 1) := by decide +kernel
theorem dL_pair_32 : decode cL_pair 32 = .ok (.iadd, 1) := by decide +kernel
theorem dL_pair_33 : decode cL_pair 33 = .ok (.iconst 1, 1) := by decide +kernel
theorem dL_pair_34 : decode cL_pair 34 = .ok (.iload 6, 2) := by decide +kernel
theorem dL_pair_36 : decode cL_pair 36 = .ok (.isub, 1) := by decide +kernel
theorem dL_pair_37 : decode cL_pair 37 = .ok (.iastore, 1) := by decide +kernel
theorem dL_pair_38 : decode cL_pair 38 = .ok (.aload_n 1, 1) := by decide +kernel
theorem dL_pair_39 : decode cL_pair 39 = .ok (.iload 5, 2) := by decide +kernel
theorem dL_pair_41 : decode cL_pair 41 = .ok (.iconst 4, 1) := by decide +kernel
theorem dL_pair_42 : decode cL_pair 42 = .ok (.iload 6, 2) := by decide +kernel
theorem dL_pair_44 : decode cL_pair 44 = .ok (.imul, 1) := by decide +kernel
theorem dL_pair_45 : decode cL_pair 45 = .ok (.iadd, 1) := by decide +kernel
theorem dL_pair_46 : decode cL_pair 46 = .ok (.iconst 1, 1) := by decide +kernel
theorem dL_pair_47 : decode cL_pair 47 = .ok (.iadd, 1) := by decide +kernel
theorem dL_pair_48 : decode cL_pair 48 = .ok (.iload 6, 2) := by decide +kernel
theorem dL_pair_50 : decode cL_pair 50 = .ok (.ifCond .ne 8, 3) := by decide +kernel
theorem dL_pair_53 : decode cL_pair 53 = .ok (.iload 4, 2) := by decide +kernel
theorem dL_pair_55 : decode cL_pair 55 = .ok (.goto 31, 3) := by decide +kernel
theorem dL_pair_58 : decode cL_pair 58 = .ok (.iload 4, 2) := by decide +kernel
theorem dL_pair_60 : decode cL_pair 60 = .ok (.iconst 1, 1) := by decide +kernel
theorem dL_pair_61 : decode cL_pair 61 = .ok (.iadd, 1) := by decide +kernel
theorem dL_pair_62 : decode cL_pair 62 = .ok (.iload_n 3, 1) := by decide +kernel
theorem dL_pair_63 : decode cL_pair 63 = .ok (.bipush 7, 2) := by decide +kernel
theorem dL_pair_65 : decode cL_pair 65 = .ok (.ishr, 1) := by decide +kernel
theorem dL_pair_66 : decode cL_pair 66 = .ok (.iload_n 3, 1) := by decide +kernel
theorem dL_pair_67 : decode cL_pair 67 = .ok (.bipush 13, 2) := by decide +kernel
theorem dL_pair_69 : decode cL_pair 69 = .ok (.ishr, 1) := by decide +kernel
theorem dL_pair_70 : decode cL_pair 70 = .ok (.iconst 1, 1) := by decide +kernel
theorem dL_pair_71 : decode cL_pair 71 = .ok (.iand, 1) := by decide +kernel
theorem dL_pair_72 : decode cL_pair 72 = .ok (.ifCond .ne 8, 3) := by decide +kernel
theorem dL_pair_75 : decode cL_pair 75 = .ok (.bipush 40, 2) := by decide +kernel
theorem dL_pair_77 : decode cL_pair 77 = .ok (.goto 5, 3) := by decide +kernel
theorem dL_pair_80 : decode cL_pair 80 = .ok (.bipush 99, 2) := by decide +kernel
theorem dL_pair_82 : decode cL_pair 82 = .ok (.invokestatic 15, 3) := by decide +kernel
theorem dL_pair_85 : decode cL_pair 85 = .ok (.iadd, 1) := by decide +kernel
theorem dL_pair_86 : decode cL_pair 86 = .ok (.iastore, 1) := by decide +kernel
theorem dL_pair_87 : decode cL_pair 87 = .ok (.aload_n 1, 1) := by decide +kernel
theorem dL_pair_88 : decode cL_pair 88 = .ok (.iload 5, 2) := by decide +kernel
theorem dL_pair_90 : decode cL_pair 90 = .ok (.iconst 4, 1) := by decide +kernel
theorem dL_pair_91 : decode cL_pair 91 = .ok (.iload 6, 2) := by decide +kernel
