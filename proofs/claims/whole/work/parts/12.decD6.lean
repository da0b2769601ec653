set_option maxRecDepth 20000 in
theorem ggX5_place_X5_layFit : GoodIn wsX5_place wsX5_layFit := goodIn_r _ [15, 3, 6, 16, 17, 18, 19, 5, 20, 21, 22, 10, 23, 24, 4, 7, 25, 26, 27, 28, 29, 30, 31, 32, 33, 34, 35, 36, 37, 38, 39, 40, 41, 42, 43, 44, 45, 46, 47, 48, 49, 50, 51, 52, 53, 54, 55, 56, 57, 58, 59, 60, 61, 62, 63, 64, 65, 66, 67, 68, 69, 70, 71, 72, 73, 74, 75, 76, 77, 78, 79, 80, 81, 82, 83, 84, 85, 86, 87, 88, 89, 90, 91, 92, 93, 94, 95, 96, 97, 98, 99] rfl (by decide +kernel)
set_option maxRecDepth 20000 in
theorem gX5_place_X5_layFit : GoodIn wsX5_place (wsV RX5 143 RX5 yX5_layFit wsX5_layFit) := goodIn_app (goodIn_of _ (by decide +kernel)) ggX5_place_X5_layFit
set_option maxRecDepth 20000 in
theorem ggX5_place_X5_width : GoodIn wsX5_place wsX5_width := goodIn_r _ [53, 7, 4, 77, 78, 79, 80, 81, 82, 83, 84, 85, 86, 87, 88, 89, 90, 91, 92, 93, 94, 95, 96, 97, 98, 99] (by decide +kernel) (by decide +kernel)
set_option maxRecDepth 20000 in
theorem gX5_place_X5_width : GoodIn wsX5_place (wsV RX5 105 RX5 yX5_width wsX5_width) := goodIn_app (goodIn_of _ (by decide +kernel)) ggX5_place_X5_width
theorem dX5_place_0 : decode cX5_place 0 = .ok (.iload_n 1, 1) := by decide +kernel
theorem dX5_place_1 : decode cX5_place 1 = .ok (.iconst 1, 1) := by decide +kernel
theorem dX5_place_2 : decode cX5_place 2 = .ok (.bipush 60, 2) := by decide +kernel
theorem dX5_place_4 : decode cX5_place 4 = .ok (.invokestatic 66, 3) := by decide +kernel
theorem dX5_place_7 : decode cX5_place 7 = .ok (.ifCond .eq 14, 3) := by decide +kernel
theorem dX5_place_10 : decode cX5_place 10 = .ok (.iload_n 2, 1) := by decide +kernel
theorem dX5_place_11 : decode cX5_place 11 = .ok (.iconst 0, 1) := by decide +kernel
theorem dX5_place_12 : decode cX5_place 12 = .ok (.sipush 999, 3) := by decide +kernel
theorem dX5_place_15 : decode cX5_place 15 = .ok (.invokestatic 66, 3) := by decide +kernel
theorem dX5_place_18 : decode cX5_place 18 = .ok (.ifCond .ne 6, 3) := by decide +kernel
theorem dX5_place_21 : decode cX5_place 21 = .ok (.ldc 148, 2) := by decide +kernel
theorem dX5_place_23 : decode cX5_place 23 = .ok (.ireturn, 1) := by decide +kernel
theorem dX5_place_24 : decode cX5_place 24 = .ok (.aload_n 0, 1) := by decide +kernel
theorem dX5_place_25 : decode cX5_place 25 = .ok (.iload_n 1, 1) := by decide +kernel
theorem dX5_place_26 : decode cX5_place 26 = .ok (.invokevirtual 143, 3) := by decide +kernel
theorem dX5_place_29 : decode cX5_place 29 = .ok (.ifCond .ne 6, 3) := by decide +kernel
theorem dX5_place_32 : decode cX5_place 32 = .ok (.ldc 149, 2) := by decide +kernel
theorem dX5_place_34 : decode cX5_place 34 = .ok (.ireturn, 1) := by decide +kernel
theorem dX5_place_35 : decode cX5_place 35 = .ok (.aload_n 0, 1) := by decide +kernel
theorem dX5_place_36 : decode cX5_place 36 = .ok (.getfield 89, 3) := by decide +kernel
theorem dX5_place_39 : decode cX5_place 39 = .ok (.ifCond .ne 7, 3) := by decide +kernel
theorem dX5_place_42 : decode cX5_place 42 = .ok (.iload_n 2, 1) := by decide +kernel
theorem dX5_place_43 : decode cX5_place 43 = .ok (.iload_n 1, 1) := by decide +kernel
theorem dX5_place_44 : decode cX5_place 44 = .ok (.imul, 1) := by decide +kernel
theorem dX5_place_45 : decode cX5_place 45 = .ok (.ireturn, 1) := by decide +kernel
theorem dX5_place_46 : decode cX5_place 46 = .ok (.iload_n 2, 1) := by decide +kernel
theorem dX5_place_47 : decode cX5_place 47 = .ok (.aload_n 0, 1) := by decide +kernel
theorem dX5_place_48 : decode cX5_place 48 = .ok (.getfield 22, 3) := by decide +kernel
theorem dX5_place_51 : decode cX5_place 51 = .ok (.iconst 0, 1) := by decide +kernel
theorem dX5_place_52 : decode cX5_place 52 = .ok (.iaload, 1) := by decide +kernel
theorem dX5_place_53 : decode cX5_place 53 = .ok (.if_icmp .gt 25, 3) := by decide +kernel
theorem dX5_place_56 : decode cX5_place 56 = .ok (.sipush 1000, 3) := by decide +kernel
theorem dX5_place_59 : decode cX5_place 59 = .ok (.aload_n 0, 1) := by decide +kernel
theorem dX5_place_60 : decode cX5_place 60 = .ok (.getfield 53, 3) := by decide +kernel
theorem dX5_place_63 : decode cX5_place 63 = .ok (.iconst 0, 1) := by decide +kernel
theorem dX5_place_64 : decode cX5_place 64 = .ok (.iaload, 1) := by decide +kernel
theorem dX5_place_65 : decode cX5_place 65 = .ok (.imul, 1) := by decide +kernel
theorem dX5_place_66 : decode cX5_place 66 = .ok (.aload_n 0, 1) := by decide +kernel
theorem dX5_place_67 : decode cX5_place 67 = .ok (.getfield 22, 3) := by decide +kernel
theorem dX5_place_70 : decode cX5_place 70 = .ok (.iconst 0, 1) := by decide +kernel
theorem dX5_place_71 : decode cX5_place 71 = .ok (.iaload, 1) := by decide +kernel
theorem dX5_place_72 : decode cX5_place 72 = .ok (.iload_n 2, 1) := by decide +kernel
theorem dX5_place_73 : decode cX5_place 73 = .ok (.isub, 1) := by decide +kernel
theorem dX5_place_74 : decode cX5_place 74 = .ok (.iload_n 1, 1) := by decide +kernel
theorem dX5_place_75 : decode cX5_place 75 = .ok (.imul, 1) := by decide +kernel
theorem dX5_place_76 : decode cX5_place 76 = .ok (.isub, 1) := by decide +kernel
theorem dX5_place_77 : decode cX5_place 77 = .ok (.ireturn, 1) := by decide +kernel
theorem dX5_place_78 : decode cX5_place 78 = .ok (.iconst 0, 1) := by decide +kernel
theorem dX5_place_79 : decode cX5_place 79 = .ok (.istore_n 3, 1) := by decide +kernel
theorem dX5_place_80 : decode cX5_place 80 = .ok (.iload_n 3, 1) := by decide +kernel
theorem dX5_place_81 : decode cX5_place 81 = .ok (.aload_n 0, 1) := by decide +kernel
theorem dX5_place_82 : decode cX5_place 82 = .ok (.getfield 89, 3) := by decide +kernel
theorem dX5_place_85 : decode cX5_place 85 = .ok (.if_icmp .ge 136, 3) := by decide +kernel
theorem dX5_place_88 : decode cX5_place 88 = .ok (.sipush 1000, 3) := by decide +kernel
theorem dX5_place_91 : decode cX5_place 91 = .ok (.aload_n 0, 1) := by decide +kernel
theorem dX5_place_92 : decode cX5_place 92 = .ok (.getfield 53, 3) := by decide +kernel
theorem dX5_place_95 : decode cX5_place 95 = .ok (.iload_n 3, 1) := by decide +kernel
theorem dX5_place_96 : decode cX5_place 96 = .ok (.iaload, 1) := by decide +kernel
theorem dX5_place_97 : decode cX5_place 97 = .ok (.imul, 1) := by decide +kernel
theorem dX5_place_98 : decode cX5_place 98 = .ok (.istore 4, 2) := by decide +kernel
theorem dX5_place_100 : decode cX5_place 100 = .ok (.iload 4, 2) := by decide +kernel
theorem dX5_place_102 : decode cX5_place 102 = .ok (.sipush 1000, 3) := by decide +kernel
theorem dX5_place_105 : decode cX5_place 105 = .ok (.aload_n 0, 1) := by decide +kernel
theorem dX5_place_106 : decode cX5_place 106 = .ok (.getfield 56, 3) := by decide +kernel
theorem dX5_place_109 : decode cX5_place 109 = .ok (.iload_n 3, 1) := by decide +kernel
theorem dX5_place_110 : decode cX5_place 110 = .ok (.iaload, 1) := by decide +kernel
theorem dX5_place_111 : decode cX5_place 111 = .ok (.imul, 1) := by decide +kernel
theorem dX5_place_112 : decode cX5_place 112 = .ok (.iadd, 1) := by decide +kernel
theorem dX5_place_113 : decode cX5_place 113 = .ok (.istore 5, 2) := by decide +kernel
theorem dX5_place_115 : decode cX5_place 115 = .ok (.iload_n 2, 1) := by decide +kernel
theorem dX5_place_116 : decode cX5_place 116 = .ok (.aload_n 0, 1) := by decide +kernel
theorem dX5_place_117 : decode cX5_place 117 = .ok (.getfield 25, 3) := by decide +kernel
theorem dX5_place_120 : decode cX5_place 120 = .ok (.iload_n 3, 1) := by decide +kernel
theorem dX5_place_121 : decode cX5_place 121 = .ok (.iaload, 1) := by decide +kernel
theorem dX5_place_122 : decode cX5_place 122 = .ok (.if_icmp .gt 27, 3) := by decide +kernel
theorem dX5_place_125 : decode cX5_place 125 = .ok (.iload 4, 2) := by decide +kernel
theorem dX5_place_127 : decode cX5_place 127 = .ok (.iload_n 2, 1) := by decide +kernel
theorem dX5_place_128 : decode cX5_place 128 = .ok (.aload_n 0, 1) := by decide +kernel
theorem dX5_place_129 : decode cX5_place 129 = .ok (.getfield 22, 3) := by decide +kernel
theorem dX5_place_132 : decode cX5_place 132 = .ok (.iload_n 3, 1) := by decide +kernel
theorem dX5_place_133 : decode cX5_place 133 = .ok (.iaload, 1) := by decide +kernel
theorem dX5_place_134 : decode cX5_place 134 = .ok (.isub, 1) := by decide +kernel
theorem dX5_place_135 : decode cX5_place 135 = .ok (.iload 5, 2) := by decide +kernel
theorem dX5_place_137 : decode cX5_place 137 = .ok (.iload 4, 2) := by decide +kernel
theorem dX5_place_139 : decode cX5_place 139 = .ok (.isub, 1) := by decide +kernel
theorem dX5_place_140 : decode cX5_place 140 = .ok (.imul, 1) := by decide +kernel
theorem dX5_place_141 : decode cX5_place 141 = .ok (.aload_n 0, 1) := by decide +kernel
theorem dX5_place_142 : decode cX5_place 142 = .ok (.iload_n 3, 1) := by decide +kernel
theorem dX5_place_143 : decode cX5_place 143 = .ok (.invokevirtual 105, 3) := by decide +kernel
theorem dX5_place_146 : decode cX5_place 146 = .ok (.idiv, 1) := by decide +kernel
theorem dX5_place_147 : decode cX5_place 147 = .ok (.iadd, 1) := by decide +kernel
theorem dX5_place_148 : decode cX5_place 148 = .ok (.ireturn, 1) := by decide +kernel
theorem dX5_place_149 : decode cX5_place 149 = .ok (.iload_n 3, 1) := by decide +kernel
theorem dX5_place_150 : decode cX5_place 150 = .ok (.iconst 1, 1) := by decide +kernel
theorem dX5_place_151 : decode cX5_place 151 = .ok (.iadd, 1) := by decide +kernel
theorem dX5_place_152 : decode cX5_place 152 = .ok (.aload_n 0, 1) := by decide +kernel
theorem dX5_place_153 : decode cX5_place 153 = .ok (.getfield 89, 3) := by decide +kernel
theorem dX5_place_156 : decode cX5_place 156 = .ok (.if_icmp .ge 59, 3) := by decide +kernel
theorem dX5_place_159 : decode cX5_place 159 = .ok (.iload_n 2, 1) := by decide +kernel
theorem dX5_place_160 : decode cX5_place 160 = .ok (.aload_n 0, 1) := by decide +kernel
theorem dX5_place_161 : decode cX5_place 161 = .ok (.getfield 22, 3) := by decide +kernel
theorem dX5_place_164 : decode cX5_place 164 = .ok (.iload_n 3, 1) := by decide +kernel
theorem dX5_place_165 : decode cX5_place 165 = .ok (.iconst 1, 1) := by decide +kernel
theorem dX5_place_166 : decode cX5_place 166 = .ok (.iadd, 1) := by decide +kernel
theorem dX5_place_167 : decode cX5_place 167 = .ok (.iaload, 1) := by decide +kernel
theorem dX5_place_168 : decode cX5_place 168 = .ok (.if_icmp .ge 47, 3) := by decide +kernel
theorem dX5_place_171 : decode cX5_place 171 = .ok (.iload 5, 2) := by decide +kernel
theorem dX5_place_173 : decode cX5_place 173 = .ok (.iload_n 2, 1) := by decide +kernel
theorem dX5_place_174 : decode cX5_place 174 = .ok (.aload_n 0, 1) := by decide +kernel
theorem dX5_place_175 : decode cX5_place 175 = .ok (.getfield 25, 3) := by decide +kernel
theorem dX5_place_178 : decode cX5_place 178 = .ok (.iload_n 3, 1) := by decide +kernel
theorem dX5_place_179 : decode cX5_place 179 = .ok (.iaload, 1) := by decide +kernel
theorem dX5_place_180 : decode cX5_place 180 = .ok (.isub, 1) := by decide +kernel
theorem dX5_place_181 : decode cX5_place 181 = .ok (.sipush 1000, 3) := by decide +kernel
theorem dX5_place_184 : decode cX5_place 184 = .ok (.aload_n 0, 1) := by decide +kernel
theorem dX5_place_185 : decode cX5_place 185 = .ok (.getfield 53, 3) := by decide +kernel
theorem dX5_place_188 : decode cX5_place 188 = .ok (.iload_n 3, 1) := by decide +kernel
theorem dX5_place_189 : decode cX5_place 189 = .ok (.iconst 1, 1) := by decide +kernel
theorem dX5_place_190 : decode cX5_place 190 = .ok (.iadd, 1) := by decide +kernel
theorem dX5_place_191 : decode cX5_place 191 = .ok (.iaload, 1) := by decide +kernel
theorem dX5_place_192 : decode cX5_place 192 = .ok (.imul, 1) := by decide +kernel
theorem dX5_place_193 : decode cX5_place 193 = .ok (.iload 5, 2) := by decide +kernel
theorem dX5_place_195 : decode cX5_place 195 = .ok (.isub, 1) := by decide +kernel
theorem dX5_place_196 : decode cX5_place 196 = .ok (.imul, 1) := by decide +kernel
theorem dX5_place_197 : decode cX5_place 197 = .ok (.aload_n 0, 1) := by decide +kernel
theorem dX5_place_198 : decode cX5_place 198 = .ok (.getfield 22, 3) := by decide +kernel
theorem dX5_place_201 : decode cX5_place 201 = .ok (.iload_n 3, 1) := by decide +kernel
theorem dX5_place_202 : decode cX5_place 202 = .ok (.iconst 1, 1) := by decide +kernel
theorem dX5_place_203 : decode cX5_place 203 = .ok (.iadd, 1) := by decide +kernel
theorem dX5_place_204 : decode cX5_place 204 = .ok (.iaload, 1) := by decide +kernel
theorem dX5_place_205 : decode cX5_place 205 = .ok (.aload_n 0, 1) := by decide +kernel
theorem dX5_place_206 : decode cX5_place 206 = .ok (.getfield 25, 3) := by decide +kernel
theorem dX5_place_209 : decode cX5_place 209 = .ok (.iload_n 3, 1) := by decide +kernel
theorem dX5_place_210 : decode cX5_place 210 = .ok (.iaload, 1) := by decide +kernel
theorem dX5_place_211 : decode cX5_place 211 = .ok (.isub, 1) := by decide +kernel
theorem dX5_place_212 : decode cX5_place 212 = .ok (.idiv, 1) := by decide +kernel
theorem dX5_place_213 : decode cX5_place 213 = .ok (.iadd, 1) := by decide +kernel
theorem dX5_place_214 : decode cX5_place 214 = .ok (.ireturn, 1) := by decide +kernel
theorem dX5_place_215 : decode cX5_place 215 = .ok (.iinc 3 1, 3) := by decide +kernel
theorem dX5_place_218 : decode cX5_place 218 = .ok (.goto (-138), 3) := by decide +kernel
theorem dX5_place_221 : decode cX5_place 221 = .ok (.sipush 1000, 3) := by decide +kernel
theorem dX5_place_224 : decode cX5_place 224 = .ok (.aload_n 0, 1) := by decide +kernel
theorem dX5_place_225 : decode cX5_place 225 = .ok (.getfield 53, 3) := by decide +kernel
theorem dX5_place_228 : decode cX5_place 228 = .ok (.aload_n 0, 1) := by decide +kernel
theorem dX5_place_229 : decode cX5_place 229 = .ok (.getfield 89, 3) := by decide +kernel
theorem dX5_place_232 : decode cX5_place 232 = .ok (.iconst 1, 1) := by decide +kernel
theorem dX5_place_233 : decode cX5_place 233 = .ok (.isub, 1) := by decide +kernel
theorem dX5_place_234 : decode cX5_place 234 = .ok (.iaload, 1) := by decide +kernel
theorem dX5_place_235 : decode cX5_place 235 = .ok (.aload_n 0, 1) := by decide +kernel
theorem dX5_place_236 : decode cX5_place 236 = .ok (.getfield 56, 3) := by decide +kernel
theorem dX5_place_239 : decode cX5_place 239 = .ok (.aload_n 0, 1) := by decide +kernel
theorem dX5_place_240 : decode cX5_place 240 = .ok (.getfield 89, 3) := by decide +kernel
theorem dX5_place_243 : decode cX5_place 243 = .ok (.iconst 1, 1) := by decide +kernel
theorem dX5_place_244 : decode cX5_place 244 = .ok (.isub, 1) := by decide +kernel
theorem dX5_place_245 : decode cX5_place 245 = .ok (.iaload, 1) := by decide +kernel
theorem dX5_place_246 : decode cX5_place 246 = .ok (.iadd, 1) := by decide +kernel
theorem dX5_place_247 : decode cX5_place 247 = .ok (.imul, 1) := by decide +kernel
theorem dX5_place_248 : decode cX5_place 248 = .ok (.iload_n 2, 1) := by decide +kernel
theorem dX5_place_249 : decode cX5_place 249 = .ok (.aload_n 0, 1) := by decide +kernel
theorem dX5_place_250 : decode cX5_place 250 = .ok (.getfield 25, 3) := by decide +kernel
theorem dX5_place_253 : decode cX5_place 253 = .ok (.aload_n 0, 1) := by decide +kernel
theorem dX5_place_254 : decode cX5_place 254 = .ok (.getfield 89, 3) := by decide +kernel
theorem dX5_place_257 : decode cX5_place 257 = .ok (.iconst 1, 1) := by decide +kernel
theorem dX5_place_258 : decode cX5_place 258 = .ok (.isub, 1) := by decide +kernel
theorem dX5_place_259 : decode cX5_place 259 = .ok (.iaload, 1) := by decide +kernel
theorem dX5_place_260 : decode cX5_place 260 = .ok (.isub, 1) := by decide +kernel
theorem dX5_place_261 : decode cX5_place 261 = .ok (.iload_n 1, 1) := by decide +kernel
theorem dX5_place_262 : decode cX5_place 262 = .ok (.imul, 1) := by decide +kernel
theorem dX5_place_263 : decode cX5_place 263 = .ok (.iadd, 1) := by decide +kernel
theorem dX5_place_264 : decode cX5_place 264 = .ok (.ireturn, 1) := by decide +kernel
set_option maxRecDepth 20000 in
theorem ggX5_image_X5_in : GoodIn wsX5_image wsX5_in := goodIn_r _ [9] (by decide +kernel) (by decide +kernel)
set_option maxRecDepth 20000 in
theorem gX5_image_X5_in : GoodIn wsX5_image (va_wsS RX5 66 yX5_in wsX5_in) := goodIn_app (goodIn_of _ (by decide +kernel)) ggX5_image_X5_in
theorem dX5_image_0 : decode cX5_image 0 = .ok (.iload_n 1, 1) := by decide +kernel
theorem dX5_image_1 : decode cX5_image 1 = .ok (.iconst 0, 1) := by decide +kernel
theorem dX5_image_2 : decode cX5_image 2 = .ok (.iconst 1, 1) := by decide +kernel
theorem dX5_image_3 : decode cX5_image 3 = .ok (.invokestatic 66, 3) := by decide +kernel
theorem dX5_image_6 : decode cX5_image 6 = .ok (.ifCond .ne 6, 3) := by decide +kernel
theorem dX5_image_9 : decode cX5_image 9 = .ok (.bipush (-2), 2) := by decide +kernel
theorem dX5_image_11 : decode cX5_image 11 = .ok (.ireturn, 1) := by decide +kernel
theorem dX5_image_12 : decode cX5_image 12 = .ok (.iconst 0, 1) := by decide +kernel
theorem dX5_image_13 : decode cX5_image 13 = .ok (.istore_n 2, 1) := by decide +kernel
theorem dX5_image_14 : decode cX5_image 14 = .ok (.iload_n 2, 1) := by decide +kernel
theorem dX5_image_15 : decode cX5_image 15 = .ok (.bipush 64, 2) := by decide +kernel
theorem dX5_image_17 : decode cX5_image 17 = .ok (.if_icmp .ge 26, 3) := by decide +kernel
theorem dX5_image_20 : decode cX5_image 20 = .ok (.aload_n 0, 1) := by decide +kernel
theorem dX5_image_21 : decode cX5_image 21 = .ok (.getfield 59, 3) := by decide +kernel
theorem dX5_image_24 : decode cX5_image 24 = .ok (.bipush 70, 2) := by decide +kernel
theorem dX5_image_26 : decode cX5_image 26 = .ok (.iload_n 1, 1) := by decide +kernel
theorem dX5_image_27 : decode cX5_image 27 = .ok (.imul, 1) := by decide +kernel
theorem dX5_image_28 : decode cX5_image 28 = .ok (.iload_n 2, 1) := by decide +kernel
theorem dX5_image_29 : decode cX5_image 29 = .ok (.iadd, 1) := by decide +kernel
theorem dX5_image_30 : decode cX5_image 30 = .ok (.aload_n 0, 1) := by decide +kernel
theorem dX5_image_31 : decode cX5_image 31 = .ok (.getfield 7, 3) := by decide +kernel
theorem dX5_image_34 : decode cX5_image 34 = .ok (.iload_n 2, 1) := by decide +kernel
theorem dX5_image_35 : decode cX5_image 35 = .ok (.iaload, 1) := by decide +kernel
theorem dX5_image_36 : decode cX5_image 36 = .ok (.iastore, 1) := by decide +kernel
theorem dX5_image_37 : decode cX5_image 37 = .ok (.iinc 2 1, 3) := by decide +kernel
theorem dX5_image_40 : decode cX5_image 40 = .ok (.goto (-26), 3) := by decide +kernel
theorem dX5_image_43 : decode cX5_image 43 = .ok (.iconst 0, 1) := by decide +kernel
theorem dX5_image_44 : decode cX5_image 44 = .ok (.istore_n 2, 1) := by decide +kernel
theorem dX5_image_45 : decode cX5_image 45 = .ok (.iload_n 2, 1) := by decide +kernel
theorem dX5_image_46 : decode cX5_image 46 = .ok (.iconst 5, 1) := by decide +kernel
theorem dX5_image_47 : decode cX5_image 47 = .ok (.if_icmp .ge 29, 3) := by decide +kernel
theorem dX5_image_50 : decode cX5_image 50 = .ok (.aload_n 0, 1) := by decide +kernel
theorem dX5_image_51 : decode cX5_image 51 = .ok (.getfield 59, 3) := by decide +kernel
theorem dX5_image_54 : decode cX5_image 54 = .ok (.bipush 70, 2) := by decide +kernel
theorem dX5_image_56 : decode cX5_image 56 = .ok (.iload_n 1, 1) := by decide +kernel
theorem dX5_image_57 : decode cX5_image 57 = .ok (.imul, 1) := by decide +kernel
theorem dX5_image_58 : decode cX5_image 58 = .ok (.bipush 64, 2) := by decide +kernel
theorem dX5_image_60 : decode cX5_image 60 = .ok (.iadd, 1) := by decide +kernel
theorem dX5_image_61 : decode cX5_image 61 = .ok (.iload_n 2, 1) := by decide +kernel
theorem dX5_image_62 : decode cX5_image 62 = .ok (.iadd, 1) := by decide +kernel
theorem dX5_image_63 : decode cX5_image 63 = .ok (.aload_n 0, 1) := by decide +kernel
theorem dX5_image_64 : decode cX5_image 64 = .ok (.getfield 13, 3) := by decide +kernel
theorem dX5_image_67 : decode cX5_image 67 = .ok (.iload_n 2, 1) := by decide +kernel
theorem dX5_image_68 : decode cX5_image 68 = .ok (.iaload, 1) := by decide +kernel
theorem dX5_image_69 : decode cX5_image 69 = .ok (.iastore, 1) := by decide +kernel
theorem dX5_image_70 : decode cX5_image 70 = .ok (.iinc 2 1, 3) := by decide +kernel
theorem dX5_image_73 : decode cX5_image 73 = .ok (.goto (-28), 3) := by decide +kernel
theorem dX5_image_76 : decode cX5_image 76 = .ok (.aload_n 0, 1) := by decide +kernel
theorem dX5_image_77 : decode cX5_image 77 = .ok (.getfield 59, 3) := by decide +kernel
theorem dX5_image_80 : decode cX5_image 80 = .ok (.bipush 70, 2) := by decide +kernel
theorem dX5_image_82 : decode cX5_image 82 = .ok (.iload_n 1, 1) := by decide +kernel
theorem dX5_image_83 : decode cX5_image 83 = .ok (.imul, 1) := by decide +kernel
theorem dX5_image_84 : decode cX5_image 84 = .ok (.bipush 69, 2) := by decide +kernel
theorem dX5_image_86 : decode cX5_image 86 = .ok (.iadd, 1) := by decide +kernel
theorem dX5_image_87 : decode cX5_image 87 = .ok (.aload_n 0, 1) := by decide +kernel
theorem dX5_image_88 : decode cX5_image 88 = .ok (.getfield 82, 3) := by decide +kernel
theorem dX5_image_91 : decode cX5_image 91 = .ok (.iastore, 1) := by decide +kernel
theorem dX5_image_92 : decode cX5_image 92 = .ok (.aload_n 0, 1) := by decide +kernel
theorem dX5_image_93 : decode cX5_image 93 = .ok (.getfield 62, 3) := by decide +kernel
theorem dX5_image_96 : decode cX5_image 96 = .ok (.iload_n 1, 1) := by decide +kernel
theorem dX5_image_97 : decode cX5_image 97 = .ok (.iconst 1, 1) := by decide +kernel
theorem dX5_image_98 : decode cX5_image 98 = .ok (.bastore, 1) := by decide +kernel
theorem dX5_image_99 : decode cX5_image 99 = .ok (.iconst 1, 1) := by decide +kernel
theorem dX5_image_100 : decode cX5_image 100 = .ok (.ireturn, 1) := by decide +kernel
set_option maxRecDepth 20000 in
theorem ggX5_restore_X5_in : GoodIn wsX5_restore wsX5_in := goodIn_r _ [9] (by decide +kernel) (by decide +kernel)
set_option maxRecDepth 20000 in
theorem gX5_restore_X5_in : GoodIn wsX5_restore (va_wsS RX5 66 yX5_in wsX5_in) := goodIn_app (goodIn_of _ (by decide +kernel)) ggX5_restore_X5_in
theorem dX5_restore_0 : decode cX5_restore 0 = .ok (.iload_n 1, 1) := by decide +kernel
theorem dX5_restore_1 : decode cX5_restore 1 = .ok (.iconst 0, 1) := by decide +kernel
theorem dX5_restore_2 : decode cX5_restore 2 = .ok (.iconst 1, 1) := by decide +kernel
theorem dX5_restore_3 : decode cX5_restore 3 = .ok (.invokestatic 66, 3) := by decide +kernel
theorem dX5_restore_6 : decode cX5_restore 6 = .ok (.ifCond .ne 6, 3) := by decide +kernel
theorem dX5_restore_9 : decode cX5_restore 9 = .ok (.bipush (-2), 2) := by decide +kernel
theorem dX5_restore_11 : decode cX5_restore 11 = .ok (.ireturn, 1) := by decide +kernel
theorem dX5_restore_12 : decode cX5_restore 12 = .ok (.aload_n 0, 1) := by decide +kernel
theorem dX5_restore_13 : decode cX5_restore 13 = .ok (.getfield 62, 3) := by decide +kernel
theorem dX5_restore_16 : decode cX5_restore 16 = .ok (.iload_n 1, 1) := by decide +kernel
theorem dX5_restore_17 : decode cX5_restore 17 = .ok (.baload, 1) := by decide +kernel
theorem dX5_restore_18 : decode cX5_restore 18 = .ok (.ifCond .ne 6, 3) := by decide +kernel
theorem dX5_restore_21 : decode cX5_restore 21 = .ok (.bipush (-3), 2) := by decide +kernel
theorem dX5_restore_23 : decode cX5_restore 23 = .ok (.ireturn, 1) := by decide +kernel
theorem dX5_restore_24 : decode cX5_restore 24 = .ok (.iconst 0, 1) := by decide +kernel
theorem dX5_restore_25 : decode cX5_restore 25 = .ok (.istore_n 2, 1) := by decide +kernel
theorem dX5_restore_26 : decode cX5_restore 26 = .ok (.iload_n 2, 1) := by decide +kernel
theorem dX5_restore_27 : decode cX5_restore 27 = .ok (.bipush 64, 2) := by decide +kernel
theorem dX5_restore_29 : decode cX5_restore 29 = .ok (.if_icmp .ge 26, 3) := by decide +kernel
theorem dX5_restore_32 : decode cX5_restore 32 = .ok (.aload_n 0, 1) := by decide +kernel
theorem dX5_restore_33 : decode cX5_restore 33 = .ok (.getfield 7, 3) := by decide +kernel
theorem dX5_restore_36 : decode cX5_restore 36 = .ok (.iload_n 2, 1) := by decide +kernel
theorem dX5_restore_37 : decode cX5_restore 37 = .ok (.aload_n 0, 1) := by decide +kernel
theorem dX5_restore_38 : decode cX5_restore 38 = .ok (.getfield 59, 3) := by decide +kernel
theorem dX5_restore_41 : decode cX5_restore 41 = .ok (.bipush 70, 2) := by decide +kernel
theorem dX5_restore_43 : decode cX5_restore 43 = .ok (.iload_n 1, 1) := by decide +kernel
theorem dX5_restore_44 : decode cX5_restore 44 = .ok (.imul, 1) := by decide +kernel
theorem dX5_restore_45 : decode cX5_restore 45 = .ok (.iload_n 2, 1) := by decide +kernel
theorem dX5_restore_46 : decode cX5_restore 46 = .ok (.iadd, 1) := by decide +kernel
theorem dX5_restore_47 : decode cX5_restore 47 = .ok (.iaload, 1) := by decide +kernel
theorem dX5_restore_48 : decode cX5_restore 48 = .ok (.iastore, 1) := by decide +kernel
theorem dX5_restore_49 : decode cX5_restore 49 = .ok (.iinc 2 1, 3) := by decide +kernel
theorem dX5_restore_52 : decode cX5_restore 52 = .ok (.goto (-26), 3) := by decide +kernel
theorem dX5_restore_55 : decode cX5_restore 55 = .ok (.iconst 0, 1) := by decide +kernel
theorem dX5_restore_56 : decode cX5_restore 56 = .ok (.istore_n 2, 1) := by decide +kernel
theorem dX5_restore_57 : decode cX5_restore 57 = .ok (.iload_n 2, 1) := by decide +kernel
theorem dX5_restore_58 : decode cX5_restore 58 = .ok (.iconst 5, 1) := by decide +kernel
theorem dX5_restore_59 : decode cX5_restore 59 = .ok (.if_icmp .ge 29, 3) := by decide +kernel
theorem dX5_restore_62 : decode cX5_restore 62 = .ok (.aload_n 0, 1) := by decide +kernel
theorem dX5_restore_63 : decode cX5_restore 63 = .ok (.getfield 13, 3) := by decide +kernel
theorem dX5_restore_66 : decode cX5_restore 66 = .ok (.iload_n 2, 1) := by decide +kernel
theorem dX5_restore_67 : decode cX5_restore 67 = .ok (.aload_n 0, 1) := by decide +kernel
theorem dX5_restore_68 : decode cX5_restore 68 = .ok (.getfield 59, 3) := by decide +kernel
theorem dX5_restore_71 : decode cX5_restore 71 = .ok (.bipush 70, 2) := by decide +kernel
theorem dX5_restore_73 : decode cX5_restore 73 = .ok (.iload_n 1, 1) := by decide +kernel
theorem dX5_restore_74 : decode cX5_restore 74 = .ok (.imul, 1) := by decide +kernel
theorem dX5_restore_75 : decode cX5_restore 75 = .ok (.bipush 64, 2) := by decide +kernel
theorem dX5_restore_77 : decode cX5_restore 77 = .ok (.iadd, 1) := by decide +kernel
theorem dX5_restore_78 : decode cX5_restore 78 = .ok (.iload_n 2, 1) := by decide +kernel
theorem dX5_restore_79 : decode cX5_restore 79 = .ok (.iadd, 1) := by decide +kernel
theorem dX5_restore_80 : decode cX5_restore 80 = .ok (.iaload, 1) := by decide +kernel
theorem dX5_restore_81 : decode cX5_restore 81 = .ok (.iastore, 1) := by decide +kernel
theorem dX5_restore_82 : decode cX5_restore 82 = .ok (.iinc 2 1, 3) := by decide +kernel
theorem dX5_restore_85 : decode cX5_restore 85 = .ok (.goto (-28), 3) := by decide +kernel
theorem dX5_restore_88 : decode cX5_restore 88 = .ok (.aload_n 0, 1) := by decide +kernel
theorem dX5_restore_89 : decode cX5_restore 89 = .ok (.aload_n 0, 1) := by decide +kernel
theorem dX5_restore_90 : decode cX5_restore 90 = .ok (.getfield 59, 3) := by decide +kernel
theorem dX5_restore_93 : decode cX5_restore 93 = .ok (.bipush 70, 2) := by decide +kernel
theorem dX5_restore_95 : decode cX5_restore 95 = .ok (.iload_n 1, 1) := by decide +kernel
theorem dX5_restore_96 : decode cX5_restore 96 = .ok (.imul, 1) := by decide +kernel
theorem dX5_restore_97 : decode cX5_restore 97 = .ok (.bipush 69, 2) := by decide +kernel
theorem dX5_restore_99 : decode cX5_restore 99 = .ok (.iadd, 1) := by decide +kernel
theorem dX5_restore_100 : decode cX5_restore 100 = .ok (.iaload, 1) := by decide +kernel
theorem dX5_restore_101 : decode cX5_restore 101 = .ok (.putfield 82, 3) := by decide +kernel
theorem dX5_restore_104 : decode cX5_restore 104 = .ok (.iconst 1, 1) := by decide +kernel
theorem dX5_restore_105 : decode cX5_restore 105 = .ok (.ireturn, 1) := by decide +kernel
set_option maxRecDepth 20000 in
theorem ggX5_count_X5_layStems : GoodIn wsX5_count wsX5_layStems := goodIn_r _ [10, 3, 2, 11, 12, 13, 14, 15, 16, 17, 18, 9, 19, 20, 21, 22, 23, 24, 25, 26, 27, 28, 29, 30, 31, 32, 4, 33, 34, 5, 35, 36, 37, 38, 39, 40, 44, 45, 46, 47, 48, 49, 50, 51, 52, 53, 54, 55, 56, 57, 58, 59, 60, 61, 62, 63, 64, 65, 66] (by decide +kernel) (by decide +kernel)
set_option maxRecDepth 20000 in
theorem gX5_count_X5_layStems : GoodIn wsX5_count (wsV RX5 108 RX5 yX5_layStems wsX5_layStems) := goodIn_app (goodIn_of _ (by decide +kernel)) ggX5_count_X5_layStems
set_option maxRecDepth 20000 in
theorem ggX5_count_X5_in : GoodIn wsX5_count wsX5_in := goodIn_r _ [43] (by decide +kernel) (by decide +kernel)
set_option maxRecDepth 20000 in
theorem gX5_count_X5_in : GoodIn wsX5_count (va_wsS RX5 66 yX5_in wsX5_in) := goodIn_app (goodIn_of _ (by decide +kernel)) ggX5_count_X5_in
theorem dX5_count_0 : decode cX5_count 0 = .ok (.aload_n 0, 1) := by decide +kernel
theorem dX5_count_1 : decode cX5_count 1 = .ok (.invokevirtual 108, 3) := by decide +kernel
theorem dX5_count_4 : decode cX5_count 4 = .ok (.iload_n 1, 1) := by decide +kernel
theorem dX5_count_5 : decode cX5_count 5 = .ok (.tableswitch 51 0 3 #[31, 36, 41, 46], 31) := by decide +kernel
theorem dX5_count_36 : decode cX5_count 36 = .ok (.aload_n 0, 1) := by decide +kernel
theorem dX5_count_37 : decode cX5_count 37 = .ok (.getfield 70, 3) := by decide +kernel
theorem dX5_count_40 : decode cX5_count 40 = .ok (.ireturn, 1) := by decide +kernel
theorem dX5_count_41 : decode cX5_count 41 = .ok (.aload_n 0, 1) := by decide +kernel
theorem dX5_count_42 : decode cX5_count 42 = .ok (.getfield 82, 3) := by decide +kernel
theorem dX5_count_45 : decode cX5_count 45 = .ok (.ireturn, 1) := by decide +kernel
theorem dX5_count_46 : decode cX5_count 46 = .ok (.aload_n 0, 1) := by decide +kernel
theorem dX5_count_47 : decode cX5_count 47 = .ok (.getfield 89, 3) := by decide +kernel
theorem dX5_count_50 : decode cX5_count 50 = .ok (.ireturn, 1) := by decide +kernel
theorem dX5_count_51 : decode cX5_count 51 = .ok (.aload_n 0, 1) := by decide +kernel
theorem dX5_count_52 : decode cX5_count 52 = .ok (.getfield 102, 3) := by decide +kernel
theorem dX5_count_55 : decode cX5_count 55 = .ok (.ireturn, 1) := by decide +kernel
theorem dX5_count_56 : decode cX5_count 56 = .ok (.iload_n 1, 1) := by decide +kernel
theorem dX5_count_57 : decode cX5_count 57 = .ok (.iconst 4, 1) := by decide +kernel
theorem dX5_count_58 : decode cX5_count 58 = .ok (.bipush 8, 2) := by decide +kernel
theorem dX5_count_60 : decode cX5_count 60 = .ok (.invokestatic 66, 3) := by decide +kernel
theorem dX5_count_63 : decode cX5_count 63 = .ok (.ifCond .eq 14, 3) := by decide +kernel
theorem dX5_count_66 : decode cX5_count 66 = .ok (.aload_n 0, 1) := by decide +kernel
theorem dX5_count_67 : decode cX5_count 67 = .ok (.getfield 13, 3) := by decide +kernel
theorem dX5_count_70 : decode cX5_count 70 = .ok (.iload_n 1, 1) := by decide +kernel
theorem dX5_count_71 : decode cX5_count 71 = .ok (.iconst 4, 1) := by decide +kernel
theorem dX5_count_72 : decode cX5_count 72 = .ok (.isub, 1) := by decide +kernel
theorem dX5_count_73 : decode cX5_count 73 = .ok (.iaload, 1) := by decide +kernel
theorem dX5_count_74 : decode cX5_count 74 = .ok (.goto 5, 3) := by decide +kernel
theorem dX5_count_77 : decode cX5_count 77 = .ok (.bipush (-2), 2) := by decide +kernel
theorem dX5_count_79 : decode cX5_count 79 = .ok (.ireturn, 1) := by decide +kernel
