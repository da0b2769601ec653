theorem dX5_layFit_75 : decode cX5_layFit 75 = .ok (.iload_n 3, 1) := by decide +kernel
theorem dX5_layFit_76 : decode cX5_layFit 76 = .ok (.aload_n 0, 1) := by decide +kernel
theorem dX5_layFit_77 : decode cX5_layFit 77 = .ok (.getfield 56, 3) := by decide +kernel
theorem dX5_layFit_80 : decode cX5_layFit 80 = .ok (.iload_n 2, 1) := by decide +kernel
theorem dX5_layFit_81 : decode cX5_layFit 81 = .ok (.iaload, 1) := by decide +kernel
theorem dX5_layFit_82 : decode cX5_layFit 82 = .ok (.iadd, 1) := by decide +kernel
theorem dX5_layFit_83 : decode cX5_layFit 83 = .ok (.iload_n 1, 1) := by decide +kernel
theorem dX5_layFit_84 : decode cX5_layFit 84 = .ok (.if_icmp .gt 158, 3) := by decide +kernel
theorem dX5_layFit_87 : decode cX5_layFit 87 = .ok (.iload_n 2, 1) := by decide +kernel
theorem dX5_layFit_88 : decode cX5_layFit 88 = .ok (.aload_n 0, 1) := by decide +kernel
theorem dX5_layFit_89 : decode cX5_layFit 89 = .ok (.getfield 89, 3) := by decide +kernel
theorem dX5_layFit_92 : decode cX5_layFit 92 = .ok (.iconst 1, 1) := by decide +kernel
theorem dX5_layFit_93 : decode cX5_layFit 93 = .ok (.isub, 1) := by decide +kernel
theorem dX5_layFit_94 : decode cX5_layFit 94 = .ok (.if_icmp .ne 7, 3) := by decide +kernel
theorem dX5_layFit_97 : decode cX5_layFit 97 = .ok (.lconst 0, 1) := by decide +kernel
theorem dX5_layFit_98 : decode cX5_layFit 98 = .ok (.goto 6, 3) := by decide +kernel
theorem dX5_layFit_101 : decode cX5_layFit 101 = .ok (.ldc2_w 129, 3) := by decide +kernel
theorem dX5_layFit_104 : decode cX5_layFit 104 = .ok (.lstore 4, 2) := by decide +kernel
theorem dX5_layFit_106 : decode cX5_layFit 106 = .ok (.iload_n 3, 1) := by decide +kernel
theorem dX5_layFit_107 : decode cX5_layFit 107 = .ok (.aload_n 0, 1) := by decide +kernel
theorem dX5_layFit_108 : decode cX5_layFit 108 = .ok (.getfield 56, 3) := by decide +kernel
theorem dX5_layFit_111 : decode cX5_layFit 111 = .ok (.iload_n 2, 1) := by decide +kernel
theorem dX5_layFit_112 : decode cX5_layFit 112 = .ok (.iaload, 1) := by decide +kernel
theorem dX5_layFit_113 : decode cX5_layFit 113 = .ok (.iadd, 1) := by decide +kernel
theorem dX5_layFit_114 : decode cX5_layFit 114 = .ok (.iconst 1, 1) := by decide +kernel
theorem dX5_layFit_115 : decode cX5_layFit 115 = .ok (.iadd, 1) := by decide +kernel
theorem dX5_layFit_116 : decode cX5_layFit 116 = .ok (.istore 6, 2) := by decide +kernel
theorem dX5_layFit_118 : decode cX5_layFit 118 = .ok (.iload_n 2, 1) := by decide +kernel
theorem dX5_layFit_119 : decode cX5_layFit 119 = .ok (.aload_n 0, 1) := by decide +kernel
theorem dX5_layFit_120 : decode cX5_layFit 120 = .ok (.getfield 89, 3) := by decide +kernel
theorem dX5_layFit_123 : decode cX5_layFit 123 = .ok (.iconst 1, 1) := by decide +kernel
theorem dX5_layFit_124 : decode cX5_layFit 124 = .ok (.isub, 1) := by decide +kernel
theorem dX5_layFit_125 : decode cX5_layFit 125 = .ok (.if_icmp .ge 87, 3) := by decide +kernel
theorem dX5_layFit_128 : decode cX5_layFit 128 = .ok (.iload 6, 2) := by decide +kernel
theorem dX5_layFit_130 : decode cX5_layFit 130 = .ok (.bipush 60, 2) := by decide +kernel
theorem dX5_layFit_132 : decode cX5_layFit 132 = .ok (.if_icmp .gt 80, 3) := by decide +kernel
theorem dX5_layFit_135 : decode cX5_layFit 135 = .ok (.aload_n 0, 1) := by decide +kernel
theorem dX5_layFit_136 : decode cX5_layFit 136 = .ok (.getfield 49, 3) := by decide +kernel
theorem dX5_layFit_139 : decode cX5_layFit 139 = .ok (.bipush 61, 2) := by decide +kernel
theorem dX5_layFit_141 : decode cX5_layFit 141 = .ok (.iload_n 2, 1) := by decide +kernel
theorem dX5_layFit_142 : decode cX5_layFit 142 = .ok (.imul, 1) := by decide +kernel
theorem dX5_layFit_143 : decode cX5_layFit 143 = .ok (.bipush 61, 2) := by decide +kernel
theorem dX5_layFit_145 : decode cX5_layFit 145 = .ok (.iadd, 1) := by decide +kernel
theorem dX5_layFit_146 : decode cX5_layFit 146 = .ok (.iload 6, 2) := by decide +kernel
theorem dX5_layFit_148 : decode cX5_layFit 148 = .ok (.iadd, 1) := by decide +kernel
theorem dX5_layFit_149 : decode cX5_layFit 149 = .ok (.laload, 1) := by decide +kernel
theorem dX5_layFit_150 : decode cX5_layFit 150 = .ok (.ldc2_w 129, 3) := by decide +kernel
theorem dX5_layFit_153 : decode cX5_layFit 153 = .ok (.lcmp, 1) := by decide +kernel
theorem dX5_layFit_154 : decode cX5_layFit 154 = .ok (.ifCond .ge 52, 3) := by decide +kernel
theorem dX5_layFit_157 : decode cX5_layFit 157 = .ok (.aload_n 0, 1) := by decide +kernel
theorem dX5_layFit_158 : decode cX5_layFit 158 = .ok (.aload_n 0, 1) := by decide +kernel
theorem dX5_layFit_159 : decode cX5_layFit 159 = .ok (.iload_n 2, 1) := by decide +kernel
theorem dX5_layFit_160 : decode cX5_layFit 160 = .ok (.iconst 1, 1) := by decide +kernel
theorem dX5_layFit_161 : decode cX5_layFit 161 = .ok (.iadd, 1) := by decide +kernel
theorem dX5_layFit_162 : decode cX5_layFit 162 = .ok (.iload_n 3, 1) := by decide +kernel
theorem dX5_layFit_163 : decode cX5_layFit 163 = .ok (.iload 6, 2) := by decide +kernel
theorem dX5_layFit_165 : decode cX5_layFit 165 = .ok (.iload_n 1, 1) := by decide +kernel
theorem dX5_layFit_166 : decode cX5_layFit 166 = .ok (.invokevirtual 131, 3) := by decide +kernel
theorem dX5_layFit_169 : decode cX5_layFit 169 = .ok (.aload_n 0, 1) := by decide +kernel
theorem dX5_layFit_170 : decode cX5_layFit 170 = .ok (.getfield 49, 3) := by decide +kernel
theorem dX5_layFit_173 : decode cX5_layFit 173 = .ok (.bipush 61, 2) := by decide +kernel
theorem dX5_layFit_175 : decode cX5_layFit 175 = .ok (.iload_n 2, 1) := by decide +kernel
theorem dX5_layFit_176 : decode cX5_layFit 176 = .ok (.imul, 1) := by decide +kernel
theorem dX5_layFit_177 : decode cX5_layFit 177 = .ok (.bipush 61, 2) := by decide +kernel
theorem dX5_layFit_179 : decode cX5_layFit 179 = .ok (.iadd, 1) := by decide +kernel
theorem dX5_layFit_180 : decode cX5_layFit 180 = .ok (.iload 6, 2) := by decide +kernel
theorem dX5_layFit_182 : decode cX5_layFit 182 = .ok (.iadd, 1) := by decide +kernel
theorem dX5_layFit_183 : decode cX5_layFit 183 = .ok (.laload, 1) := by decide +kernel
theorem dX5_layFit_184 : decode cX5_layFit 184 = .ok (.invokevirtual 135, 3) := by decide +kernel
theorem dX5_layFit_187 : decode cX5_layFit 187 = .ok (.lstore 7, 2) := by decide +kernel
theorem dX5_layFit_189 : decode cX5_layFit 189 = .ok (.lload 7, 2) := by decide +kernel
theorem dX5_layFit_191 : decode cX5_layFit 191 = .ok (.lload 4, 2) := by decide +kernel
theorem dX5_layFit_193 : decode cX5_layFit 193 = .ok (.lcmp, 1) := by decide +kernel
theorem dX5_layFit_194 : decode cX5_layFit 194 = .ok (.ifCond .ge 8, 3) := by decide +kernel
theorem dX5_layFit_197 : decode cX5_layFit 197 = .ok (.lload 7, 2) := by decide +kernel
theorem dX5_layFit_199 : decode cX5_layFit 199 = .ok (.goto 5, 3) := by decide +kernel
theorem dX5_layFit_202 : decode cX5_layFit 202 = .ok (.lload 4, 2) := by decide +kernel
theorem dX5_layFit_204 : decode cX5_layFit 204 = .ok (.lstore 4, 2) := by decide +kernel
theorem dX5_layFit_206 : decode cX5_layFit 206 = .ok (.iinc 6 1, 3) := by decide +kernel
theorem dX5_layFit_209 : decode cX5_layFit 209 = .ok (.goto (-91), 3) := by decide +kernel
theorem dX5_layFit_212 : decode cX5_layFit 212 = .ok (.lload 4, 2) := by decide +kernel
theorem dX5_layFit_214 : decode cX5_layFit 214 = .ok (.ldc2_w 129, 3) := by decide +kernel
theorem dX5_layFit_217 : decode cX5_layFit 217 = .ok (.lcmp, 1) := by decide +kernel
theorem dX5_layFit_218 : decode cX5_layFit 218 = .ok (.ifCond .ge 19, 3) := by decide +kernel
theorem dX5_layFit_221 : decode cX5_layFit 221 = .ok (.aload_n 0, 1) := by decide +kernel
theorem dX5_layFit_222 : decode cX5_layFit 222 = .ok (.lload 4, 2) := by decide +kernel
theorem dX5_layFit_224 : decode cX5_layFit 224 = .ok (.aload_n 0, 1) := by decide +kernel
theorem dX5_layFit_225 : decode cX5_layFit 225 = .ok (.iload_n 2, 1) := by decide +kernel
theorem dX5_layFit_226 : decode cX5_layFit 226 = .ok (.iload_n 3, 1) := by decide +kernel
theorem dX5_layFit_227 : decode cX5_layFit 227 = .ok (.iload_n 1, 1) := by decide +kernel
theorem dX5_layFit_228 : decode cX5_layFit 228 = .ok (.invokevirtual 139, 3) := by decide +kernel
theorem dX5_layFit_231 : decode cX5_layFit 231 = .ok (.invokevirtual 135, 3) := by decide +kernel
theorem dX5_layFit_234 : decode cX5_layFit 234 = .ok (.goto 6, 3) := by decide +kernel
theorem dX5_layFit_237 : decode cX5_layFit 237 = .ok (.ldc2_w 129, 3) := by decide +kernel
theorem dX5_layFit_240 : decode cX5_layFit 240 = .ok (.lstore 4, 2) := by decide +kernel
theorem dX5_layFit_242 : decode cX5_layFit 242 = .ok (.aload_n 0, 1) := by decide +kernel
theorem dX5_layFit_243 : decode cX5_layFit 243 = .ok (.getfield 49, 3) := by decide +kernel
theorem dX5_layFit_246 : decode cX5_layFit 246 = .ok (.bipush 61, 2) := by decide +kernel
theorem dX5_layFit_248 : decode cX5_layFit 248 = .ok (.iload_n 2, 1) := by decide +kernel
theorem dX5_layFit_249 : decode cX5_layFit 249 = .ok (.imul, 1) := by decide +kernel
theorem dX5_layFit_250 : decode cX5_layFit 250 = .ok (.iload_n 3, 1) := by decide +kernel
theorem dX5_layFit_251 : decode cX5_layFit 251 = .ok (.iadd, 1) := by decide +kernel
theorem dX5_layFit_252 : decode cX5_layFit 252 = .ok (.lload 4, 2) := by decide +kernel
theorem dX5_layFit_254 : decode cX5_layFit 254 = .ok (.lastore, 1) := by decide +kernel
theorem dX5_layFit_255 : decode cX5_layFit 255 = .ok (.iinc 3 1, 3) := by decide +kernel
theorem dX5_layFit_258 : decode cX5_layFit 258 = .ok (.goto (-194), 3) := by decide +kernel
theorem dX5_layFit_261 : decode cX5_layFit 261 = .ok (.iinc 2 (-1), 3) := by decide +kernel
theorem dX5_layFit_264 : decode cX5_layFit 264 = .ok (.goto (-206), 3) := by decide +kernel
theorem dX5_layFit_267 : decode cX5_layFit 267 = .ok (.aload_n 0, 1) := by decide +kernel
theorem dX5_layFit_268 : decode cX5_layFit 268 = .ok (.ldc2_w 129, 3) := by decide +kernel
theorem dX5_layFit_271 : decode cX5_layFit 271 = .ok (.putfield 125, 3) := by decide +kernel
theorem dX5_layFit_274 : decode cX5_layFit 274 = .ok (.iconst 0, 1) := by decide +kernel
theorem dX5_layFit_275 : decode cX5_layFit 275 = .ok (.istore_n 2, 1) := by decide +kernel
theorem dX5_layFit_276 : decode cX5_layFit 276 = .ok (.iload_n 2, 1) := by decide +kernel
theorem dX5_layFit_277 : decode cX5_layFit 277 = .ok (.bipush 60, 2) := by decide +kernel
theorem dX5_layFit_279 : decode cX5_layFit 279 = .ok (.if_icmp .gt 40, 3) := by decide +kernel
theorem dX5_layFit_282 : decode cX5_layFit 282 = .ok (.aload_n 0, 1) := by decide +kernel
theorem dX5_layFit_283 : decode cX5_layFit 283 = .ok (.aload_n 0, 1) := by decide +kernel
theorem dX5_layFit_284 : decode cX5_layFit 284 = .ok (.getfield 49, 3) := by decide +kernel
theorem dX5_layFit_287 : decode cX5_layFit 287 = .ok (.iload_n 2, 1) := by decide +kernel
theorem dX5_layFit_288 : decode cX5_layFit 288 = .ok (.laload, 1) := by decide +kernel
theorem dX5_layFit_289 : decode cX5_layFit 289 = .ok (.aload_n 0, 1) := by decide +kernel
theorem dX5_layFit_290 : decode cX5_layFit 290 = .ok (.getfield 125, 3) := by decide +kernel
theorem dX5_layFit_293 : decode cX5_layFit 293 = .ok (.lcmp, 1) := by decide +kernel
theorem dX5_layFit_294 : decode cX5_layFit 294 = .ok (.ifCond .ge 12, 3) := by decide +kernel
theorem dX5_layFit_297 : decode cX5_layFit 297 = .ok (.aload_n 0, 1) := by decide +kernel
theorem dX5_layFit_298 : decode cX5_layFit 298 = .ok (.getfield 49, 3) := by decide +kernel
theorem dX5_layFit_301 : decode cX5_layFit 301 = .ok (.iload_n 2, 1) := by decide +kernel
theorem dX5_layFit_302 : decode cX5_layFit 302 = .ok (.laload, 1) := by decide +kernel
theorem dX5_layFit_303 : decode cX5_layFit 303 = .ok (.goto 7, 3) := by decide +kernel
theorem dX5_layFit_306 : decode cX5_layFit 306 = .ok (.aload_n 0, 1) := by decide +kernel
theorem dX5_layFit_307 : decode cX5_layFit 307 = .ok (.getfield 125, 3) := by decide +kernel
theorem dX5_layFit_310 : decode cX5_layFit 310 = .ok (.putfield 125, 3) := by decide +kernel
theorem dX5_layFit_313 : decode cX5_layFit 313 = .ok (.iinc 2 1, 3) := by decide +kernel
theorem dX5_layFit_316 : decode cX5_layFit 316 = .ok (.goto (-40), 3) := by decide +kernel
theorem dX5_layFit_319 : decode cX5_layFit 319 = .ok (.aload_n 0, 1) := by decide +kernel
theorem dX5_layFit_320 : decode cX5_layFit 320 = .ok (.getfield 125, 3) := by decide +kernel
theorem dX5_layFit_323 : decode cX5_layFit 323 = .ok (.ldc2_w 129, 3) := by decide +kernel
theorem dX5_layFit_326 : decode cX5_layFit 326 = .ok (.lcmp, 1) := by decide +kernel
theorem dX5_layFit_327 : decode cX5_layFit 327 = .ok (.ifCond .ne 5, 3) := by decide +kernel
theorem dX5_layFit_330 : decode cX5_layFit 330 = .ok (.iconst 0, 1) := by decide +kernel
theorem dX5_layFit_331 : decode cX5_layFit 331 = .ok (.ireturn, 1) := by decide +kernel
theorem dX5_layFit_332 : decode cX5_layFit 332 = .ok (.lconst 0, 1) := by decide +kernel
theorem dX5_layFit_333 : decode cX5_layFit 333 = .ok (.lstore_n 2, 1) := by decide +kernel
theorem dX5_layFit_334 : decode cX5_layFit 334 = .ok (.iconst 0, 1) := by decide +kernel
theorem dX5_layFit_335 : decode cX5_layFit 335 = .ok (.istore 4, 2) := by decide +kernel
theorem dX5_layFit_337 : decode cX5_layFit 337 = .ok (.iload 4, 2) := by decide +kernel
theorem dX5_layFit_339 : decode cX5_layFit 339 = .ok (.aload_n 0, 1) := by decide +kernel
theorem dX5_layFit_340 : decode cX5_layFit 340 = .ok (.getfield 89, 3) := by decide +kernel
theorem dX5_layFit_343 : decode cX5_layFit 343 = .ok (.if_icmp .ge 175, 3) := by decide +kernel
theorem dX5_layFit_346 : decode cX5_layFit 346 = .ok (.iload 4, 2) := by decide +kernel
theorem dX5_layFit_348 : decode cX5_layFit 348 = .ok (.ifCond .ne 7, 3) := by decide +kernel
theorem dX5_layFit_351 : decode cX5_layFit 351 = .ok (.iconst 0, 1) := by decide +kernel
theorem dX5_layFit_352 : decode cX5_layFit 352 = .ok (.goto 24, 3) := by decide +kernel
theorem dX5_layFit_355 : decode cX5_layFit 355 = .ok (.aload_n 0, 1) := by decide +kernel
theorem dX5_layFit_356 : decode cX5_layFit 356 = .ok (.getfield 53, 3) := by decide +kernel
theorem dX5_layFit_359 : decode cX5_layFit 359 = .ok (.iload 4, 2) := by decide +kernel
theorem dX5_layFit_361 : decode cX5_layFit 361 = .ok (.iconst 1, 1) := by decide +kernel
theorem dX5_layFit_362 : decode cX5_layFit 362 = .ok (.isub, 1) := by decide +kernel
theorem dX5_layFit_363 : decode cX5_layFit 363 = .ok (.iaload, 1) := by decide +kernel
theorem dX5_layFit_364 : decode cX5_layFit 364 = .ok (.aload_n 0, 1) := by decide +kernel
theorem dX5_layFit_365 : decode cX5_layFit 365 = .ok (.getfield 56, 3) := by decide +kernel
theorem dX5_layFit_368 : decode cX5_layFit 368 = .ok (.iload 4, 2) := by decide +kernel
theorem dX5_layFit_370 : decode cX5_layFit 370 = .ok (.iconst 1, 1) := by decide +kernel
theorem dX5_layFit_371 : decode cX5_layFit 371 = .ok (.isub, 1) := by decide +kernel
theorem dX5_layFit_372 : decode cX5_layFit 372 = .ok (.iaload, 1) := by decide +kernel
theorem dX5_layFit_373 : decode cX5_layFit 373 = .ok (.iadd, 1) := by decide +kernel
theorem dX5_layFit_374 : decode cX5_layFit 374 = .ok (.iconst 1, 1) := by decide +kernel
theorem dX5_layFit_375 : decode cX5_layFit 375 = .ok (.iadd, 1) := by decide +kernel
theorem dX5_layFit_376 : decode cX5_layFit 376 = .ok (.istore 5, 2) := by decide +kernel
theorem dX5_layFit_378 : decode cX5_layFit 378 = .ok (.iconst 1, 1) := by decide +kernel
theorem dX5_layFit_379 : decode cX5_layFit 379 = .ok (.istore 6, 2) := by decide +kernel
theorem dX5_layFit_381 : decode cX5_layFit 381 = .ok (.iload 5, 2) := by decide +kernel
theorem dX5_layFit_383 : decode cX5_layFit 383 = .ok (.istore 7, 2) := by decide +kernel
theorem dX5_layFit_385 : decode cX5_layFit 385 = .ok (.iload 7, 2) := by decide +kernel
theorem dX5_layFit_387 : decode cX5_layFit 387 = .ok (.bipush 60, 2) := by decide +kernel
theorem dX5_layFit_389 : decode cX5_layFit 389 = .ok (.if_icmp .gt 123, 3) := by decide +kernel
theorem dX5_layFit_392 : decode cX5_layFit 392 = .ok (.iload 6, 2) := by decide +kernel
theorem dX5_layFit_394 : decode cX5_layFit 394 = .ok (.ifCond .eq 118, 3) := by decide +kernel
theorem dX5_layFit_397 : decode cX5_layFit 397 = .ok (.iload 4, 2) := by decide +kernel
theorem dX5_layFit_399 : decode cX5_layFit 399 = .ok (.ifCond .ne 7, 3) := by decide +kernel
theorem dX5_layFit_402 : decode cX5_layFit 402 = .ok (.lload_n 2, 1) := by decide +kernel
theorem dX5_layFit_403 : decode cX5_layFit 403 = .ok (.goto 26, 3) := by decide +kernel
theorem dX5_layFit_406 : decode cX5_layFit 406 = .ok (.aload_n 0, 1) := by decide +kernel
theorem dX5_layFit_407 : decode cX5_layFit 407 = .ok (.lload_n 2, 1) := by decide +kernel
theorem dX5_layFit_408 : decode cX5_layFit 408 = .ok (.aload_n 0, 1) := by decide +kernel
theorem dX5_layFit_409 : decode cX5_layFit 409 = .ok (.iload 4, 2) := by decide +kernel
theorem dX5_layFit_411 : decode cX5_layFit 411 = .ok (.aload_n 0, 1) := by decide +kernel
theorem dX5_layFit_412 : decode cX5_layFit 412 = .ok (.getfield 53, 3) := by decide +kernel
theorem dX5_layFit_415 : decode cX5_layFit 415 = .ok (.iload 4, 2) := by decide +kernel
theorem dX5_layFit_417 : decode cX5_layFit 417 = .ok (.iconst 1, 1) := by decide +kernel
theorem dX5_layFit_418 : decode cX5_layFit 418 = .ok (.isub, 1) := by decide +kernel
theorem dX5_layFit_419 : decode cX5_layFit 419 = .ok (.iaload, 1) := by decide +kernel
theorem dX5_layFit_420 : decode cX5_layFit 420 = .ok (.iload 7, 2) := by decide +kernel
theorem dX5_layFit_422 : decode cX5_layFit 422 = .ok (.iload_n 1, 1) := by decide +kernel
theorem dX5_layFit_423 : decode cX5_layFit 423 = .ok (.invokevirtual 131, 3) := by decide +kernel
theorem dX5_layFit_426 : decode cX5_layFit 426 = .ok (.invokevirtual 135, 3) := by decide +kernel
theorem dX5_layFit_429 : decode cX5_layFit 429 = .ok (.lstore 8, 2) := by decide +kernel
theorem dX5_layFit_431 : decode cX5_layFit 431 = .ok (.aload_n 0, 1) := by decide +kernel
theorem dX5_layFit_432 : decode cX5_layFit 432 = .ok (.getfield 49, 3) := by decide +kernel
theorem dX5_layFit_435 : decode cX5_layFit 435 = .ok (.bipush 61, 2) := by decide +kernel
theorem dX5_layFit_437 : decode cX5_layFit 437 = .ok (.iload 4, 2) := by decide +kernel
theorem dX5_layFit_439 : decode cX5_layFit 439 = .ok (.imul, 1) := by decide +kernel
theorem dX5_layFit_440 : decode cX5_layFit 440 = .ok (.iload 7, 2) := by decide +kernel
theorem dX5_layFit_442 : decode cX5_layFit 442 = .ok (.iadd, 1) := by decide +kernel
theorem dX5_layFit_443 : decode cX5_layFit 443 = .ok (.laload, 1) := by decide +kernel
theorem dX5_layFit_444 : decode cX5_layFit 444 = .ok (.ldc2_w 129, 3) := by decide +kernel
theorem dX5_layFit_447 : decode cX5_layFit 447 = .ok (.lcmp, 1) := by decide +kernel
theorem dX5_layFit_448 : decode cX5_layFit 448 = .ok (.ifCond .ge 58, 3) := by decide +kernel
theorem dX5_layFit_451 : decode cX5_layFit 451 = .ok (.aload_n 0, 1) := by decide +kernel
theorem dX5_layFit_452 : decode cX5_layFit 452 = .ok (.lload 8, 2) := by decide +kernel
theorem dX5_layFit_454 : decode cX5_layFit 454 = .ok (.aload_n 0, 1) := by decide +kernel
theorem dX5_layFit_455 : decode cX5_layFit 455 = .ok (.getfield 49, 3) := by decide +kernel
theorem dX5_layFit_458 : decode cX5_layFit 458 = .ok (.bipush 61, 2) := by decide +kernel
theorem dX5_layFit_460 : decode cX5_layFit 460 = .ok (.iload 4, 2) := by decide +kernel
theorem dX5_layFit_462 : decode cX5_layFit 462 = .ok (.imul, 1) := by decide +kernel
theorem dX5_layFit_463 : decode cX5_layFit 463 = .ok (.iload 7, 2) := by decide +kernel
theorem dX5_layFit_465 : decode cX5_layFit 465 = .ok (.iadd, 1) := by decide +kernel
theorem dX5_layFit_466 : decode cX5_layFit 466 = .ok (.laload, 1) := by decide +kernel
theorem dX5_layFit_467 : decode cX5_layFit 467 = .ok (.invokevirtual 135, 3) := by decide +kernel
theorem dX5_layFit_470 : decode cX5_layFit 470 = .ok (.aload_n 0, 1) := by decide +kernel
theorem dX5_layFit_471 : decode cX5_layFit 471 = .ok (.getfield 125, 3) := by decide +kernel
theorem dX5_layFit_474 : decode cX5_layFit 474 = .ok (.lcmp, 1) := by decide +kernel
theorem dX5_layFit_475 : decode cX5_layFit 475 = .ok (.ifCond .ne 31, 3) := by decide +kernel
theorem dX5_layFit_478 : decode cX5_layFit 478 = .ok (.aload_n 0, 1) := by decide +kernel
theorem dX5_layFit_479 : decode cX5_layFit 479 = .ok (.getfield 53, 3) := by decide +kernel
theorem dX5_layFit_482 : decode cX5_layFit 482 = .ok (.iload 4, 2) := by decide +kernel
theorem dX5_layFit_484 : decode cX5_layFit 484 = .ok (.iload 7, 2) := by decide +kernel
theorem dX5_layFit_486 : decode cX5_layFit 486 = .ok (.iastore, 1) := by decide +kernel
theorem dX5_layFit_487 : decode cX5_layFit 487 = .ok (.aload_n 0, 1) := by decide +kernel
theorem dX5_layFit_488 : decode cX5_layFit 488 = .ok (.lload 8, 2) := by decide +kernel
theorem dX5_layFit_490 : decode cX5_layFit 490 = .ok (.aload_n 0, 1) := by decide +kernel
theorem dX5_layFit_491 : decode cX5_layFit 491 = .ok (.iload 4, 2) := by decide +kernel
theorem dX5_layFit_493 : decode cX5_layFit 493 = .ok (.iload 7, 2) := by decide +kernel
theorem dX5_layFit_495 : decode cX5_layFit 495 = .ok (.iload_n 1, 1) := by decide +kernel
theorem dX5_layFit_496 : decode cX5_layFit 496 = .ok (.invokevirtual 139, 3) := by decide +kernel
theorem dX5_layFit_499 : decode cX5_layFit 499 = .ok (.invokevirtual 135, 3) := by decide +kernel
theorem dX5_layFit_502 : decode cX5_layFit 502 = .ok (.lstore_n 2, 1) := by decide +kernel
theorem dX5_layFit_503 : decode cX5_layFit 503 = .ok (.iconst 0, 1) := by decide +kernel
theorem dX5_layFit_504 : decode cX5_layFit 504 = .ok (.istore 6, 2) := by decide +kernel
theorem dX5_layFit_506 : decode cX5_layFit 506 = .ok (.iinc 7 1, 3) := by decide +kernel
theorem dX5_layFit_509 : decode cX5_layFit 509 = .ok (.goto (-124), 3) := by decide +kernel
theorem dX5_layFit_512 : decode cX5_layFit 512 = .ok (.iinc 4 1, 3) := by decide +kernel
theorem dX5_layFit_515 : decode cX5_layFit 515 = .ok (.goto (-178), 3) := by decide +kernel
theorem dX5_layFit_518 : decode cX5_layFit 518 = .ok (.iconst 1, 1) := by decide +kernel
theorem dX5_layFit_519 : decode cX5_layFit 519 = .ok (.ireturn, 1) := by decide +kernel
set_option maxRecDepth 20000 in
theorem ggX5_fit_X5_layStems : GoodIn wsX5_fit wsX5_layStems := goodIn_r _ [7, 1, 8, 9, 10, 11, 12, 13, 14, 15, 16, 6, 17, 18, 19, 20, 21, 22, 23, 24, 25, 26, 27, 28, 29, 30, 31, 32, 33, 34, 35, 36, 37, 38, 39, 40, 75, 76, 77, 78, 79, 80, 81, 82, 83, 84, 85, 86, 87, 88, 89, 90, 91, 92, 93, 94, 95, 96, 97] (by decide +kernel) (by decide +kernel)
set_option maxRecDepth 20000 in
theorem gX5_fit_X5_layStems : GoodIn wsX5_fit (wsV RX5 108 RX5 yX5_layStems wsX5_layStems) := goodIn_app (goodIn_of _ (by decide +kernel)) ggX5_fit_X5_layStems
set_option maxRecDepth 20000 in
theorem ggX5_fit_X5_in : GoodIn wsX5_fit wsX5_in := goodIn_r _ [43] (by decide +kernel) (by decide +kernel)
set_option maxRecDepth 20000 in
theorem gX5_fit_X5_in : GoodIn wsX5_fit (va_wsS RX5 66 yX5_in wsX5_in) := goodIn_app (goodIn_of _ (by decide +kernel)) ggX5_fit_X5_in
