theorem dL_cell_0 : decode cL_cell 0 = .ok (.iload_n 1, 1) := by decide +kernel
theorem dL_cell_1 : decode cL_cell 1 = .ok (.aload_n 0, 1) := by decide +kernel
theorem dL_cell_2 : decode cL_cell 2 = .ok (.arraylength, 1) := by decide +kernel
theorem dL_cell_3 : decode cL_cell 3 = .ok (.if_icmp .ge 9, 3) := by decide +kernel
theorem dL_cell_6 : decode cL_cell 6 = .ok (.aload_n 0, 1) := by decide +kernel
theorem dL_cell_7 : decode cL_cell 7 = .ok (.iload_n 1, 1) := by decide +kernel
theorem dL_cell_8 : decode cL_cell 8 = .ok (.iaload, 1) := by decide +kernel
theorem dL_cell_9 : decode cL_cell 9 = .ok (.goto 11, 3) := by decide +kernel
theorem dL_cell_12 : decode cL_cell 12 = .ok (.ldc 7, 2) := by decide +kernel
theorem dL_cell_14 : decode cL_cell 14 = .ok (.iload_n 1, 1) := by decide +kernel
theorem dL_cell_15 : decode cL_cell 15 = .ok (.sipush 977, 3) := by decide +kernel
theorem dL_cell_18 : decode cL_cell 18 = .ok (.iadd, 1) := by decide +kernel
theorem dL_cell_19 : decode cL_cell 19 = .ok (.imul, 1) := by decide +kernel
theorem dL_cell_20 : decode cL_cell 20 = .ok (.ireturn, 1) := by decide +kernel
theorem dL_up_0 : decode cL_up 0 = .ok (.iload_n 0, 1) := by decide +kernel
theorem dL_up_1 : decode cL_up 1 = .ok (.ldc 8, 2) := by decide +kernel
theorem dL_up_3 : decode cL_up 3 = .ok (.iand, 1) := by decide +kernel
theorem dL_up_4 : decode cL_up 4 = .ok (.iload_n 1, 1) := by decide +kernel
theorem dL_up_5 : decode cL_up 5 = .ok (.irem, 1) := by decide +kernel
theorem dL_up_6 : decode cL_up 6 = .ok (.ireturn, 1) := by decide +kernel
theorem dL_isStep_0 : decode cL_isStep 0 = .ok (.iload_n 2, 1) := by decide +kernel
theorem dL_isStep_1 : decode cL_isStep 1 = .ok (.iconst 4, 1) := by decide +kernel
theorem dL_isStep_2 : decode cL_isStep 2 = .ok (.ishr, 1) := by decide +kernel
theorem dL_isStep_3 : decode cL_isStep 3 = .ok (.istore_n 3, 1) := by decide +kernel
theorem dL_isStep_4 : decode cL_isStep 4 = .ok (.aload_n 0, 1) := by decide +kernel
theorem dL_isStep_5 : decode cL_isStep 5 = .ok (.iconst 1, 1) := by decide +kernel
theorem dL_isStep_6 : decode cL_isStep 6 = .ok (.invokevirtual 9, 3) := by decide +kernel
theorem dL_isStep_9 : decode cL_isStep 9 = .ok (.istore 4, 2) := by decide +kernel
theorem dL_isStep_11 : decode cL_isStep 11 = .ok (.aload_n 0, 1) := by decide +kernel
theorem dL_isStep_12 : decode cL_isStep 12 = .ok (.iconst 0, 1) := by decide +kernel
theorem dL_isStep_13 : decode cL_isStep 13 = .ok (.invokevirtual 9, 3) := by decide +kernel
theorem dL_isStep_16 : decode cL_isStep 16 = .ok (.istore 5, 2) := by decide +kernel
theorem dL_isStep_18 : decode cL_isStep 18 = .ok (.iload_n 2, 1) := by decide +kernel
theorem dL_isStep_19 : decode cL_isStep 19 = .ok (.bipush 16, 2) := by decide +kernel
theorem dL_isStep_21 : decode cL_isStep 21 = .ok (.invokestatic 15, 3) := by decide +kernel
theorem dL_isStep_24 : decode cL_isStep 24 = .ok (.tableswitch 723 0 13 #[72, 72, 72, 72, 72, 191, 191, 191, 191, 436, 436, 519, 634, 634], 72) := by decide +kernel
theorem dL_isStep_96 : decode cL_isStep 96 = .ok (.iload_n 3, 1) := by decide +kernel
theorem dL_isStep_97 : decode cL_isStep 97 = .ok (.iconst 5, 1) := by decide +kernel
theorem dL_isStep_98 : decode cL_isStep 98 = .ok (.invokestatic 15, 3) := by decide +kernel
theorem dL_isStep_101 : decode cL_isStep 101 = .ok (.istore 6, 2) := by decide +kernel
theorem dL_isStep_103 : decode cL_isStep 103 = .ok (.iconst 1, 1) := by decide +kernel
theorem dL_isStep_104 : decode cL_isStep 104 = .ok (.iload_n 3, 1) := by decide +kernel
theorem dL_isStep_105 : decode cL_isStep 105 = .ok (.iconst 3, 1) := by decide +kernel
theorem dL_isStep_106 : decode cL_isStep 106 = .ok (.ishr, 1) := by decide +kernel
theorem dL_isStep_107 : decode cL_isStep 107 = .ok (.iload_n 3, 1) := by decide +kernel
theorem dL_isStep_108 : decode cL_isStep 108 = .ok (.iconst 2, 1) := by decide +kernel
theorem dL_isStep_109 : decode cL_isStep 109 = .ok (.ishr, 1) := by decide +kernel
theorem dL_isStep_110 : decode cL_isStep 110 = .ok (.iconst 3, 1) := by decide +kernel
theorem dL_isStep_111 : decode cL_isStep 111 = .ok (.invokestatic 15, 3) := by decide +kernel
theorem dL_isStep_114 : decode cL_isStep 114 = .ok (.ifCond .ne 8, 3) := by decide +kernel
theorem dL_isStep_117 : decode cL_isStep 117 = .ok (.bipush 99, 2) := by decide +kernel
theorem dL_isStep_119 : decode cL_isStep 119 = .ok (.goto 5, 3) := by decide +kernel
theorem dL_isStep_122 : decode cL_isStep 122 = .ok (.bipush 25, 2) := by decide +kernel
theorem dL_isStep_124 : decode cL_isStep 124 = .ok (.invokestatic 15, 3) := by decide +kernel
theorem dL_isStep_127 : decode cL_isStep 127 = .ok (.iadd, 1) := by decide +kernel
theorem dL_isStep_128 : decode cL_isStep 128 = .ok (.istore 7, 2) := by decide +kernel
theorem dL_isStep_130 : decode cL_isStep 130 = .ok (.iload_n 3, 1) := by decide +kernel
theorem dL_isStep_131 : decode cL_isStep 131 = .ok (.bipush 10, 2) := by decide +kernel
theorem dL_isStep_133 : decode cL_isStep 133 = .ok (.ishr, 1) := by decide +kernel
theorem dL_isStep_134 : decode cL_isStep 134 = .ok (.bipush 10, 2) := by decide +kernel
theorem dL_isStep_136 : decode cL_isStep 136 = .ok (.invokestatic 15, 3) := by decide +kernel
theorem dL_isStep_139 : decode cL_isStep 139 = .ok (.istore 8, 2) := by decide +kernel
theorem dL_isStep_141 : decode cL_isStep 141 = .ok (.iload_n 3, 1) := by decide +kernel
theorem dL_isStep_142 : decode cL_isStep 142 = .ok (.bipush 14, 2) := by decide +kernel
theorem dL_isStep_144 : decode cL_isStep 144 = .ok (.ishr, 1) := by decide +kernel
theorem dL_isStep_145 : decode cL_isStep 145 = .ok (.iconst 3, 1) := by decide +kernel
theorem dL_isStep_146 : decode cL_isStep 146 = .ok (.invokestatic 15, 3) := by decide +kernel
theorem dL_isStep_149 : decode cL_isStep 149 = .ok (.ifCond .ne 7, 3) := by decide +kernel
theorem dL_isStep_152 : decode cL_isStep 152 = .ok (.iconst 1, 1) := by decide +kernel
theorem dL_isStep_153 : decode cL_isStep 153 = .ok (.goto 4, 3) := by decide +kernel
theorem dL_isStep_156 : decode cL_isStep 156 = .ok (.iconst 0, 1) := by decide +kernel
theorem dL_isStep_157 : decode cL_isStep 157 = .ok (.istore 9, 2) := by decide +kernel
theorem dL_isStep_159 : decode cL_isStep 159 = .ok (.aload_n 0, 1) := by decide +kernel
theorem dL_isStep_160 : decode cL_isStep 160 = .ok (.iload 6, 2) := by decide +kernel
theorem dL_isStep_162 : decode cL_isStep 162 = .ok (.iload 7, 2) := by decide +kernel
theorem dL_isStep_164 : decode cL_isStep 164 = .ok (.iload 8, 2) := by decide +kernel
theorem dL_isStep_166 : decode cL_isStep 166 = .ok (.iload 9, 2) := by decide +kernel
theorem dL_isStep_168 : decode cL_isStep 168 = .ok (.invokevirtual 21, 3) := by decide +kernel
theorem dL_isStep_171 : decode cL_isStep 171 = .ok (.istore 10, 2) := by decide +kernel
theorem dL_isStep_173 : decode cL_isStep 173 = .ok (.iload 10, 2) := by decide +kernel
theorem dL_isStep_175 : decode cL_isStep 175 = .ok (.aload_n 1, 1) := by decide +kernel
theorem dL_isStep_176 : decode cL_isStep 176 = .ok (.iload 6, 2) := by decide +kernel
theorem dL_isStep_178 : decode cL_isStep 178 = .ok (.iload 7, 2) := by decide +kernel
theorem dL_isStep_180 : decode cL_isStep 180 = .ok (.iload 8, 2) := by decide +kernel
theorem dL_isStep_182 : decode cL_isStep 182 = .ok (.iload 9, 2) := by decide +kernel
theorem dL_isStep_184 : decode cL_isStep 184 = .ok (.invokevirtual 21, 3) := by decide +kernel
theorem dL_isStep_187 : decode cL_isStep 187 = .ok (.if_icmp .ne 26, 3) := by decide +kernel
theorem dL_isStep_190 : decode cL_isStep 190 = .ok (.iload 10, 2) := by decide +kernel
theorem dL_isStep_192 : decode cL_isStep 192 = .ok (.iload 4, 2) := by decide +kernel
theorem dL_isStep_194 : decode cL_isStep 194 = .ok (.bipush 24, 2) := by decide +kernel
theorem dL_isStep_196 : decode cL_isStep 196 = .ok (.if_icmp .ne 8, 3) := by decide +kernel
theorem dL_isStep_199 : decode cL_isStep 199 = .ok (.bipush (-4), 2) := by decide +kernel
theorem dL_isStep_201 : decode cL_isStep 201 = .ok (.goto 5, 3) := by decide +kernel
theorem dL_isStep_204 : decode cL_isStep 204 = .ok (.iload 4, 2) := by decide +kernel
theorem dL_isStep_206 : decode cL_isStep 206 = .ok (.if_icmp .ne 7, 3) := by decide +kernel
theorem dL_isStep_209 : decode cL_isStep 209 = .ok (.iconst 1, 1) := by decide +kernel
theorem dL_isStep_210 : decode cL_isStep 210 = .ok (.goto 4, 3) := by decide +kernel
theorem dL_isStep_213 : decode cL_isStep 213 = .ok (.iconst 0, 1) := by decide +kernel
theorem dL_isStep_214 : decode cL_isStep 214 = .ok (.ireturn, 1) := by decide +kernel
theorem dL_isStep_215 : decode cL_isStep 215 = .ok (.iconst 1, 1) := by decide +kernel
theorem dL_isStep_216 : decode cL_isStep 216 = .ok (.iload_n 3, 1) := by decide +kernel
theorem dL_isStep_217 : decode cL_isStep 217 = .ok (.iload_n 3, 1) := by decide +kernel
theorem dL_isStep_218 : decode cL_isStep 218 = .ok (.iconst 4, 1) := by decide +kernel
theorem dL_isStep_219 : decode cL_isStep 219 = .ok (.ishr, 1) := by decide +kernel
theorem dL_isStep_220 : decode cL_isStep 220 = .ok (.iconst 4, 1) := by decide +kernel
theorem dL_isStep_221 : decode cL_isStep 221 = .ok (.invokestatic 15, 3) := by decide +kernel
theorem dL_isStep_224 : decode cL_isStep 224 = .ok (.ifCond .ne 8, 3) := by decide +kernel
theorem dL_isStep_227 : decode cL_isStep 227 = .ok (.bipush 25, 2) := by decide +kernel
theorem dL_isStep_229 : decode cL_isStep 229 = .ok (.goto 5, 3) := by decide +kernel
theorem dL_isStep_232 : decode cL_isStep 232 = .ok (.bipush 6, 2) := by decide +kernel
theorem dL_isStep_234 : decode cL_isStep 234 = .ok (.invokestatic 15, 3) := by decide +kernel
theorem dL_isStep_237 : decode cL_isStep 237 = .ok (.iadd, 1) := by decide +kernel
theorem dL_isStep_238 : decode cL_isStep 238 = .ok (.istore 6, 2) := by decide +kernel
theorem dL_isStep_240 : decode cL_isStep 240 = .ok (.aload_n 0, 1) := by decide +kernel
theorem dL_isStep_241 : decode cL_isStep 241 = .ok (.iload 6, 2) := by decide +kernel
theorem dL_isStep_243 : decode cL_isStep 243 = .ok (.invokevirtual 25, 3) := by decide +kernel
theorem dL_isStep_246 : decode cL_isStep 246 = .ok (.istore 7, 2) := by decide +kernel
theorem dL_isStep_248 : decode cL_isStep 248 = .ok (.iload 5, 2) := by decide +kernel
theorem dL_isStep_250 : decode cL_isStep 250 = .ok (.iload 6, 2) := by decide +kernel
theorem dL_isStep_252 : decode cL_isStep 252 = .ok (.iadd, 1) := by decide +kernel
theorem dL_isStep_253 : decode cL_isStep 253 = .ok (.sipush 600, 3) := by decide +kernel
theorem dL_isStep_256 : decode cL_isStep 256 = .ok (.if_icmp .le 16, 3) := by decide +kernel
theorem dL_isStep_259 : decode cL_isStep 259 = .ok (.iload 7, 2) := by decide +kernel
theorem dL_isStep_261 : decode cL_isStep 261 = .ok (.bipush (-5), 2) := by decide +kernel
theorem dL_isStep_263 : decode cL_isStep 263 = .ok (.if_icmp .ne 7, 3) := by decide +kernel
theorem dL_isStep_266 : decode cL_isStep 266 = .ok (.iconst 1, 1) := by decide +kernel
theorem dL_isStep_267 : decode cL_isStep 267 = .ok (.goto 4, 3) := by decide +kernel
theorem dL_isStep_270 : decode cL_isStep 270 = .ok (.iconst 0, 1) := by decide +kernel
theorem dL_isStep_271 : decode cL_isStep 271 = .ok (.ireturn, 1) := by decide +kernel
theorem dL_isStep_272 : decode cL_isStep 272 = .ok (.iconst 0, 1) := by decide +kernel
theorem dL_isStep_273 : decode cL_isStep 273 = .ok (.istore 8, 2) := by decide +kernel
theorem dL_isStep_275 : decode cL_isStep 275 = .ok (.iconst 1, 1) := by decide +kernel
theorem dL_isStep_276 : decode cL_isStep 276 = .ok (.istore 9, 2) := by decide +kernel
theorem dL_isStep_278 : decode cL_isStep 278 = .ok (.iconst 0, 1) := by decide +kernel
theorem dL_isStep_279 : decode cL_isStep 279 = .ok (.istore 10, 2) := by decide +kernel
theorem dL_isStep_281 : decode cL_isStep 281 = .ok (.iload 10, 2) := by decide +kernel
theorem dL_isStep_283 : decode cL_isStep 283 = .ok (.iload 6, 2) := by decide +kernel
theorem dL_isStep_285 : decode cL_isStep 285 = .ok (.if_icmp .ge 144, 3) := by decide +kernel
theorem dL_isStep_288 : decode cL_isStep 288 = .ok (.iload 9, 2) := by decide +kernel
theorem dL_isStep_290 : decode cL_isStep 290 = .ok (.ifCond .eq 139, 3) := by decide +kernel
theorem dL_isStep_293 : decode cL_isStep 293 = .ok (.iload 4, 2) := by decide +kernel
theorem dL_isStep_295 : decode cL_isStep 295 = .ok (.ifCond .ne 7, 3) := by decide +kernel
theorem dL_isStep_298 : decode cL_isStep 298 = .ok (.iconst 0, 1) := by decide +kernel
theorem dL_isStep_299 : decode cL_isStep 299 = .ok (.goto 15, 3) := by decide +kernel
theorem dL_isStep_302 : decode cL_isStep 302 = .ok (.iload_n 2, 1) := by decide +kernel
theorem dL_isStep_303 : decode cL_isStep 303 = .ok (.iload 10, 2) := by decide +kernel
theorem dL_isStep_305 : decode cL_isStep 305 = .ok (.bipush 9, 2) := by decide +kernel
theorem dL_isStep_307 : decode cL_isStep 307 = .ok (.irem, 1) := by decide +kernel
theorem dL_isStep_308 : decode cL_isStep 308 = .ok (.ishr, 1) := by decide +kernel
theorem dL_isStep_309 : decode cL_isStep 309 = .ok (.iload 4, 2) := by decide +kernel
theorem dL_isStep_311 : decode cL_isStep 311 = .ok (.invokestatic 15, 3) := by decide +kernel
theorem dL_isStep_314 : decode cL_isStep 314 = .ok (.istore 11, 2) := by decide +kernel
theorem dL_isStep_316 : decode cL_isStep 316 = .ok (.iload 10, 2) := by decide +kernel
theorem dL_isStep_318 : decode cL_isStep 318 = .ok (.iconst 4, 1) := by decide +kernel
theorem dL_isStep_319 : decode cL_isStep 319 = .ok (.irem, 1) := by decide +kernel
theorem dL_isStep_320 : decode cL_isStep 320 = .ok (.iconst 1, 1) := by decide +kernel
theorem dL_isStep_321 : decode cL_isStep 321 = .ok (.if_icmp .ne 43, 3) := by decide +kernel
theorem dL_isStep_324 : decode cL_isStep 324 = .ok (.iload 4, 2) := by decide +kernel
theorem dL_isStep_326 : decode cL_isStep 326 = .ok (.ifCond .le 38, 3) := by decide +kernel
theorem dL_isStep_329 : decode cL_isStep 329 = .ok (.aload_n 1, 1) := by decide +kernel
theorem dL_isStep_330 : decode cL_isStep 330 = .ok (.iload 11, 2) := by decide +kernel
theorem dL_isStep_332 : decode cL_isStep 332 = .ok (.iconst 4, 1) := by decide +kernel
theorem dL_isStep_333 : decode cL_isStep 333 = .ok (.invokevirtual 28, 3) := by decide +kernel
theorem dL_isStep_336 : decode cL_isStep 336 = .ok (.iconst 3, 1) := by decide +kernel
theorem dL_isStep_337 : decode cL_isStep 337 = .ok (.if_icmp .ge 27, 3) := by decide +kernel
theorem dL_isStep_340 : decode cL_isStep 340 = .ok (.aload_n 1, 1) := by decide +kernel
theorem dL_isStep_341 : decode cL_isStep 341 = .ok (.iload 11, 2) := by decide +kernel
theorem dL_isStep_343 : decode cL_isStep 343 = .ok (.invokevirtual 31, 3) := by decide +kernel
theorem dL_isStep_346 : decode cL_isStep 346 = .ok (.aload_n 1, 1) := by decide +kernel
theorem dL_isStep_347 : decode cL_isStep 347 = .ok (.iload 11, 2) := by decide +kernel
theorem dL_isStep_349 : decode cL_isStep 349 = .ok (.invokevirtual 31, 3) := by decide +kernel
theorem dL_isStep_352 : decode cL_isStep 352 = .ok (.iadd, 1) := by decide +kernel
theorem dL_isStep_353 : decode cL_isStep 353 = .ok (.iconst 1, 1) := by decide +kernel
theorem dL_isStep_354 : decode cL_isStep 354 = .ok (.if_icmp .ne 7, 3) := by decide +kernel
theorem dL_isStep_357 : decode cL_isStep 357 = .ok (.iconst 1, 1) := by decide +kernel
theorem dL_isStep_358 : decode cL_isStep 358 = .ok (.goto 4, 3) := by decide +kernel
theorem dL_isStep_361 : decode cL_isStep 361 = .ok (.iconst 0, 1) := by decide +kernel
theorem dL_isStep_362 : decode cL_isStep 362 = .ok (.istore 9, 2) := by decide +kernel
theorem dL_isStep_364 : decode cL_isStep 364 = .ok (.aload_n 1, 1) := by decide +kernel
theorem dL_isStep_365 : decode cL_isStep 365 = .ok (.invokevirtual 34, 3) := by decide +kernel
theorem dL_isStep_368 : decode cL_isStep 368 = .ok (.istore 12, 2) := by decide +kernel
theorem dL_isStep_370 : decode cL_isStep 370 = .ok (.aload_n 1, 1) := by decide +kernel
theorem dL_isStep_371 : decode cL_isStep 371 = .ok (.iconst 1, 1) := by decide +kernel
theorem dL_isStep_372 : decode cL_isStep 372 = .ok (.invokevirtual 25, 3) := by decide +kernel
theorem dL_isStep_375 : decode cL_isStep 375 = .ok (.istore 13, 2) := by decide +kernel
theorem dL_isStep_377 : decode cL_isStep 377 = .ok (.iload 9, 2) := by decide +kernel
theorem dL_isStep_379 : decode cL_isStep 379 = .ok (.ifCond .eq 34, 3) := by decide +kernel
theorem dL_isStep_382 : decode cL_isStep 382 = .ok (.iload 13, 2) := by decide +kernel
theorem dL_isStep_384 : decode cL_isStep 384 = .ok (.ifCond .lt 29, 3) := by decide +kernel
theorem dL_isStep_387 : decode cL_isStep 387 = .ok (.iload 13, 2) := by decide +kernel
theorem dL_isStep_389 : decode cL_isStep 389 = .ok (.ifCond .eq 20, 3) := by decide +kernel
theorem dL_isStep_392 : decode cL_isStep 392 = .ok (.aload_n 1, 1) := by decide +kernel
theorem dL_isStep_393 : decode cL_isStep 393 = .ok (.aload_n 1, 1) := by decide +kernel
theorem dL_isStep_394 : decode cL_isStep 394 = .ok (.iconst 3, 1) := by decide +kernel
theorem dL_isStep_395 : decode cL_isStep 395 = .ok (.invokevirtual 9, 3) := by decide +kernel
theorem dL_isStep_398 : decode cL_isStep 398 = .ok (.iconst 1, 1) := by decide +kernel
theorem dL_isStep_399 : decode cL_isStep 399 = .ok (.isub, 1) := by decide +kernel
theorem dL_isStep_400 : decode cL_isStep 400 = .ok (.iconst 3, 1) := by decide +kernel
theorem dL_isStep_401 : decode cL_isStep 401 = .ok (.invokevirtual 38, 3) := by decide +kernel
theorem dL_isStep_404 : decode cL_isStep 404 = .ok (.iload 12, 2) := by decide +kernel
theorem dL_isStep_406 : decode cL_isStep 406 = .ok (.if_icmp .ne 7, 3) := by decide +kernel
theorem dL_isStep_409 : decode cL_isStep 409 = .ok (.iconst 1, 1) := by decide +kernel
theorem dL_isStep_410 : decode cL_isStep 410 = .ok (.goto 4, 3) := by decide +kernel
theorem dL_isStep_413 : decode cL_isStep 413 = .ok (.iconst 0, 1) := by decide +kernel
theorem dL_isStep_414 : decode cL_isStep 414 = .ok (.istore 9, 2) := by decide +kernel
theorem dL_isStep_416 : decode cL_isStep 416 = .ok (.iload 8, 2) := by decide +kernel
theorem dL_isStep_418 : decode cL_isStep 418 = .ok (.iload 13, 2) := by decide +kernel
theorem dL_isStep_420 : decode cL_isStep 420 = .ok (.iadd, 1) := by decide +kernel
theorem dL_isStep_421 : decode cL_isStep 421 = .ok (.istore 8, 2) := by decide +kernel
theorem dL_isStep_423 : decode cL_isStep 423 = .ok (.iinc 10 1, 3) := by decide +kernel
theorem dL_isStep_426 : decode cL_isStep 426 = .ok (.goto (-145), 3) := by decide +kernel
theorem dL_isStep_429 : decode cL_isStep 429 = .ok (.iload 9, 2) := by decide +kernel
theorem dL_isStep_431 : decode cL_isStep 431 = .ok (.ifCond .eq 27, 3) := by decide +kernel
theorem dL_isStep_434 : decode cL_isStep 434 = .ok (.iload 7, 2) := by decide +kernel
theorem dL_isStep_436 : decode cL_isStep 436 = .ok (.iload 8, 2) := by decide +kernel
theorem dL_isStep_438 : decode cL_isStep 438 = .ok (.if_icmp .ne 20, 3) := by decide +kernel
theorem dL_isStep_441 : decode cL_isStep 441 = .ok (.aload_n 0, 1) := by decide +kernel
theorem dL_isStep_442 : decode cL_isStep 442 = .ok (.iconst 0, 1) := by decide +kernel
theorem dL_isStep_443 : decode cL_isStep 443 = .ok (.invokevirtual 9, 3) := by decide +kernel
theorem dL_isStep_446 : decode cL_isStep 446 = .ok (.iload 5, 2) := by decide +kernel
theorem dL_isStep_448 : decode cL_isStep 448 = .ok (.iload 6, 2) := by decide +kernel
theorem dL_isStep_450 : decode cL_isStep 450 = .ok (.iadd, 1) := by decide +kernel
theorem dL_isStep_451 : decode cL_isStep 451 = .ok (.if_icmp .ne 7, 3) := by decide +kernel
theorem dL_isStep_454 : decode cL_isStep 454 = .ok (.iconst 1, 1) := by decide +kernel
theorem dL_isStep_455 : decode cL_isStep 455 = .ok (.goto 4, 3) := by decide +kernel
theorem dL_isStep_458 : decode cL_isStep 458 = .ok (.iconst 0, 1) := by decide +kernel
theorem dL_isStep_459 : decode cL_isStep 459 = .ok (.ireturn, 1) := by decide +kernel
theorem dL_isStep_460 : decode cL_isStep 460 = .ok (.iload 5, 2) := by decide +kernel
theorem dL_isStep_462 : decode cL_isStep 462 = .ok (.iload_n 3, 1) := by decide +kernel
theorem dL_isStep_463 : decode cL_isStep 463 = .ok (.bipush 15, 2) := by decide +kernel
theorem dL_isStep_465 : decode cL_isStep 465 = .ok (.invokestatic 15, 3) := by decide +kernel
theorem dL_isStep_468 : decode cL_isStep 468 = .ok (.iadd, 1) := by decide +kernel
theorem dL_isStep_469 : decode cL_isStep 469 = .ok (.istore 6, 2) := by decide +kernel
theorem dL_isStep_471 : decode cL_isStep 471 = .ok (.aload_n 0, 1) := by decide +kernel
theorem dL_isStep_472 : decode cL_isStep 472 = .ok (.iload 6, 2) := by decide +kernel
theorem dL_isStep_474 : decode cL_isStep 474 = .ok (.invokevirtual 41, 3) := by decide +kernel
theorem dL_isStep_477 : decode cL_isStep 477 = .ok (.istore 7, 2) := by decide +kernel
theorem dL_isStep_479 : decode cL_isStep 479 = .ok (.iload 7, 2) := by decide +kernel
theorem dL_isStep_481 : decode cL_isStep 481 = .ok (.aload_n 1, 1) := by decide +kernel
theorem dL_isStep_482 : decode cL_isStep 482 = .ok (.iload 6, 2) := by decide +kernel
theorem dL_isStep_484 : decode cL_isStep 484 = .ok (.invokevirtual 41, 3) := by decide +kernel
theorem dL_isStep_487 : decode cL_isStep 487 = .ok (.if_icmp .ne 54, 3) := by decide +kernel
theorem dL_isStep_490 : decode cL_isStep 490 = .ok (.iload 7, 2) := by decide +kernel
theorem dL_isStep_492 : decode cL_isStep 492 = .ok (.ifCond .lt 45, 3) := by decide +kernel
theorem dL_isStep_495 : decode cL_isStep 495 = .ok (.iload 7, 2) := by decide +kernel
theorem dL_isStep_497 : decode cL_isStep 497 = .ok (.aload_n 0, 1) := by decide +kernel
theorem dL_isStep_498 : decode cL_isStep 498 = .ok (.iconst 3, 1) := by decide +kernel
theorem dL_isStep_499 : decode cL_isStep 499 = .ok (.invokevirtual 9, 3) := by decide +kernel
theorem dL_isStep_502 : decode cL_isStep 502 = .ok (.if_icmp .lt 39, 3) := by decide +kernel
theorem dL_isStep_505 : decode cL_isStep 505 = .ok (.aload_n 0, 1) := by decide +kernel
theorem dL_isStep_506 : decode cL_isStep 506 = .ok (.iload 7, 2) := by decide +kernel
theorem dL_isStep_508 : decode cL_isStep 508 = .ok (.iconst 0, 1) := by decide +kernel
theorem dL_isStep_509 : decode cL_isStep 509 = .ok (.invokevirtual 38, 3) := by decide +kernel
theorem dL_isStep_512 : decode cL_isStep 512 = .ok (.iload 6, 2) := by decide +kernel
theorem dL_isStep_514 : decode cL_isStep 514 = .ok (.if_icmp .ne 27, 3) := by decide +kernel
theorem dL_isStep_517 : decode cL_isStep 517 = .ok (.aload_n 0, 1) := by decide +kernel
theorem dL_isStep_518 : decode cL_isStep 518 = .ok (.iload 7, 2) := by decide +kernel
theorem dL_isStep_520 : decode cL_isStep 520 = .ok (.iconst 1, 1) := by decide +kernel
theorem dL_isStep_521 : decode cL_isStep 521 = .ok (.invokevirtual 38, 3) := by decide +kernel
theorem dL_isStep_524 : decode cL_isStep 524 = .ok (.ifCond .ne 17, 3) := by decide +kernel
theorem dL_isStep_527 : decode cL_isStep 527 = .ok (.aload_n 0, 1) := by decide +kernel
theorem dL_isStep_528 : decode cL_isStep 528 = .ok (.iload 7, 2) := by decide +kernel
theorem dL_isStep_530 : decode cL_isStep 530 = .ok (.iconst 2, 1) := by decide +kernel
theorem dL_isStep_531 : decode cL_isStep 531 = .ok (.invokevirtual 38, 3) := by decide +kernel
theorem dL_isStep_534 : decode cL_isStep 534 = .ok (.ifCond .ne 7, 3) := by decide +kernel
theorem dL_isStep_537 : decode cL_isStep 537 = .ok (.iconst 1, 1) := by decide +kernel
theorem dL_isStep_538 : decode cL_isStep 538 = .ok (.goto 4, 3) := by decide +kernel
theorem dL_isStep_541 : decode cL_isStep 541 = .ok (.iconst 0, 1) := by decide +kernel
theorem dL_isStep_542 : decode cL_isStep 542 = .ok (.ireturn, 1) := by decide +kernel
theorem dL_isStep_543 : decode cL_isStep 543 = .ok (.iload_n 3, 1) := by decide +kernel
theorem dL_isStep_544 : decode cL_isStep 544 = .ok (.iconst 4, 1) := by decide +kernel
theorem dL_isStep_545 : decode cL_isStep 545 = .ok (.invokestatic 15, 3) := by decide +kernel
theorem dL_isStep_548 : decode cL_isStep 548 = .ok (.istore 6, 2) := by decide +kernel
theorem dL_isStep_550 : decode cL_isStep 550 = .ok (.iload 6, 2) := by decide +kernel
theorem dL_isStep_552 : decode cL_isStep 552 = .ok (.ifCond .ne 16, 3) := by decide +kernel
theorem dL_isStep_555 : decode cL_isStep 555 = .ok (.iconst 1, 1) := by decide +kernel
theorem dL_isStep_556 : decode cL_isStep 556 = .ok (.iload_n 3, 1) := by decide +kernel
theorem dL_isStep_557 : decode cL_isStep 557 = .ok (.iconst 2, 1) := by decide +kernel
theorem dL_isStep_558 : decode cL_isStep 558 = .ok (.ishr, 1) := by decide +kernel
theorem dL_isStep_559 : decode cL_isStep 559 = .ok (.bipush 20, 2) := by decide +kernel
theorem dL_isStep_561 : decode cL_isStep 561 = .ok (.invokestatic 15, 3) := by decide +kernel
theorem dL_isStep_564 : decode cL_isStep 564 = .ok (.iadd, 1) := by decide +kernel
theorem dL_isStep_565 : decode cL_isStep 565 = .ok (.goto 52, 3) := by decide +kernel
theorem dL_isStep_568 : decode cL_isStep 568 = .ok (.iload 6, 2) := by decide +kernel
theorem dL_isStep_570 : decode cL_isStep 570 = .ok (.iconst 1, 1) := by decide +kernel
theorem dL_isStep_571 : decode cL_isStep 571 = .ok (.if_icmp .ne 16, 3) := by decide +kernel
theorem dL_isStep_574 : decode cL_isStep 574 = .ok (.iconst 1, 1) := by decide +kernel
theorem dL_isStep_575 : decode cL_isStep 575 = .ok (.iload_n 3, 1) := by decide +kernel
theorem dL_isStep_576 : decode cL_isStep 576 = .ok (.iconst 2, 1) := by decide +kernel
theorem dL_isStep_577 : decode cL_isStep 577 = .ok (.ishr, 1) := by decide +kernel
theorem dL_isStep_578 : decode cL_isStep 578 = .ok (.bipush 15, 2) := by decide +kernel
theorem dL_isStep_580 : decode cL_isStep 580 = .ok (.invokestatic 15, 3) := by decide +kernel
theorem dL_isStep_583 : decode cL_isStep 583 = .ok (.iadd, 1) := by decide +kernel
theorem dL_isStep_584 : decode cL_isStep 584 = .ok (.goto 33, 3) := by decide +kernel
theorem dL_isStep_587 : decode cL_isStep 587 = .ok (.iload 6, 2) := by decide +kernel
theorem dL_isStep_589 : decode cL_isStep 589 = .ok (.iconst 2, 1) := by decide +kernel
theorem dL_isStep_590 : decode cL_isStep 590 = .ok (.if_icmp .ne 17, 3) := by decide +kernel
theorem dL_isStep_593 : decode cL_isStep 593 = .ok (.bipush 10, 2) := by decide +kernel
theorem dL_isStep_595 : decode cL_isStep 595 = .ok (.iload_n 3, 1) := by decide +kernel
theorem dL_isStep_596 : decode cL_isStep 596 = .ok (.iconst 2, 1) := by decide +kernel
theorem dL_isStep_597 : decode cL_isStep 597 = .ok (.ishr, 1) := by decide +kernel
theorem dL_isStep_598 : decode cL_isStep 598 = .ok (.bipush 120, 2) := by decide +kernel
theorem dL_isStep_600 : decode cL_isStep 600 = .ok (.invokestatic 15, 3) := by decide +kernel
theorem dL_isStep_603 : decode cL_isStep 603 = .ok (.iadd, 1) := by decide +kernel
theorem dL_isStep_604 : decode cL_isStep 604 = .ok (.goto 13, 3) := by decide +kernel
theorem dL_isStep_607 : decode cL_isStep 607 = .ok (.iconst 1, 1) := by decide +kernel
theorem dL_isStep_608 : decode cL_isStep 608 = .ok (.iload_n 3, 1) := by decide +kernel
theorem dL_isStep_609 : decode cL_isStep 609 = .ok (.iconst 2, 1) := by decide +kernel
theorem dL_isStep_610 : decode cL_isStep 610 = .ok (.ishr, 1) := by decide +kernel
theorem dL_isStep_611 : decode cL_isStep 611 = .ok (.bipush 10, 2) := by decide +kernel
theorem dL_isStep_613 : decode cL_isStep 613 = .ok (.invokestatic 15, 3) := by decide +kernel
theorem dL_isStep_616 : decode cL_isStep 616 = .ok (.iadd, 1) := by decide +kernel
theorem dL_isStep_617 : decode cL_isStep 617 = .ok (.istore 7, 2) := by decide +kernel
theorem dL_isStep_619 : decode cL_isStep 619 = .ok (.aload_n 0, 1) := by decide +kernel
theorem dL_isStep_620 : decode cL_isStep 620 = .ok (.iload 6, 2) := by decide +kernel
theorem dL_isStep_622 : decode cL_isStep 622 = .ok (.iload 7, 2) := by decide +kernel
theorem dL_isStep_624 : decode cL_isStep 624 = .ok (.invokevirtual 44, 3) := by decide +kernel
theorem dL_isStep_627 : decode cL_isStep 627 = .ok (.aload_n 1, 1) := by decide +kernel
theorem dL_isStep_628 : decode cL_isStep 628 = .ok (.iload 6, 2) := by decide +kernel
theorem dL_isStep_630 : decode cL_isStep 630 = .ok (.iload 7, 2) := by decide +kernel
theorem dL_isStep_632 : decode cL_isStep 632 = .ok (.invokevirtual 44, 3) := by decide +kernel
theorem dL_isStep_635 : decode cL_isStep 635 = .ok (.if_icmp .ne 21, 3) := by decide +kernel
theorem dL_isStep_638 : decode cL_isStep 638 = .ok (.aload_n 0, 1) := by decide +kernel
theorem dL_isStep_639 : decode cL_isStep 639 = .ok (.bipush 10, 2) := by decide +kernel
theorem dL_isStep_641 : decode cL_isStep 641 = .ok (.iload 6, 2) := by decide +kernel
theorem dL_isStep_643 : decode cL_isStep 643 = .ok (.iadd, 1) := by decide +kernel
theorem dL_isStep_644 : decode cL_isStep 644 = .ok (.invokevirtual 9, 3) := by decide +kernel
theorem dL_isStep_647 : decode cL_isStep 647 = .ok (.iload 7, 2) := by decide +kernel
theorem dL_isStep_649 : decode cL_isStep 649 = .ok (.if_icmp .ne 7, 3) := by decide +kernel
theorem dL_isStep_652 : decode cL_isStep 652 = .ok (.iconst 1, 1) := by decide +kernel
theorem dL_isStep_653 : decode cL_isStep 653 = .ok (.goto 4, 3) := by decide +kernel
theorem dL_isStep_656 : decode cL_isStep 656 = .ok (.iconst 0, 1) := by decide +kernel
theorem dL_isStep_657 : decode cL_isStep 657 = .ok (.ireturn, 1) := by decide +kernel
theorem dL_isStep_658 : decode cL_isStep 658 = .ok (.iload_n 3, 1) := by decide +kernel
theorem dL_isStep_659 : decode cL_isStep 659 = .ok (.iload 4, 2) := by decide +kernel
theorem dL_isStep_661 : decode cL_isStep 661 = .ok (.iconst 1, 1) := by decide +kernel
theorem dL_isStep_662 : decode cL_isStep 662 = .ok (.iadd, 1) := by decide +kernel
theorem dL_isStep_663 : decode cL_isStep 663 = .ok (.invokestatic 15, 3) := by decide +kernel
theorem dL_isStep_666 : decode cL_isStep 666 = .ok (.istore 6, 2) := by decide +kernel
theorem dL_isStep_668 : decode cL_isStep 668 = .ok (.aload_n 0, 1) := by decide +kernel
theorem dL_isStep_669 : decode cL_isStep 669 = .ok (.iload 6, 2) := by decide +kernel
theorem dL_isStep_671 : decode cL_isStep 671 = .ok (.invokevirtual 31, 3) := by decide +kernel
theorem dL_isStep_674 : decode cL_isStep 674 = .ok (.istore 7, 2) := by decide +kernel
theorem dL_isStep_676 : decode cL_isStep 676 = .ok (.iload 7, 2) := by decide +kernel
theorem dL_isStep_678 : decode cL_isStep 678 = .ok (.aload_n 1, 1) := by decide +kernel
theorem dL_isStep_679 : decode cL_isStep 679 = .ok (.iload 6, 2) := by decide +kernel
theorem dL_isStep_681 : decode cL_isStep 681 = .ok (.invokevirtual 31, 3) := by decide +kernel
theorem dL_isStep_684 : decode cL_isStep 684 = .ok (.if_icmp .ne 61, 3) := by decide +kernel
theorem dL_isStep_687 : decode cL_isStep 687 = .ok (.iload 6, 2) := by decide +kernel
theorem dL_isStep_689 : decode cL_isStep 689 = .ok (.iload 4, 2) := by decide +kernel
theorem dL_isStep_691 : decode cL_isStep 691 = .ok (.if_icmp .ne 12, 3) := by decide +kernel
theorem dL_isStep_694 : decode cL_isStep 694 = .ok (.iload 7, 2) := by decide +kernel
theorem dL_isStep_696 : decode cL_isStep 696 = .ok (.iconst (-1), 1) := by decide +kernel
theorem dL_isStep_697 : decode cL_isStep 697 = .ok (.if_icmp .ne 48, 3) := by decide +kernel
theorem dL_isStep_700 : decode cL_isStep 700 = .ok (.goto 41, 3) := by decide +kernel
theorem dL_isStep_703 : decode cL_isStep 703 = .ok (.iload 7, 2) := by decide +kernel
theorem dL_isStep_705 : decode cL_isStep 705 = .ok (.ifCond .ge 24, 3) := by decide +kernel
theorem dL_isStep_708 : decode cL_isStep 708 = .ok (.iload 7, 2) := by decide +kernel
theorem dL_isStep_710 : decode cL_isStep 710 = .ok (.bipush (-5), 2) := by decide +kernel
theorem dL_isStep_712 : decode cL_isStep 712 = .ok (.if_icmp .ne 33, 3) := by decide +kernel
theorem dL_isStep_715 : decode cL_isStep 715 = .ok (.aload_n 0, 1) := by decide +kernel
theorem dL_isStep_716 : decode cL_isStep 716 = .ok (.iload 6, 2) := by decide +kernel
theorem dL_isStep_718 : decode cL_isStep 718 = .ok (.iconst 4, 1) := by decide +kernel
theorem dL_isStep_719 : decode cL_isStep 719 = .ok (.invokevirtual 28, 3) := by decide +kernel
theorem dL_isStep_722 : decode cL_isStep 722 = .ok (.iconst 3, 1) := by decide +kernel
theorem dL_isStep_723 : decode cL_isStep 723 = .ok (.if_icmp .ne 22, 3) := by decide +kernel
theorem dL_isStep_726 : decode cL_isStep 726 = .ok (.goto 15, 3) := by decide +kernel
theorem dL_isStep_729 : decode cL_isStep 729 = .ok (.aload_n 0, 1) := by decide +kernel
theorem dL_isStep_730 : decode cL_isStep 730 = .ok (.iload 6, 2) := by decide +kernel
theorem dL_isStep_732 : decode cL_isStep 732 = .ok (.iconst 5, 1) := by decide +kernel
theorem dL_isStep_733 : decode cL_isStep 733 = .ok (.invokevirtual 28, 3) := by decide +kernel
theorem dL_isStep_736 : decode cL_isStep 736 = .ok (.iload 7, 2) := by decide +kernel
theorem dL_isStep_738 : decode cL_isStep 738 = .ok (.if_icmp .ne 7, 3) := by decide +kernel
theorem dL_isStep_741 : decode cL_isStep 741 = .ok (.iconst 1, 1) := by decide +kernel
theorem dL_isStep_742 : decode cL_isStep 742 = .ok (.goto 4, 3) := by decide +kernel
theorem dL_isStep_745 : decode cL_isStep 745 = .ok (.iconst 0, 1) := by decide +kernel
theorem dL_isStep_746 : decode cL_isStep 746 = .ok (.ireturn, 1) := by decide +kernel
theorem dL_isStep_747 : decode cL_isStep 747 = .ok (.iload_n 3, 1) := by decide +kernel
theorem dL_isStep_748 : decode cL_isStep 748 = .ok (.iload 4, 2) := by decide +kernel
theorem dL_isStep_750 : decode cL_isStep 750 = .ok (.iconst 1, 1) := by decide +kernel
theorem dL_isStep_751 : decode cL_isStep 751 = .ok (.iadd, 1) := by decide +kernel
theorem dL_isStep_752 : decode cL_isStep 752 = .ok (.invokestatic 15, 3) := by decide +kernel
theorem dL_isStep_755 : decode cL_isStep 755 = .ok (.istore 6, 2) := by decide +kernel
theorem dL_isStep_757 : decode cL_isStep 757 = .ok (.aload_n 0, 1) := by decide +kernel
theorem dL_isStep_758 : decode cL_isStep 758 = .ok (.iconst 2, 1) := by decide +kernel
theorem dL_isStep_759 : decode cL_isStep 759 = .ok (.invokevirtual 9, 3) := by decide +kernel
theorem dL_isStep_762 : decode cL_isStep 762 = .ok (.istore 7, 2) := by decide +kernel
theorem dL_isStep_764 : decode cL_isStep 764 = .ok (.aload_n 0, 1) := by decide +kernel
theorem dL_isStep_765 : decode cL_isStep 765 = .ok (.bipush 9, 2) := by decide +kernel
theorem dL_isStep_767 : decode cL_isStep 767 = .ok (.invokevirtual 9, 3) := by decide +kernel
theorem dL_isStep_770 : decode cL_isStep 770 = .ok (.istore 8, 2) := by decide +kernel
theorem dL_isStep_772 : decode cL_isStep 772 = .ok (.aload_n 0, 1) := by decide +kernel
theorem dL_isStep_773 : decode cL_isStep 773 = .ok (.iload 6, 2) := by decide +kernel
theorem dL_isStep_775 : decode cL_isStep 775 = .ok (.invokevirtual 47, 3) := by decide +kernel
theorem dL_isStep_778 : decode cL_isStep 778 = .ok (.istore 9, 2) := by decide +kernel
theorem dL_isStep_780 : decode cL_isStep 780 = .ok (.iload 9, 2) := by decide +kernel
theorem dL_isStep_782 : decode cL_isStep 782 = .ok (.aload_n 1, 1) := by decide +kernel
theorem dL_isStep_783 : decode cL_isStep 783 = .ok (.iload 6, 2) := by decide +kernel
theorem dL_isStep_785 : decode cL_isStep 785 = .ok (.invokevirtual 47, 3) := by decide +kernel
theorem dL_isStep_788 : decode cL_isStep 788 = .ok (.if_icmp .ne 89, 3) := by decide +kernel
theorem dL_isStep_791 : decode cL_isStep 791 = .ok (.iload 6, 2) := by decide +kernel
theorem dL_isStep_793 : decode cL_isStep 793 = .ok (.iload 4, 2) := by decide +kernel
theorem dL_isStep_795 : decode cL_isStep 795 = .ok (.if_icmp .ne 12, 3) := by decide +kernel
theorem dL_isStep_798 : decode cL_isStep 798 = .ok (.iload 9, 2) := by decide +kernel
theorem dL_isStep_800 : decode cL_isStep 800 = .ok (.iconst (-1), 1) := by decide +kernel
theorem dL_isStep_801 : decode cL_isStep 801 = .ok (.if_icmp .ne 76, 3) := by decide +kernel
theorem dL_isStep_804 : decode cL_isStep 804 = .ok (.goto 69, 3) := by decide +kernel
theorem dL_isStep_807 : decode cL_isStep 807 = .ok (.iload 9, 2) := by decide +kernel
theorem dL_isStep_809 : decode cL_isStep 809 = .ok (.ifCond .ge 13, 3) := by decide +kernel
theorem dL_isStep_812 : decode cL_isStep 812 = .ok (.iload 9, 2) := by decide +kernel
theorem dL_isStep_814 : decode cL_isStep 814 = .ok (.bipush (-5), 2) := by decide +kernel
theorem dL_isStep_816 : decode cL_isStep 816 = .ok (.if_icmp .ne 61, 3) := by decide +kernel
theorem dL_isStep_819 : decode cL_isStep 819 = .ok (.goto 54, 3) := by decide +kernel
theorem dL_isStep_822 : decode cL_isStep 822 = .ok (.aload_n 0, 1) := by decide +kernel
theorem dL_isStep_823 : decode cL_isStep 823 = .ok (.iload 6, 2) := by decide +kernel
theorem dL_isStep_825 : decode cL_isStep 825 = .ok (.iconst 4, 1) := by decide +kernel
theorem dL_isStep_826 : decode cL_isStep 826 = .ok (.invokevirtual 28, 3) := by decide +kernel
theorem dL_isStep_829 : decode cL_isStep 829 = .ok (.iconst 3, 1) := by decide +kernel
theorem dL_isStep_830 : decode cL_isStep 830 = .ok (.if_icmp .ne 47, 3) := by decide +kernel
theorem dL_isStep_833 : decode cL_isStep 833 = .ok (.aload_n 0, 1) := by decide +kernel
theorem dL_isStep_834 : decode cL_isStep 834 = .ok (.iconst 2, 1) := by decide +kernel
theorem dL_isStep_835 : decode cL_isStep 835 = .ok (.invokevirtual 9, 3) := by decide +kernel
theorem dL_isStep_838 : decode cL_isStep 838 = .ok (.iload 7, 2) := by decide +kernel
theorem dL_isStep_840 : decode cL_isStep 840 = .ok (.iload 9, 2) := by decide +kernel
theorem dL_isStep_842 : decode cL_isStep 842 = .ok (.iadd, 1) := by decide +kernel
theorem dL_isStep_843 : decode cL_isStep 843 = .ok (.if_icmp .ne 34, 3) := by decide +kernel
theorem dL_isStep_846 : decode cL_isStep 846 = .ok (.aload_n 0, 1) := by decide +kernel
theorem dL_isStep_847 : decode cL_isStep 847 = .ok (.bipush 9, 2) := by decide +kernel
theorem dL_isStep_849 : decode cL_isStep 849 = .ok (.invokevirtual 9, 3) := by decide +kernel
theorem dL_isStep_852 : decode cL_isStep 852 = .ok (.iload 8, 2) := by decide +kernel
theorem dL_isStep_854 : decode cL_isStep 854 = .ok (.iload 9, 2) := by decide +kernel
theorem dL_isStep_856 : decode cL_isStep 856 = .ok (.iadd, 1) := by decide +kernel
theorem dL_isStep_857 : decode cL_isStep 857 = .ok (.if_icmp .ne 20, 3) := by decide +kernel
theorem dL_isStep_860 : decode cL_isStep 860 = .ok (.aload_n 0, 1) := by decide +kernel
theorem dL_isStep_861 : decode cL_isStep 861 = .ok (.iload 6, 2) := by decide +kernel
theorem dL_isStep_863 : decode cL_isStep 863 = .ok (.bipush 8, 2) := by decide +kernel
theorem dL_isStep_865 : decode cL_isStep 865 = .ok (.invokevirtual 28, 3) := by decide +kernel
theorem dL_isStep_868 : decode cL_isStep 868 = .ok (.bipush (-6), 2) := by decide +kernel
theorem dL_isStep_870 : decode cL_isStep 870 = .ok (.if_icmp .ne 7, 3) := by decide +kernel
theorem dL_isStep_873 : decode cL_isStep 873 = .ok (.iconst 1, 1) := by decide +kernel
theorem dL_isStep_874 : decode cL_isStep 874 = .ok (.goto 4, 3) := by decide +kernel
theorem dL_isStep_877 : decode cL_isStep 877 = .ok (.iconst 0, 1) := by decide +kernel
theorem dL_isStep_878 : decode cL_isStep 878 = .ok (.ireturn, 1) := by decide +kernel
theorem dL_areAlike_0 : decode cL_areAlike 0 = .ok (.aload_n 0, 1) := by decide +kernel
theorem dL_areAlike_1 : decode cL_areAlike 1 = .ok (.invokevirtual 50, 3) := by decide +kernel
theorem dL_areAlike_4 : decode cL_areAlike 4 = .ok (.aload_n 1, 1) := by decide +kernel
theorem dL_areAlike_5 : decode cL_areAlike 5 = .ok (.invokevirtual 50, 3) := by decide +kernel
theorem dL_areAlike_8 : decode cL_areAlike 8 = .ok (.if_icmp .ne 29, 3) := by decide +kernel
theorem dL_areAlike_11 : decode cL_areAlike 11 = .ok (.aload_n 0, 1) := by decide +kernel
theorem dL_areAlike_12 : decode cL_areAlike 12 = .ok (.invokevirtual 34, 3) := by decide +kernel
theorem dL_areAlike_15 : decode cL_areAlike 15 = .ok (.aload_n 1, 1) := by decide +kernel
theorem dL_areAlike_16 : decode cL_areAlike 16 = .ok (.invokevirtual 34, 3) := by decide +kernel
theorem dL_areAlike_19 : decode cL_areAlike 19 = .ok (.if_icmp .ne 18, 3) := by decide +kernel
theorem dL_areAlike_22 : decode cL_areAlike 22 = .ok (.aload_n 0, 1) := by decide +kernel
theorem dL_areAlike_23 : decode cL_areAlike 23 = .ok (.invokevirtual 53, 3) := by decide +kernel
theorem dL_areAlike_26 : decode cL_areAlike 26 = .ok (.aload_n 1, 1) := by decide +kernel
theorem dL_areAlike_27 : decode cL_areAlike 27 = .ok (.invokevirtual 53, 3) := by decide +kernel
theorem dL_areAlike_30 : decode cL_areAlike 30 = .ok (.if_icmp .ne 7, 3) := by decide +kernel
theorem dL_areAlike_33 : decode cL_areAlike 33 = .ok (.iconst 1, 1) := by decide +kernel
theorem dL_areAlike_34 : decode cL_areAlike 34 = .ok (.goto 4, 3) := by decide +kernel
theorem dL_areAlike_37 : decode cL_areAlike 37 = .ok (.iconst 0, 1) := by decide +kernel
theorem dL_areAlike_38 : decode cL_areAlike 38 = .ok (.istore_n 2, 1) := by decide +kernel
theorem dL_areAlike_39 : decode cL_areAlike 39 = .ok (.iconst 0, 1) := by decide +kernel
theorem dL_areAlike_40 : decode cL_areAlike 40 = .ok (.istore_n 3, 1) := by decide +kernel
theorem dL_areAlike_41 : decode cL_areAlike 41 = .ok (.iload_n 3, 1) := by decide +kernel
theorem dL_areAlike_42 : decode cL_areAlike 42 = .ok (.bipush 14, 2) := by decide +kernel
theorem dL_areAlike_44 : decode cL_areAlike 44 = .ok (.if_icmp .ge 32, 3) := by decide +kernel
theorem dL_areAlike_47 : decode cL_areAlike 47 = .ok (.iload_n 2, 1) := by decide +kernel
theorem dL_areAlike_48 : decode cL_areAlike 48 = .ok (.ifCond .eq 20, 3) := by decide +kernel
theorem dL_areAlike_51 : decode cL_areAlike 51 = .ok (.aload_n 0, 1) := by decide +kernel
theorem dL_areAlike_52 : decode cL_areAlike 52 = .ok (.iload_n 3, 1) := by decide +kernel
theorem dL_areAlike_53 : decode cL_areAlike 53 = .ok (.invokevirtual 9, 3) := by decide +kernel
theorem dL_areAlike_56 : decode cL_areAlike 56 = .ok (.aload_n 1, 1) := by decide +kernel
theorem dL_areAlike_57 : decode cL_areAlike 57 = .ok (.iload_n 3, 1) := by decide +kernel
theorem dL_areAlike_58 : decode cL_areAlike 58 = .ok (.invokevirtual 9, 3) := by decide +kernel
theorem dL_areAlike_61 : decode cL_areAlike 61 = .ok (.if_icmp .ne 7, 3) := by decide +kernel
theorem dL_areAlike_64 : decode cL_areAlike 64 = .ok (.iconst 1, 1) := by decide +kernel
theorem dL_areAlike_65 : decode cL_areAlike 65 = .ok (.goto 4, 3) := by decide +kernel
theorem dL_areAlike_68 : decode cL_areAlike 68 = .ok (.iconst 0, 1) := by decide +kernel
theorem dL_areAlike_69 : decode cL_areAlike 69 = .ok (.istore_n 2, 1) := by decide +kernel
theorem dL_areAlike_70 : decode cL_areAlike 70 = .ok (.iinc 3 1, 3) := by decide +kernel
theorem dL_areAlike_73 : decode cL_areAlike 73 = .ok (.goto (-32), 3) := by decide +kernel
theorem dL_areAlike_76 : decode cL_areAlike 76 = .ok (.iconst 0, 1) := by decide +kernel
theorem dL_areAlike_77 : decode cL_areAlike 77 = .ok (.istore_n 3, 1) := by decide +kernel
theorem dL_areAlike_78 : decode cL_areAlike 78 = .ok (.iload_n 3, 1) := by decide +kernel
theorem dL_areAlike_79 : decode cL_areAlike 79 = .ok (.aload_n 0, 1) := by decide +kernel
theorem dL_areAlike_80 : decode cL_areAlike 80 = .ok (.iconst 1, 1) := by decide +kernel
theorem dL_areAlike_81 : decode cL_areAlike 81 = .ok (.invokevirtual 9, 3) := by decide +kernel
theorem dL_areAlike_84 : decode cL_areAlike 84 = .ok (.if_icmp .ge 109, 3) := by decide +kernel
theorem dL_areAlike_87 : decode cL_areAlike 87 = .ok (.iload_n 2, 1) := by decide +kernel
theorem dL_areAlike_88 : decode cL_areAlike 88 = .ok (.ifCond .eq 105, 3) := by decide +kernel
theorem dL_areAlike_91 : decode cL_areAlike 91 = .ok (.iconst 0, 1) := by decide +kernel
theorem dL_areAlike_92 : decode cL_areAlike 92 = .ok (.istore 4, 2) := by decide +kernel
theorem dL_areAlike_94 : decode cL_areAlike 94 = .ok (.iload 4, 2) := by decide +kernel
theorem dL_areAlike_96 : decode cL_areAlike 96 = .ok (.bipush 11, 2) := by decide +kernel
theorem dL_areAlike_98 : decode cL_areAlike 98 = .ok (.if_icmp .ge 36, 3) := by decide +kernel
theorem dL_areAlike_101 : decode cL_areAlike 101 = .ok (.iload_n 2, 1) := by decide +kernel
theorem dL_areAlike_102 : decode cL_areAlike 102 = .ok (.ifCond .eq 24, 3) := by decide +kernel
theorem dL_areAlike_105 : decode cL_areAlike 105 = .ok (.aload_n 0, 1) := by decide +kernel
theorem dL_areAlike_106 : decode cL_areAlike 106 = .ok (.iload_n 3, 1) := by decide +kernel
theorem dL_areAlike_107 : decode cL_areAlike 107 = .ok (.iload 4, 2) := by decide +kernel
theorem dL_areAlike_109 : decode cL_areAlike 109 = .ok (.invokevirtual 28, 3) := by decide +kernel
theorem dL_areAlike_112 : decode cL_areAlike 112 = .ok (.aload_n 1, 1) := by decide +kernel
theorem dL_areAlike_113 : decode cL_areAlike 113 = .ok (.iload_n 3, 1) := by decide +kernel
theorem dL_areAlike_114 : decode cL_areAlike 114 = .ok (.iload 4, 2) := by decide +kernel
theorem dL_areAlike_116 : decode cL_areAlike 116 = .ok (.invokevirtual 28, 3) := by decide +kernel
theorem dL_areAlike_119 : decode cL_areAlike 119 = .ok (.if_icmp .ne 7, 3) := by decide +kernel
theorem dL_areAlike_122 : decode cL_areAlike 122 = .ok (.iconst 1, 1) := by decide +kernel
theorem dL_areAlike_123 : decode cL_areAlike 123 = .ok (.goto 4, 3) := by decide +kernel
theorem dL_areAlike_126 : decode cL_areAlike 126 = .ok (.iconst 0, 1) := by decide +kernel
theorem dL_areAlike_127 : decode cL_areAlike 127 = .ok (.istore_n 2, 1) := by decide +kernel
theorem dL_areAlike_128 : decode cL_areAlike 128 = .ok (.iinc 4 1, 3) := by decide +kernel
theorem dL_areAlike_131 : decode cL_areAlike 131 = .ok (.goto (-37), 3) := by decide +kernel
theorem dL_areAlike_134 : decode cL_areAlike 134 = .ok (.iload_n 2, 1) := by decide +kernel
theorem dL_areAlike_135 : decode cL_areAlike 135 = .ok (.ifCond .eq 50, 3) := by decide +kernel
theorem dL_areAlike_138 : decode cL_areAlike 138 = .ok (.aload_n 0, 1) := by decide +kernel
theorem dL_areAlike_139 : decode cL_areAlike 139 = .ok (.iload_n 3, 1) := by decide +kernel
theorem dL_areAlike_140 : decode cL_areAlike 140 = .ok (.iconst 0, 1) := by decide +kernel
theorem dL_areAlike_141 : decode cL_areAlike 141 = .ok (.invokevirtual 56, 3) := by decide +kernel
theorem dL_areAlike_144 : decode cL_areAlike 144 = .ok (.aload_n 1, 1) := by decide +kernel
theorem dL_areAlike_145 : decode cL_areAlike 145 = .ok (.iload_n 3, 1) := by decide +kernel
theorem dL_areAlike_146 : decode cL_areAlike 146 = .ok (.iconst 0, 1) := by decide +kernel
theorem dL_areAlike_147 : decode cL_areAlike 147 = .ok (.invokevirtual 56, 3) := by decide +kernel
theorem dL_areAlike_150 : decode cL_areAlike 150 = .ok (.if_icmp .ne 35, 3) := by decide +kernel
theorem dL_areAlike_153 : decode cL_areAlike 153 = .ok (.aload_n 0, 1) := by decide +kernel
theorem dL_areAlike_154 : decode cL_areAlike 154 = .ok (.iload_n 3, 1) := by decide +kernel
theorem dL_areAlike_155 : decode cL_areAlike 155 = .ok (.iconst 1, 1) := by decide +kernel
theorem dL_areAlike_156 : decode cL_areAlike 156 = .ok (.invokevirtual 56, 3) := by decide +kernel
theorem dL_areAlike_159 : decode cL_areAlike 159 = .ok (.aload_n 1, 1) := by decide +kernel
theorem dL_areAlike_160 : decode cL_areAlike 160 = .ok (.iload_n 3, 1) := by decide +kernel
theorem dL_areAlike_161 : decode cL_areAlike 161 = .ok (.iconst 1, 1) := by decide +kernel
theorem dL_areAlike_162 : decode cL_areAlike 162 = .ok (.invokevirtual 56, 3) := by decide +kernel
theorem dL_areAlike_165 : decode cL_areAlike 165 = .ok (.if_icmp .ne 20, 3) := by decide +kernel
theorem dL_areAlike_168 : decode cL_areAlike 168 = .ok (.aload_n 0, 1) := by decide +kernel
theorem dL_areAlike_169 : decode cL_areAlike 169 = .ok (.iload_n 3, 1) := by decide +kernel
theorem dL_areAlike_170 : decode cL_areAlike 170 = .ok (.invokevirtual 59, 3) := by decide +kernel
theorem dL_areAlike_173 : decode cL_areAlike 173 = .ok (.aload_n 1, 1) := by decide +kernel
theorem dL_areAlike_174 : decode cL_areAlike 174 = .ok (.iload_n 3, 1) := by decide +kernel
theorem dL_areAlike_175 : decode cL_areAlike 175 = .ok (.invokevirtual 59, 3) := by decide +kernel
theorem dL_areAlike_178 : decode cL_areAlike 178 = .ok (.if_icmp .ne 7, 3) := by decide +kernel
theorem dL_areAlike_181 : decode cL_areAlike 181 = .ok (.iconst 1, 1) := by decide +kernel
theorem dL_areAlike_182 : decode cL_areAlike 182 = .ok (.goto 4, 3) := by decide +kernel
theorem dL_areAlike_185 : decode cL_areAlike 185 = .ok (.iconst 0, 1) := by decide +kernel
theorem dL_areAlike_186 : decode cL_areAlike 186 = .ok (.istore_n 2, 1) := by decide +kernel
theorem dL_areAlike_187 : decode cL_areAlike 187 = .ok (.iinc 3 1, 3) := by decide +kernel
theorem dL_areAlike_190 : decode cL_areAlike 190 = .ok (.goto (-112), 3) := by decide +kernel
theorem dL_areAlike_193 : decode cL_areAlike 193 = .ok (.iconst 0, 1) := by decide +kernel
theorem dL_areAlike_194 : decode cL_areAlike 194 = .ok (.istore_n 3, 1) := by decide +kernel
theorem dL_areAlike_195 : decode cL_areAlike 195 = .ok (.iload_n 3, 1) := by decide +kernel
theorem dL_areAlike_196 : decode cL_areAlike 196 = .ok (.aload_n 0, 1) := by decide +kernel
theorem dL_areAlike_197 : decode cL_areAlike 197 = .ok (.iconst 2, 1) := by decide +kernel
theorem dL_areAlike_198 : decode cL_areAlike 198 = .ok (.invokevirtual 9, 3) := by decide +kernel
theorem dL_areAlike_201 : decode cL_areAlike 201 = .ok (.if_icmp .ge 51, 3) := by decide +kernel
theorem dL_areAlike_204 : decode cL_areAlike 204 = .ok (.iconst 0, 1) := by decide +kernel
theorem dL_areAlike_205 : decode cL_areAlike 205 = .ok (.istore 4, 2) := by decide +kernel
theorem dL_areAlike_207 : decode cL_areAlike 207 = .ok (.iload 4, 2) := by decide +kernel
theorem dL_areAlike_209 : decode cL_areAlike 209 = .ok (.iconst 5, 1) := by decide +kernel
theorem dL_areAlike_210 : decode cL_areAlike 210 = .ok (.if_icmp .ge 36, 3) := by decide +kernel
theorem dL_areAlike_213 : decode cL_areAlike 213 = .ok (.iload_n 2, 1) := by decide +kernel
theorem dL_areAlike_214 : decode cL_areAlike 214 = .ok (.ifCond .eq 24, 3) := by decide +kernel
theorem dL_areAlike_217 : decode cL_areAlike 217 = .ok (.aload_n 0, 1) := by decide +kernel
theorem dL_areAlike_218 : decode cL_areAlike 218 = .ok (.iload_n 3, 1) := by decide +kernel
theorem dL_areAlike_219 : decode cL_areAlike 219 = .ok (.iload 4, 2) := by decide +kernel
theorem dL_areAlike_221 : decode cL_areAlike 221 = .ok (.invokevirtual 38, 3) := by decide +kernel
theorem dL_areAlike_224 : decode cL_areAlike 224 = .ok (.aload_n 1, 1) := by decide +kernel
theorem dL_areAlike_225 : decode cL_areAlike 225 = .ok (.iload_n 3, 1) := by decide +kernel
theorem dL_areAlike_226 : decode cL_areAlike 226 = .ok (.iload 4, 2) := by decide +kernel
theorem dL_areAlike_228 : decode cL_areAlike 228 = .ok (.invokevirtual 38, 3) := by decide +kernel
theorem dL_areAlike_231 : decode cL_areAlike 231 = .ok (.if_icmp .ne 7, 3) := by decide +kernel
theorem dL_areAlike_234 : decode cL_areAlike 234 = .ok (.iconst 1, 1) := by decide +kernel
theorem dL_areAlike_235 : decode cL_areAlike 235 = .ok (.goto 4, 3) := by decide +kernel
theorem dL_areAlike_238 : decode cL_areAlike 238 = .ok (.iconst 0, 1) := by decide +kernel
theorem dL_areAlike_239 : decode cL_areAlike 239 = .ok (.istore_n 2, 1) := by decide +kernel
theorem dL_areAlike_240 : decode cL_areAlike 240 = .ok (.iinc 4 1, 3) := by decide +kernel
theorem dL_areAlike_243 : decode cL_areAlike 243 = .ok (.goto (-36), 3) := by decide +kernel
theorem dL_areAlike_246 : decode cL_areAlike 246 = .ok (.iinc 3 1, 3) := by decide +kernel
theorem dL_areAlike_249 : decode cL_areAlike 249 = .ok (.goto (-54), 3) := by decide +kernel
theorem dL_areAlike_252 : decode cL_areAlike 252 = .ok (.iload_n 2, 1) := by decide +kernel
theorem dL_areAlike_253 : decode cL_areAlike 253 = .ok (.ireturn, 1) := by decide +kernel
theorem dL_isWell_0 : decode cL_isWell 0 = .ok (.aload_n 0, 1) := by decide +kernel
theorem dL_isWell_1 : decode cL_isWell 1 = .ok (.iconst 1, 1) := by decide +kernel
theorem dL_isWell_2 : decode cL_isWell 2 = .ok (.invokevirtual 9, 3) := by decide +kernel
theorem dL_isWell_5 : decode cL_isWell 5 = .ok (.istore_n 1, 1) := by decide +kernel
theorem dL_isWell_6 : decode cL_isWell 6 = .ok (.bipush 6, 2) := by decide +kernel
theorem dL_isWell_8 : decode cL_isWell 8 = .ok (.newarray .int, 2) := by decide +kernel
theorem dL_isWell_10 : decode cL_isWell 10 = .ok (.astore_n 2, 1) := by decide +kernel
theorem dL_isWell_11 : decode cL_isWell 11 = .ok (.bipush 6, 2) := by decide +kernel
theorem dL_isWell_13 : decode cL_isWell 13 = .ok (.newarray .int, 2) := by decide +kernel
theorem dL_isWell_15 : decode cL_isWell 15 = .ok (.astore_n 3, 1) := by decide +kernel
theorem dL_isWell_16 : decode cL_isWell 16 = .ok (.iconst 0, 1) := by decide +kernel
theorem dL_isWell_17 : decode cL_isWell 17 = .ok (.istore 4, 2) := by decide +kernel
theorem dL_isWell_19 : decode cL_isWell 19 = .ok (.iconst 0, 1) := by decide +kernel
theorem dL_isWell_20 : decode cL_isWell 20 = .ok (.istore 5, 2) := by decide +kernel
theorem dL_isWell_22 : decode cL_isWell 22 = .ok (.iconst 0, 1) := by decide +kernel
theorem dL_isWell_23 : decode cL_isWell 23 = .ok (.istore 6, 2) := by decide +kernel
theorem dL_isWell_25 : decode cL_isWell 25 = .ok (.aload_n 0, 1) := by decide +kernel
theorem dL_isWell_26 : decode cL_isWell 26 = .ok (.iconst 4, 1) := by decide +kernel
theorem dL_isWell_27 : decode cL_isWell 27 = .ok (.invokevirtual 9, 3) := by decide +kernel
theorem dL_isWell_30 : decode cL_isWell 30 = .ok (.aload_n 0, 1) := by decide +kernel
theorem dL_isWell_31 : decode cL_isWell 31 = .ok (.iconst 5, 1) := by decide +kernel
theorem dL_isWell_32 : decode cL_isWell 32 = .ok (.invokevirtual 9, 3) := by decide +kernel
theorem dL_isWell_35 : decode cL_isWell 35 = .ok (.iadd, 1) := by decide +kernel
theorem dL_isWell_36 : decode cL_isWell 36 = .ok (.aload_n 0, 1) := by decide +kernel
theorem dL_isWell_37 : decode cL_isWell 37 = .ok (.bipush 6, 2) := by decide +kernel
theorem dL_isWell_39 : decode cL_isWell 39 = .ok (.invokevirtual 9, 3) := by decide +kernel
theorem dL_isWell_42 : decode cL_isWell 42 = .ok (.iadd, 1) := by decide +kernel
theorem dL_isWell_43 : decode cL_isWell 43 = .ok (.aload_n 0, 1) := by decide +kernel
theorem dL_isWell_44 : decode cL_isWell 44 = .ok (.bipush 7, 2) := by decide +kernel
theorem dL_isWell_46 : decode cL_isWell 46 = .ok (.invokevirtual 9, 3) := by decide +kernel
theorem dL_isWell_49 : decode cL_isWell 49 = .ok (.iadd, 1) := by decide +kernel
theorem dL_isWell_50 : decode cL_isWell 50 = .ok (.iload_n 1, 1) := by decide +kernel
theorem dL_isWell_51 : decode cL_isWell 51 = .ok (.if_icmp .ne 30, 3) := by decide +kernel
theorem dL_isWell_54 : decode cL_isWell 54 = .ok (.aload_n 0, 1) := by decide +kernel
theorem dL_isWell_55 : decode cL_isWell 55 = .ok (.iconst 3, 1) := by decide +kernel
theorem dL_isWell_56 : decode cL_isWell 56 = .ok (.invokevirtual 9, 3) := by decide +kernel
theorem dL_isWell_59 : decode cL_isWell 59 = .ok (.aload_n 0, 1) := by decide +kernel
theorem dL_isWell_60 : decode cL_isWell 60 = .ok (.iconst 2, 1) := by decide +kernel
theorem dL_isWell_61 : decode cL_isWell 61 = .ok (.invokevirtual 9, 3) := by decide +kernel
theorem dL_isWell_64 : decode cL_isWell 64 = .ok (.if_icmp .gt 17, 3) := by decide +kernel
theorem dL_isWell_67 : decode cL_isWell 67 = .ok (.aload_n 0, 1) := by decide +kernel
theorem dL_isWell_68 : decode cL_isWell 68 = .ok (.iconst 2, 1) := by decide +kernel
theorem dL_isWell_69 : decode cL_isWell 69 = .ok (.invokevirtual 9, 3) := by decide +kernel
theorem dL_isWell_72 : decode cL_isWell 72 = .ok (.bipush 8, 2) := by decide +kernel
theorem dL_isWell_74 : decode cL_isWell 74 = .ok (.if_icmp .gt 7, 3) := by decide +kernel
theorem dL_isWell_77 : decode cL_isWell 77 = .ok (.iconst 1, 1) := by decide +kernel
theorem dL_isWell_78 : decode cL_isWell 78 = .ok (.goto 4, 3) := by decide +kernel
theorem dL_isWell_81 : decode cL_isWell 81 = .ok (.iconst 0, 1) := by decide +kernel
theorem dL_isWell_82 : decode cL_isWell 82 = .ok (.istore 7, 2) := by decide +kernel
theorem dL_isWell_84 : decode cL_isWell 84 = .ok (.iconst 0, 1) := by decide +kernel
theorem dL_isWell_85 : decode cL_isWell 85 = .ok (.istore 8, 2) := by decide +kernel
theorem dL_isWell_87 : decode cL_isWell 87 = .ok (.iload 8, 2) := by decide +kernel
theorem dL_isWell_89 : decode cL_isWell 89 = .ok (.iload_n 1, 1) := by decide +kernel
theorem dL_isWell_90 : decode cL_isWell 90 = .ok (.if_icmp .ge 363, 3) := by decide +kernel
theorem dL_isWell_93 : decode cL_isWell 93 = .ok (.iload 7, 2) := by decide +kernel
theorem dL_isWell_95 : decode cL_isWell 95 = .ok (.ifCond .eq 358, 3) := by decide +kernel
theorem dL_isWell_98 : decode cL_isWell 98 = .ok (.aload_n 0, 1) := by decide +kernel
theorem dL_isWell_99 : decode cL_isWell 99 = .ok (.iload 8, 2) := by decide +kernel
theorem dL_isWell_101 : decode cL_isWell 101 = .ok (.iconst 4, 1) := by decide +kernel
theorem dL_isWell_102 : decode cL_isWell 102 = .ok (.invokevirtual 28, 3) := by decide +kernel
theorem dL_isWell_105 : decode cL_isWell 105 = .ok (.istore 9, 2) := by decide +kernel
theorem dL_isWell_107 : decode cL_isWell 107 = .ok (.aload_n 0, 1) := by decide +kernel
theorem dL_isWell_108 : decode cL_isWell 108 = .ok (.iload 8, 2) := by decide +kernel
theorem dL_isWell_110 : decode cL_isWell 110 = .ok (.bipush 8, 2) := by decide +kernel
theorem dL_isWell_112 : decode cL_isWell 112 = .ok (.invokevirtual 28, 3) := by decide +kernel
theorem dL_isWell_115 : decode cL_isWell 115 = .ok (.istore 10, 2) := by decide +kernel
theorem dL_isWell_117 : decode cL_isWell 117 = .ok (.iload 9, 2) := by decide +kernel
theorem dL_isWell_119 : decode cL_isWell 119 = .ok (.iconst 2, 1) := by decide +kernel
theorem dL_isWell_120 : decode cL_isWell 120 = .ok (.if_icmp .ge 134, 3) := by decide +kernel
theorem dL_isWell_123 : decode cL_isWell 123 = .ok (.iload 9, 2) := by decide +kernel
theorem dL_isWell_125 : decode cL_isWell 125 = .ok (.iconst 1, 1) := by decide +kernel
theorem dL_isWell_126 : decode cL_isWell 126 = .ok (.if_icmp .ne 7, 3) := by decide +kernel
theorem dL_isWell_129 : decode cL_isWell 129 = .ok (.iconst 5, 1) := by decide +kernel
theorem dL_isWell_130 : decode cL_isWell 130 = .ok (.goto 10, 3) := by decide +kernel
theorem dL_isWell_133 : decode cL_isWell 133 = .ok (.aload_n 0, 1) := by decide +kernel
theorem dL_isWell_134 : decode cL_isWell 134 = .ok (.iload 8, 2) := by decide +kernel
theorem dL_isWell_136 : decode cL_isWell 136 = .ok (.iconst 0, 1) := by decide +kernel
theorem dL_isWell_137 : decode cL_isWell 137 = .ok (.invokevirtual 28, 3) := by decide +kernel
theorem dL_isWell_140 : decode cL_isWell 140 = .ok (.istore 11, 2) := by decide +kernel
theorem dL_isWell_142 : decode cL_isWell 142 = .ok (.aload_n 2, 1) := by decide +kernel
theorem dL_isWell_143 : decode cL_isWell 143 = .ok (.iload 11, 2) := by decide +kernel
theorem dL_isWell_145 : decode cL_isWell 145 = .ok (.dup2, 1) := by decide +kernel
theorem dL_isWell_146 : decode cL_isWell 146 = .ok (.iaload, 1) := by decide +kernel
theorem dL_isWell_147 : decode cL_isWell 147 = .ok (.iconst 1, 1) := by decide +kernel
theorem dL_isWell_148 : decode cL_isWell 148 = .ok (.iload 10, 2) := by decide +kernel
theorem dL_isWell_150 : decode cL_isWell 150 = .ok (.ishl, 1) := by decide +kernel
theorem dL_isWell_151 : decode cL_isWell 151 = .ok (.ior, 1) := by decide +kernel
theorem dL_isWell_152 : decode cL_isWell 152 = .ok (.iastore, 1) := by decide +kernel
theorem dL_isWell_153 : decode cL_isWell 153 = .ok (.aload_n 3, 1) := by decide +kernel
theorem dL_isWell_154 : decode cL_isWell 154 = .ok (.iload 11, 2) := by decide +kernel
theorem dL_isWell_156 : decode cL_isWell 156 = .ok (.dup2, 1) := by decide +kernel
theorem dL_isWell_157 : decode cL_isWell 157 = .ok (.iaload, 1) := by decide +kernel
theorem dL_isWell_158 : decode cL_isWell 158 = .ok (.iconst 1, 1) := by decide +kernel
theorem dL_isWell_159 : decode cL_isWell 159 = .ok (.iadd, 1) := by decide +kernel
theorem dL_isWell_160 : decode cL_isWell 160 = .ok (.iastore, 1) := by decide +kernel
theorem dL_isWell_161 : decode cL_isWell 161 = .ok (.aload_n 0, 1) := by decide +kernel
theorem dL_isWell_162 : decode cL_isWell 162 = .ok (.iload 8, 2) := by decide +kernel
theorem dL_isWell_164 : decode cL_isWell 164 = .ok (.invokevirtual 59, 3) := by decide +kernel
theorem dL_isWell_167 : decode cL_isWell 167 = .ok (.iconst 1, 1) := by decide +kernel
theorem dL_isWell_168 : decode cL_isWell 168 = .ok (.if_icmp .ge 14, 3) := by decide +kernel
theorem dL_isWell_171 : decode cL_isWell 171 = .ok (.aload_n 0, 1) := by decide +kernel
theorem dL_isWell_172 : decode cL_isWell 172 = .ok (.iload 8, 2) := by decide +kernel
theorem dL_isWell_174 : decode cL_isWell 174 = .ok (.invokevirtual 59, 3) := by decide +kernel
theorem dL_isWell_177 : decode cL_isWell 177 = .ok (.bipush (-6), 2) := by decide +kernel
theorem dL_isWell_179 : decode cL_isWell 179 = .ok (.if_icmp .ne 7, 3) := by decide +kernel
theorem dL_isWell_182 : decode cL_isWell 182 = .ok (.iconst 1, 1) := by decide +kernel
theorem dL_isWell_183 : decode cL_isWell 183 = .ok (.goto 4, 3) := by decide +kernel
theorem dL_isWell_186 : decode cL_isWell 186 = .ok (.iconst 0, 1) := by decide +kernel
theorem dL_isWell_187 : decode cL_isWell 187 = .ok (.istore 7, 2) := by decide +kernel
theorem dL_isWell_189 : decode cL_isWell 189 = .ok (.iload 7, 2) := by decide +kernel
theorem dL_isWell_191 : decode cL_isWell 191 = .ok (.ifCond .eq 57, 3) := by decide +kernel
theorem dL_isWell_194 : decode cL_isWell 194 = .ok (.iload 9, 2) := by decide +kernel
theorem dL_isWell_196 : decode cL_isWell 196 = .ok (.iconst 1, 1) := by decide +kernel
theorem dL_isWell_197 : decode cL_isWell 197 = .ok (.if_icmp .ne 7, 3) := by decide +kernel
theorem dL_isWell_200 : decode cL_isWell 200 = .ok (.iconst 1, 1) := by decide +kernel
theorem dL_isWell_201 : decode cL_isWell 201 = .ok (.goto 4, 3) := by decide +kernel
theorem dL_isWell_204 : decode cL_isWell 204 = .ok (.iconst 0, 1) := by decide +kernel
theorem dL_isWell_205 : decode cL_isWell 205 = .ok (.aload_n 0, 1) := by decide +kernel
theorem dL_isWell_206 : decode cL_isWell 206 = .ok (.iload 8, 2) := by decide +kernel
theorem dL_isWell_208 : decode cL_isWell 208 = .ok (.bipush 6, 2) := by decide +kernel
theorem dL_isWell_210 : decode cL_isWell 210 = .ok (.invokevirtual 28, 3) := by decide +kernel
theorem dL_isWell_213 : decode cL_isWell 213 = .ok (.aload_n 0, 1) := by decide +kernel
theorem dL_isWell_214 : decode cL_isWell 214 = .ok (.iload 8, 2) := by decide +kernel
theorem dL_isWell_216 : decode cL_isWell 216 = .ok (.iconst 1, 1) := by decide +kernel
theorem dL_isWell_217 : decode cL_isWell 217 = .ok (.invokevirtual 28, 3) := by decide +kernel
theorem dL_isWell_220 : decode cL_isWell 220 = .ok (.if_icmp .ne 7, 3) := by decide +kernel
theorem dL_isWell_223 : decode cL_isWell 223 = .ok (.iconst 1, 1) := by decide +kernel
theorem dL_isWell_224 : decode cL_isWell 224 = .ok (.goto 4, 3) := by decide +kernel
theorem dL_isWell_227 : decode cL_isWell 227 = .ok (.iconst 0, 1) := by decide +kernel
theorem dL_isWell_228 : decode cL_isWell 228 = .ok (.if_icmp .ne 20, 3) := by decide +kernel
theorem dL_isWell_231 : decode cL_isWell 231 = .ok (.aload_n 0, 1) := by decide +kernel
theorem dL_isWell_232 : decode cL_isWell 232 = .ok (.iload 8, 2) := by decide +kernel
theorem dL_isWell_234 : decode cL_isWell 234 = .ok (.bipush 9, 2) := by decide +kernel
theorem dL_isWell_236 : decode cL_isWell 236 = .ok (.invokevirtual 28, 3) := by decide +kernel
theorem dL_isWell_239 : decode cL_isWell 239 = .ok (.bipush (-6), 2) := by decide +kernel
theorem dL_isWell_241 : decode cL_isWell 241 = .ok (.if_icmp .ne 7, 3) := by decide +kernel
theorem dL_isWell_244 : decode cL_isWell 244 = .ok (.iconst 1, 1) := by decide +kernel
theorem dL_isWell_245 : decode cL_isWell 245 = .ok (.goto 4, 3) := by decide +kernel
theorem dL_isWell_248 : decode cL_isWell 248 = .ok (.iconst 0, 1) := by decide +kernel
theorem dL_isWell_249 : decode cL_isWell 249 = .ok (.istore 7, 2) := by decide +kernel
theorem dL_isWell_251 : decode cL_isWell 251 = .ok (.goto 77, 3) := by decide +kernel
theorem dL_isWell_254 : decode cL_isWell 254 = .ok (.iload 10, 2) := by decide +kernel
theorem dL_isWell_256 : decode cL_isWell 256 = .ok (.bipush (-6), 2) := by decide +kernel
theorem dL_isWell_258 : decode cL_isWell 258 = .ok (.if_icmp .ne 67, 3) := by decide +kernel
theorem dL_isWell_261 : decode cL_isWell 261 = .ok (.iload 9, 2) := by decide +kernel
theorem dL_isWell_263 : decode cL_isWell 263 = .ok (.iconst 3, 1) := by decide +kernel
theorem dL_isWell_264 : decode cL_isWell 264 = .ok (.if_icmp .eq 57, 3) := by decide +kernel
theorem dL_isWell_267 : decode cL_isWell 267 = .ok (.aload_n 0, 1) := by decide +kernel
theorem dL_isWell_268 : decode cL_isWell 268 = .ok (.iload 8, 2) := by decide +kernel
theorem dL_isWell_270 : decode cL_isWell 270 = .ok (.bipush 6, 2) := by decide +kernel
theorem dL_isWell_272 : decode cL_isWell 272 = .ok (.invokevirtual 28, 3) := by decide +kernel
theorem dL_isWell_275 : decode cL_isWell 275 = .ok (.aload_n 0, 1) := by decide +kernel
theorem dL_isWell_276 : decode cL_isWell 276 = .ok (.iload 8, 2) := by decide +kernel
theorem dL_isWell_278 : decode cL_isWell 278 = .ok (.iconst 1, 1) := by decide +kernel
theorem dL_isWell_279 : decode cL_isWell 279 = .ok (.invokevirtual 28, 3) := by decide +kernel
theorem dL_isWell_282 : decode cL_isWell 282 = .ok (.if_icmp .ne 43, 3) := by decide +kernel
theorem dL_isWell_285 : decode cL_isWell 285 = .ok (.aload_n 0, 1) := by decide +kernel
theorem dL_isWell_286 : decode cL_isWell 286 = .ok (.iload 8, 2) := by decide +kernel
theorem dL_isWell_288 : decode cL_isWell 288 = .ok (.bipush 9, 2) := by decide +kernel
theorem dL_isWell_290 : decode cL_isWell 290 = .ok (.invokevirtual 28, 3) := by decide +kernel
theorem dL_isWell_293 : decode cL_isWell 293 = .ok (.ifCond .lt 32, 3) := by decide +kernel
theorem dL_isWell_296 : decode cL_isWell 296 = .ok (.aload_n 0, 1) := by decide +kernel
theorem dL_isWell_297 : decode cL_isWell 297 = .ok (.iload 8, 2) := by decide +kernel
theorem dL_isWell_299 : decode cL_isWell 299 = .ok (.bipush 9, 2) := by decide +kernel
theorem dL_isWell_301 : decode cL_isWell 301 = .ok (.invokevirtual 28, 3) := by decide +kernel
theorem dL_isWell_304 : decode cL_isWell 304 = .ok (.aload_n 0, 1) := by decide +kernel
theorem dL_isWell_305 : decode cL_isWell 305 = .ok (.iconst 0, 1) := by decide +kernel
theorem dL_isWell_306 : decode cL_isWell 306 = .ok (.invokevirtual 9, 3) := by decide +kernel
theorem dL_isWell_309 : decode cL_isWell 309 = .ok (.if_icmp .ge 16, 3) := by decide +kernel
theorem dL_isWell_312 : decode cL_isWell 312 = .ok (.aload_n 0, 1) := by decide +kernel
theorem dL_isWell_313 : decode cL_isWell 313 = .ok (.iload 8, 2) := by decide +kernel
theorem dL_isWell_315 : decode cL_isWell 315 = .ok (.invokevirtual 59, 3) := by decide +kernel
theorem dL_isWell_318 : decode cL_isWell 318 = .ok (.ifCond .ne 7, 3) := by decide +kernel
theorem dL_isWell_321 : decode cL_isWell 321 = .ok (.iconst 1, 1) := by decide +kernel
theorem dL_isWell_322 : decode cL_isWell 322 = .ok (.goto 4, 3) := by decide +kernel
theorem dL_isWell_325 : decode cL_isWell 325 = .ok (.iconst 0, 1) := by decide +kernel
theorem dL_isWell_326 : decode cL_isWell 326 = .ok (.istore 7, 2) := by decide +kernel
theorem dL_isWell_328 : decode cL_isWell 328 = .ok (.iload 7, 2) := by decide +kernel
theorem dL_isWell_330 : decode cL_isWell 330 = .ok (.ifCond .eq 47, 3) := by decide +kernel
theorem dL_isWell_333 : decode cL_isWell 333 = .ok (.aload_n 0, 1) := by decide +kernel
theorem dL_isWell_334 : decode cL_isWell 334 = .ok (.iload 8, 2) := by decide +kernel
theorem dL_isWell_336 : decode cL_isWell 336 = .ok (.bipush 6, 2) := by decide +kernel
theorem dL_isWell_338 : decode cL_isWell 338 = .ok (.invokevirtual 28, 3) := by decide +kernel
theorem dL_isWell_341 : decode cL_isWell 341 = .ok (.aload_n 0, 1) := by decide +kernel
theorem dL_isWell_342 : decode cL_isWell 342 = .ok (.iload 8, 2) := by decide +kernel
theorem dL_isWell_344 : decode cL_isWell 344 = .ok (.iconst 1, 1) := by decide +kernel
theorem dL_isWell_345 : decode cL_isWell 345 = .ok (.invokevirtual 28, 3) := by decide +kernel
theorem dL_isWell_348 : decode cL_isWell 348 = .ok (.if_icmp .gt 29, 3) := by decide +kernel
theorem dL_isWell_351 : decode cL_isWell 351 = .ok (.aload_n 0, 1) := by decide +kernel
theorem dL_isWell_352 : decode cL_isWell 352 = .ok (.iload 8, 2) := by decide +kernel
theorem dL_isWell_354 : decode cL_isWell 354 = .ok (.bipush 7, 2) := by decide +kernel
theorem dL_isWell_356 : decode cL_isWell 356 = .ok (.invokevirtual 28, 3) := by decide +kernel
theorem dL_isWell_359 : decode cL_isWell 359 = .ok (.ifCond .eq 14, 3) := by decide +kernel
theorem dL_isWell_362 : decode cL_isWell 362 = .ok (.aload_n 0, 1) := by decide +kernel
theorem dL_isWell_363 : decode cL_isWell 363 = .ok (.iload 8, 2) := by decide +kernel
theorem dL_isWell_365 : decode cL_isWell 365 = .ok (.iconst 3, 1) := by decide +kernel
theorem dL_isWell_366 : decode cL_isWell 366 = .ok (.invokevirtual 28, 3) := by decide +kernel
theorem dL_isWell_369 : decode cL_isWell 369 = .ok (.iconst 1, 1) := by decide +kernel
theorem dL_isWell_370 : decode cL_isWell 370 = .ok (.if_icmp .ne 7, 3) := by decide +kernel
theorem dL_isWell_373 : decode cL_isWell 373 = .ok (.iconst 1, 1) := by decide +kernel
theorem dL_isWell_374 : decode cL_isWell 374 = .ok (.goto 4, 3) := by decide +kernel
theorem dL_isWell_377 : decode cL_isWell 377 = .ok (.iconst 0, 1) := by decide +kernel
theorem dL_isWell_378 : decode cL_isWell 378 = .ok (.istore 7, 2) := by decide +kernel
theorem dL_isWell_380 : decode cL_isWell 380 = .ok (.iload 4, 2) := by decide +kernel
theorem dL_isWell_382 : decode cL_isWell 382 = .ok (.iload 9, 2) := by decide +kernel
theorem dL_isWell_384 : decode cL_isWell 384 = .ok (.iconst 3, 1) := by decide +kernel
theorem dL_isWell_385 : decode cL_isWell 385 = .ok (.if_icmp .ge 13, 3) := by decide +kernel
theorem dL_isWell_388 : decode cL_isWell 388 = .ok (.aload_n 0, 1) := by decide +kernel
theorem dL_isWell_389 : decode cL_isWell 389 = .ok (.iload 8, 2) := by decide +kernel
theorem dL_isWell_391 : decode cL_isWell 391 = .ok (.iconst 5, 1) := by decide +kernel
theorem dL_isWell_392 : decode cL_isWell 392 = .ok (.invokevirtual 28, 3) := by decide +kernel
theorem dL_isWell_395 : decode cL_isWell 395 = .ok (.goto 4, 3) := by decide +kernel
theorem dL_isWell_398 : decode cL_isWell 398 = .ok (.iconst 0, 1) := by decide +kernel
theorem dL_isWell_399 : decode cL_isWell 399 = .ok (.iadd, 1) := by decide +kernel
theorem dL_isWell_400 : decode cL_isWell 400 = .ok (.istore 4, 2) := by decide +kernel
theorem dL_isWell_402 : decode cL_isWell 402 = .ok (.iload 5, 2) := by decide +kernel
theorem dL_isWell_404 : decode cL_isWell 404 = .ok (.iload 9, 2) := by decide +kernel
theorem dL_isWell_406 : decode cL_isWell 406 = .ok (.iconst 3, 1) := by decide +kernel
theorem dL_isWell_407 : decode cL_isWell 407 = .ok (.if_icmp .ne 7, 3) := by decide +kernel
theorem dL_isWell_410 : decode cL_isWell 410 = .ok (.iconst 1, 1) := by decide +kernel
theorem dL_isWell_411 : decode cL_isWell 411 = .ok (.goto 4, 3) := by decide +kernel
theorem dL_isWell_414 : decode cL_isWell 414 = .ok (.iconst 0, 1) := by decide +kernel
theorem dL_isWell_415 : decode cL_isWell 415 = .ok (.iadd, 1) := by decide +kernel
theorem dL_isWell_416 : decode cL_isWell 416 = .ok (.istore 5, 2) := by decide +kernel
theorem dL_isWell_418 : decode cL_isWell 418 = .ok (.iload 6, 2) := by decide +kernel
theorem dL_isWell_420 : decode cL_isWell 420 = .ok (.iload 9, 2) := by decide +kernel
theorem dL_isWell_422 : decode cL_isWell 422 = .ok (.iconst 2, 1) := by decide +kernel
theorem dL_isWell_423 : decode cL_isWell 423 = .ok (.if_icmp .ne 20, 3) := by decide +kernel
theorem dL_isWell_426 : decode cL_isWell 426 = .ok (.aload_n 0, 1) := by decide +kernel
theorem dL_isWell_427 : decode cL_isWell 427 = .ok (.iload 8, 2) := by decide +kernel
theorem dL_isWell_429 : decode cL_isWell 429 = .ok (.iconst 5, 1) := by decide +kernel
theorem dL_isWell_430 : decode cL_isWell 430 = .ok (.invokevirtual 28, 3) := by decide +kernel
theorem dL_isWell_433 : decode cL_isWell 433 = .ok (.ifCond .ne 10, 3) := by decide +kernel
theorem dL_isWell_436 : decode cL_isWell 436 = .ok (.iconst 1, 1) := by decide +kernel
theorem dL_isWell_437 : decode cL_isWell 437 = .ok (.iload 8, 2) := by decide +kernel
theorem dL_isWell_439 : decode cL_isWell 439 = .ok (.ishl, 1) := by decide +kernel
theorem dL_isWell_440 : decode cL_isWell 440 = .ok (.goto 4, 3) := by decide +kernel
theorem dL_isWell_443 : decode cL_isWell 443 = .ok (.iconst 0, 1) := by decide +kernel
theorem dL_isWell_444 : decode cL_isWell 444 = .ok (.ior, 1) := by decide +kernel
theorem dL_isWell_445 : decode cL_isWell 445 = .ok (.istore 6, 2) := by decide +kernel
theorem dL_isWell_447 : decode cL_isWell 447 = .ok (.iinc 8 1, 3) := by decide +kernel
theorem dL_isWell_450 : decode cL_isWell 450 = .ok (.goto (-363), 3) := by decide +kernel
theorem dL_isWell_453 : decode cL_isWell 453 = .ok (.iconst 0, 1) := by decide +kernel
theorem dL_isWell_454 : decode cL_isWell 454 = .ok (.istore 8, 2) := by decide +kernel
theorem dL_isWell_456 : decode cL_isWell 456 = .ok (.iload 8, 2) := by decide +kernel
theorem dL_isWell_458 : decode cL_isWell 458 = .ok (.bipush 6, 2) := by decide +kernel
theorem dL_isWell_460 : decode cL_isWell 460 = .ok (.if_icmp .ge 36, 3) := by decide +kernel
theorem dL_isWell_463 : decode cL_isWell 463 = .ok (.iload 7, 2) := by decide +kernel
theorem dL_isWell_465 : decode cL_isWell 465 = .ok (.ifCond .eq 22, 3) := by decide +kernel
theorem dL_isWell_468 : decode cL_isWell 468 = .ok (.aload_n 2, 1) := by decide +kernel
theorem dL_isWell_469 : decode cL_isWell 469 = .ok (.iload 8, 2) := by decide +kernel
theorem dL_isWell_471 : decode cL_isWell 471 = .ok (.iaload, 1) := by decide +kernel
theorem dL_isWell_472 : decode cL_isWell 472 = .ok (.iconst 1, 1) := by decide +kernel
theorem dL_isWell_473 : decode cL_isWell 473 = .ok (.aload_n 3, 1) := by decide +kernel
theorem dL_isWell_474 : decode cL_isWell 474 = .ok (.iload 8, 2) := by decide +kernel
theorem dL_isWell_476 : decode cL_isWell 476 = .ok (.iaload, 1) := by decide +kernel
theorem dL_isWell_477 : decode cL_isWell 477 = .ok (.ishl, 1) := by decide +kernel
theorem dL_isWell_478 : decode cL_isWell 478 = .ok (.iconst 1, 1) := by decide +kernel
theorem dL_isWell_479 : decode cL_isWell 479 = .ok (.isub, 1) := by decide +kernel
theorem dL_isWell_480 : decode cL_isWell 480 = .ok (.if_icmp .ne 7, 3) := by decide +kernel
theorem dL_isWell_483 : decode cL_isWell 483 = .ok (.iconst 1, 1) := by decide +kernel
theorem dL_isWell_484 : decode cL_isWell 484 = .ok (.goto 4, 3) := by decide +kernel
theorem dL_isWell_487 : decode cL_isWell 487 = .ok (.iconst 0, 1) := by decide +kernel
theorem dL_isWell_488 : decode cL_isWell 488 = .ok (.istore 7, 2) := by decide +kernel
theorem dL_isWell_490 : decode cL_isWell 490 = .ok (.iinc 8 1, 3) := by decide +kernel
theorem dL_isWell_493 : decode cL_isWell 493 = .ok (.goto (-37), 3) := by decide +kernel
theorem dL_isWell_496 : decode cL_isWell 496 = .ok (.iconst (-1), 1) := by decide +kernel
theorem dL_isWell_497 : decode cL_isWell 497 = .ok (.istore 8, 2) := by decide +kernel
theorem dL_isWell_499 : decode cL_isWell 499 = .ok (.iconst 0, 1) := by decide +kernel
theorem dL_isWell_500 : decode cL_isWell 500 = .ok (.istore 9, 2) := by decide +kernel
theorem dL_isWell_502 : decode cL_isWell 502 = .ok (.iconst 0, 1) := by decide +kernel
theorem dL_isWell_503 : decode cL_isWell 503 = .ok (.istore 10, 2) := by decide +kernel
theorem dL_isWell_505 : decode cL_isWell 505 = .ok (.iload 10, 2) := by decide +kernel
theorem dL_isWell_507 : decode cL_isWell 507 = .ok (.aload_n 0, 1) := by decide +kernel
theorem dL_isWell_508 : decode cL_isWell 508 = .ok (.iconst 2, 1) := by decide +kernel
theorem dL_isWell_509 : decode cL_isWell 509 = .ok (.invokevirtual 9, 3) := by decide +kernel
theorem dL_isWell_512 : decode cL_isWell 512 = .ok (.if_icmp .ge 250, 3) := by decide +kernel
theorem dL_isWell_515 : decode cL_isWell 515 = .ok (.iload 7, 2) := by decide +kernel
theorem dL_isWell_517 : decode cL_isWell 517 = .ok (.ifCond .eq 245, 3) := by decide +kernel
theorem dL_isWell_520 : decode cL_isWell 520 = .ok (.aload_n 0, 1) := by decide +kernel
theorem dL_isWell_521 : decode cL_isWell 521 = .ok (.iload 10, 2) := by decide +kernel
theorem dL_isWell_523 : decode cL_isWell 523 = .ok (.iconst 0, 1) := by decide +kernel
theorem dL_isWell_524 : decode cL_isWell 524 = .ok (.invokevirtual 38, 3) := by decide +kernel
theorem dL_isWell_527 : decode cL_isWell 527 = .ok (.istore 11, 2) := by decide +kernel
theorem dL_isWell_529 : decode cL_isWell 529 = .ok (.aload_n 0, 1) := by decide +kernel
theorem dL_isWell_530 : decode cL_isWell 530 = .ok (.iload 10, 2) := by decide +kernel
theorem dL_isWell_532 : decode cL_isWell 532 = .ok (.iconst 3, 1) := by decide +kernel
theorem dL_isWell_533 : decode cL_isWell 533 = .ok (.invokevirtual 38, 3) := by decide +kernel
theorem dL_isWell_536 : decode cL_isWell 536 = .ok (.istore 12, 2) := by decide +kernel
theorem dL_isWell_538 : decode cL_isWell 538 = .ok (.iconst 0, 1) := by decide +kernel
theorem dL_isWell_539 : decode cL_isWell 539 = .ok (.istore 13, 2) := by decide +kernel
theorem dL_isWell_541 : decode cL_isWell 541 = .ok (.iconst 0, 1) := by decide +kernel
theorem dL_isWell_542 : decode cL_isWell 542 = .ok (.istore 14, 2) := by decide +kernel
theorem dL_isWell_544 : decode cL_isWell 544 = .ok (.iload 14, 2) := by decide +kernel
theorem dL_isWell_546 : decode cL_isWell 546 = .ok (.iload_n 1, 1) := by decide +kernel
theorem dL_isWell_547 : decode cL_isWell 547 = .ok (.if_icmp .ge 71, 3) := by decide +kernel
theorem dL_isWell_550 : decode cL_isWell 550 = .ok (.iload 13, 2) := by decide +kernel
theorem dL_isWell_552 : decode cL_isWell 552 = .ok (.iload 12, 2) := by decide +kernel
theorem dL_isWell_554 : decode cL_isWell 554 = .ok (.iload 14, 2) := by decide +kernel
theorem dL_isWell_556 : decode cL_isWell 556 = .ok (.ishr, 1) := by decide +kernel
theorem dL_isWell_557 : decode cL_isWell 557 = .ok (.iconst 1, 1) := by decide +kernel
theorem dL_isWell_558 : decode cL_isWell 558 = .ok (.iand, 1) := by decide +kernel
theorem dL_isWell_559 : decode cL_isWell 559 = .ok (.iconst 1, 1) := by decide +kernel
theorem dL_isWell_560 : decode cL_isWell 560 = .ok (.if_icmp .ne 13, 3) := by decide +kernel
theorem dL_isWell_563 : decode cL_isWell 563 = .ok (.aload_n 0, 1) := by decide +kernel
theorem dL_isWell_564 : decode cL_isWell 564 = .ok (.iload 14, 2) := by decide +kernel
theorem dL_isWell_566 : decode cL_isWell 566 = .ok (.iconst 1, 1) := by decide +kernel
theorem dL_isWell_567 : decode cL_isWell 567 = .ok (.invokevirtual 28, 3) := by decide +kernel
theorem dL_isWell_570 : decode cL_isWell 570 = .ok (.goto 4, 3) := by decide +kernel
theorem dL_isWell_573 : decode cL_isWell 573 = .ok (.iconst 0, 1) := by decide +kernel
theorem dL_isWell_574 : decode cL_isWell 574 = .ok (.iadd, 1) := by decide +kernel
theorem dL_isWell_575 : decode cL_isWell 575 = .ok (.istore 13, 2) := by decide +kernel
theorem dL_isWell_577 : decode cL_isWell 577 = .ok (.iload 7, 2) := by decide +kernel
theorem dL_isWell_579 : decode cL_isWell 579 = .ok (.ifCond .eq 30, 3) := by decide +kernel
theorem dL_isWell_582 : decode cL_isWell 582 = .ok (.iload 12, 2) := by decide +kernel
theorem dL_isWell_584 : decode cL_isWell 584 = .ok (.iload 14, 2) := by decide +kernel
theorem dL_isWell_586 : decode cL_isWell 586 = .ok (.ishr, 1) := by decide +kernel
theorem dL_isWell_587 : decode cL_isWell 587 = .ok (.iconst 1, 1) := by decide +kernel
theorem dL_isWell_588 : decode cL_isWell 588 = .ok (.iand, 1) := by decide +kernel
theorem dL_isWell_589 : decode cL_isWell 589 = .ok (.aload_n 0, 1) := by decide +kernel
theorem dL_isWell_590 : decode cL_isWell 590 = .ok (.iload 14, 2) := by decide +kernel
theorem dL_isWell_592 : decode cL_isWell 592 = .ok (.bipush 10, 2) := by decide +kernel
theorem dL_isWell_594 : decode cL_isWell 594 = .ok (.invokevirtual 28, 3) := by decide +kernel
theorem dL_isWell_597 : decode cL_isWell 597 = .ok (.iload 10, 2) := by decide +kernel
theorem dL_isWell_599 : decode cL_isWell 599 = .ok (.ishr, 1) := by decide +kernel
theorem dL_isWell_600 : decode cL_isWell 600 = .ok (.iconst 1, 1) := by decide +kernel
theorem dL_isWell_601 : decode cL_isWell 601 = .ok (.iand, 1) := by decide +kernel
theorem dL_isWell_602 : decode cL_isWell 602 = .ok (.if_icmp .ne 7, 3) := by decide +kernel
theorem dL_isWell_605 : decode cL_isWell 605 = .ok (.iconst 1, 1) := by decide +kernel
theorem dL_isWell_606 : decode cL_isWell 606 = .ok (.goto 4, 3) := by decide +kernel
theorem dL_isWell_609 : decode cL_isWell 609 = .ok (.iconst 0, 1) := by decide +kernel
theorem dL_isWell_610 : decode cL_isWell 610 = .ok (.istore 7, 2) := by decide +kernel
theorem dL_isWell_612 : decode cL_isWell 612 = .ok (.iinc 14 1, 3) := by decide +kernel
theorem dL_isWell_615 : decode cL_isWell 615 = .ok (.goto (-71), 3) := by decide +kernel
theorem dL_isWell_618 : decode cL_isWell 618 = .ok (.iload 7, 2) := by decide +kernel
theorem dL_isWell_620 : decode cL_isWell 620 = .ok (.ifCond .eq 117, 3) := by decide +kernel
theorem dL_isWell_623 : decode cL_isWell 623 = .ok (.iload 11, 2) := by decide +kernel
theorem dL_isWell_625 : decode cL_isWell 625 = .ok (.iload 8, 2) := by decide +kernel
theorem dL_isWell_627 : decode cL_isWell 627 = .ok (.if_icmp .le 110, 3) := by decide +kernel
theorem dL_isWell_630 : decode cL_isWell 630 = .ok (.iload 11, 2) := by decide +kernel
theorem dL_isWell_632 : decode cL_isWell 632 = .ok (.sipush 600, 3) := by decide +kernel
theorem dL_isWell_635 : decode cL_isWell 635 = .ok (.if_icmp .ge 102, 3) := by decide +kernel
theorem dL_isWell_638 : decode cL_isWell 638 = .ok (.aload_n 0, 1) := by decide +kernel
theorem dL_isWell_639 : decode cL_isWell 639 = .ok (.iload 10, 2) := by decide +kernel
theorem dL_isWell_641 : decode cL_isWell 641 = .ok (.iconst 1, 1) := by decide +kernel
theorem dL_isWell_642 : decode cL_isWell 642 = .ok (.invokevirtual 38, 3) := by decide +kernel
theorem dL_isWell_645 : decode cL_isWell 645 = .ok (.iconst 1, 1) := by decide +kernel
theorem dL_isWell_646 : decode cL_isWell 646 = .ok (.if_icmp .ne 7, 3) := by decide +kernel
theorem dL_isWell_649 : decode cL_isWell 649 = .ok (.iconst 1, 1) := by decide +kernel
theorem dL_isWell_650 : decode cL_isWell 650 = .ok (.goto 4, 3) := by decide +kernel
theorem dL_isWell_653 : decode cL_isWell 653 = .ok (.iconst 0, 1) := by decide +kernel
theorem dL_isWell_654 : decode cL_isWell 654 = .ok (.iload 11, 2) := by decide +kernel
theorem dL_isWell_656 : decode cL_isWell 656 = .ok (.aload_n 0, 1) := by decide +kernel
theorem dL_isWell_657 : decode cL_isWell 657 = .ok (.iconst 0, 1) := by decide +kernel
theorem dL_isWell_658 : decode cL_isWell 658 = .ok (.invokevirtual 9, 3) := by decide +kernel
theorem dL_isWell_661 : decode cL_isWell 661 = .ok (.if_icmp .ge 7, 3) := by decide +kernel
theorem dL_isWell_664 : decode cL_isWell 664 = .ok (.iconst 1, 1) := by decide +kernel
theorem dL_isWell_665 : decode cL_isWell 665 = .ok (.goto 4, 3) := by decide +kernel
theorem dL_isWell_668 : decode cL_isWell 668 = .ok (.iconst 0, 1) := by decide +kernel
theorem dL_isWell_669 : decode cL_isWell 669 = .ok (.if_icmp .ne 68, 3) := by decide +kernel
theorem dL_isWell_672 : decode cL_isWell 672 = .ok (.aload_n 0, 1) := by decide +kernel
theorem dL_isWell_673 : decode cL_isWell 673 = .ok (.iload 10, 2) := by decide +kernel
theorem dL_isWell_675 : decode cL_isWell 675 = .ok (.iconst 1, 1) := by decide +kernel
theorem dL_isWell_676 : decode cL_isWell 676 = .ok (.invokevirtual 38, 3) := by decide +kernel
theorem dL_isWell_679 : decode cL_isWell 679 = .ok (.iconst 1, 1) := by decide +kernel
theorem dL_isWell_680 : decode cL_isWell 680 = .ok (.if_icmp .ne 7, 3) := by decide +kernel
theorem dL_isWell_683 : decode cL_isWell 683 = .ok (.iconst 1, 1) := by decide +kernel
theorem dL_isWell_684 : decode cL_isWell 684 = .ok (.goto 4, 3) := by decide +kernel
theorem dL_isWell_687 : decode cL_isWell 687 = .ok (.iconst 0, 1) := by decide +kernel
theorem dL_isWell_688 : decode cL_isWell 688 = .ok (.iload 10, 2) := by decide +kernel
theorem dL_isWell_690 : decode cL_isWell 690 = .ok (.aload_n 0, 1) := by decide +kernel
theorem dL_isWell_691 : decode cL_isWell 691 = .ok (.iconst 3, 1) := by decide +kernel
theorem dL_isWell_692 : decode cL_isWell 692 = .ok (.invokevirtual 9, 3) := by decide +kernel
theorem dL_isWell_695 : decode cL_isWell 695 = .ok (.if_icmp .ge 7, 3) := by decide +kernel
theorem dL_isWell_698 : decode cL_isWell 698 = .ok (.iconst 1, 1) := by decide +kernel
theorem dL_isWell_699 : decode cL_isWell 699 = .ok (.goto 4, 3) := by decide +kernel
theorem dL_isWell_702 : decode cL_isWell 702 = .ok (.iconst 0, 1) := by decide +kernel
theorem dL_isWell_703 : decode cL_isWell 703 = .ok (.if_icmp .ne 34, 3) := by decide +kernel
theorem dL_isWell_706 : decode cL_isWell 706 = .ok (.iload 13, 2) := by decide +kernel
theorem dL_isWell_708 : decode cL_isWell 708 = .ok (.aload_n 0, 1) := by decide +kernel
theorem dL_isWell_709 : decode cL_isWell 709 = .ok (.iload 10, 2) := by decide +kernel
theorem dL_isWell_711 : decode cL_isWell 711 = .ok (.iconst 4, 1) := by decide +kernel
theorem dL_isWell_712 : decode cL_isWell 712 = .ok (.invokevirtual 38, 3) := by decide +kernel
theorem dL_isWell_715 : decode cL_isWell 715 = .ok (.if_icmp .ne 22, 3) := by decide +kernel
theorem dL_isWell_718 : decode cL_isWell 718 = .ok (.iload 10, 2) := by decide +kernel
theorem dL_isWell_720 : decode cL_isWell 720 = .ok (.aload_n 0, 1) := by decide +kernel
theorem dL_isWell_721 : decode cL_isWell 721 = .ok (.iconst 3, 1) := by decide +kernel
theorem dL_isWell_722 : decode cL_isWell 722 = .ok (.invokevirtual 9, 3) := by decide +kernel
theorem dL_isWell_725 : decode cL_isWell 725 = .ok (.if_icmp .lt 8, 3) := by decide +kernel
theorem dL_isWell_728 : decode cL_isWell 728 = .ok (.iload 12, 2) := by decide +kernel
theorem dL_isWell_730 : decode cL_isWell 730 = .ok (.ifCond .ne 7, 3) := by decide +kernel
theorem dL_isWell_733 : decode cL_isWell 733 = .ok (.iconst 1, 1) := by decide +kernel
theorem dL_isWell_734 : decode cL_isWell 734 = .ok (.goto 4, 3) := by decide +kernel
theorem dL_isWell_737 : decode cL_isWell 737 = .ok (.iconst 0, 1) := by decide +kernel
theorem dL_isWell_738 : decode cL_isWell 738 = .ok (.istore 7, 2) := by decide +kernel
theorem dL_isWell_740 : decode cL_isWell 740 = .ok (.iload 9, 2) := by decide +kernel
theorem dL_isWell_742 : decode cL_isWell 742 = .ok (.aload_n 0, 1) := by decide +kernel
theorem dL_isWell_743 : decode cL_isWell 743 = .ok (.iload 10, 2) := by decide +kernel
theorem dL_isWell_745 : decode cL_isWell 745 = .ok (.iconst 2, 1) := by decide +kernel
theorem dL_isWell_746 : decode cL_isWell 746 = .ok (.invokevirtual 38, 3) := by decide +kernel
theorem dL_isWell_749 : decode cL_isWell 749 = .ok (.iadd, 1) := by decide +kernel
theorem dL_isWell_750 : decode cL_isWell 750 = .ok (.istore 9, 2) := by decide +kernel
theorem dL_isWell_752 : decode cL_isWell 752 = .ok (.iload 11, 2) := by decide +kernel
theorem dL_isWell_754 : decode cL_isWell 754 = .ok (.istore 8, 2) := by decide +kernel
theorem dL_isWell_756 : decode cL_isWell 756 = .ok (.iinc 10 1, 3) := by decide +kernel
theorem dL_isWell_759 : decode cL_isWell 759 = .ok (.goto (-254), 3) := by decide +kernel
theorem dL_isWell_762 : decode cL_isWell 762 = .ok (.aload_n 0, 1) := by decide +kernel
theorem dL_isWell_763 : decode cL_isWell 763 = .ok (.invokevirtual 50, 3) := by decide +kernel
theorem dL_isWell_766 : decode cL_isWell 766 = .ok (.istore 10, 2) := by decide +kernel
theorem dL_isWell_768 : decode cL_isWell 768 = .ok (.iconst 0, 1) := by decide +kernel
theorem dL_isWell_769 : decode cL_isWell 769 = .ok (.istore 11, 2) := by decide +kernel
theorem dL_isWell_771 : decode cL_isWell 771 = .ok (.iconst 0, 1) := by decide +kernel
theorem dL_isWell_772 : decode cL_isWell 772 = .ok (.istore 12, 2) := by decide +kernel
theorem dL_isWell_774 : decode cL_isWell 774 = .ok (.iload 12, 2) := by decide +kernel
theorem dL_isWell_776 : decode cL_isWell 776 = .ok (.iload_n 1, 1) := by decide +kernel
theorem dL_isWell_777 : decode cL_isWell 777 = .ok (.if_icmp .ge 36, 3) := by decide +kernel
theorem dL_isWell_780 : decode cL_isWell 780 = .ok (.iload 11, 2) := by decide +kernel
theorem dL_isWell_782 : decode cL_isWell 782 = .ok (.iload 10, 2) := by decide +kernel
theorem dL_isWell_784 : decode cL_isWell 784 = .ok (.iload 12, 2) := by decide +kernel
theorem dL_isWell_786 : decode cL_isWell 786 = .ok (.ishr, 1) := by decide +kernel
theorem dL_isWell_787 : decode cL_isWell 787 = .ok (.iconst 1, 1) := by decide +kernel
theorem dL_isWell_788 : decode cL_isWell 788 = .ok (.iand, 1) := by decide +kernel
theorem dL_isWell_789 : decode cL_isWell 789 = .ok (.iconst 1, 1) := by decide +kernel
theorem dL_isWell_790 : decode cL_isWell 790 = .ok (.if_icmp .ne 13, 3) := by decide +kernel
theorem dL_isWell_793 : decode cL_isWell 793 = .ok (.aload_n 0, 1) := by decide +kernel
theorem dL_isWell_794 : decode cL_isWell 794 = .ok (.iload 12, 2) := by decide +kernel
theorem dL_isWell_796 : decode cL_isWell 796 = .ok (.iconst 1, 1) := by decide +kernel
theorem dL_isWell_797 : decode cL_isWell 797 = .ok (.invokevirtual 28, 3) := by decide +kernel
theorem dL_isWell_800 : decode cL_isWell 800 = .ok (.goto 4, 3) := by decide +kernel
theorem dL_isWell_803 : decode cL_isWell 803 = .ok (.iconst 0, 1) := by decide +kernel
theorem dL_isWell_804 : decode cL_isWell 804 = .ok (.iadd, 1) := by decide +kernel
theorem dL_isWell_805 : decode cL_isWell 805 = .ok (.istore 11, 2) := by decide +kernel
theorem dL_isWell_807 : decode cL_isWell 807 = .ok (.iinc 12 1, 3) := by decide +kernel
theorem dL_isWell_810 : decode cL_isWell 810 = .ok (.goto (-36), 3) := by decide +kernel
theorem dL_isWell_813 : decode cL_isWell 813 = .ok (.iload 7, 2) := by decide +kernel
theorem dL_isWell_815 : decode cL_isWell 815 = .ok (.ifCond .eq 61, 3) := by decide +kernel
theorem dL_isWell_818 : decode cL_isWell 818 = .ok (.iload 4, 2) := by decide +kernel
theorem dL_isWell_820 : decode cL_isWell 820 = .ok (.aload_n 0, 1) := by decide +kernel
theorem dL_isWell_821 : decode cL_isWell 821 = .ok (.bipush 8, 2) := by decide +kernel
theorem dL_isWell_823 : decode cL_isWell 823 = .ok (.invokevirtual 9, 3) := by decide +kernel
theorem dL_isWell_826 : decode cL_isWell 826 = .ok (.if_icmp .ne 50, 3) := by decide +kernel
theorem dL_isWell_829 : decode cL_isWell 829 = .ok (.iload 5, 2) := by decide +kernel
theorem dL_isWell_831 : decode cL_isWell 831 = .ok (.aload_n 0, 1) := by decide +kernel
theorem dL_isWell_832 : decode cL_isWell 832 = .ok (.bipush 7, 2) := by decide +kernel
theorem dL_isWell_834 : decode cL_isWell 834 = .ok (.invokevirtual 9, 3) := by decide +kernel
theorem dL_isWell_837 : decode cL_isWell 837 = .ok (.if_icmp .ne 39, 3) := by decide +kernel
theorem dL_isWell_840 : decode cL_isWell 840 = .ok (.iload 9, 2) := by decide +kernel
theorem dL_isWell_842 : decode cL_isWell 842 = .ok (.aload_n 0, 1) := by decide +kernel
theorem dL_isWell_843 : decode cL_isWell 843 = .ok (.bipush 9, 2) := by decide +kernel
theorem dL_isWell_845 : decode cL_isWell 845 = .ok (.invokevirtual 9, 3) := by decide +kernel
theorem dL_isWell_848 : decode cL_isWell 848 = .ok (.if_icmp .ne 28, 3) := by decide +kernel
theorem dL_isWell_851 : decode cL_isWell 851 = .ok (.iload 10, 2) := by decide +kernel
theorem dL_isWell_853 : decode cL_isWell 853 = .ok (.iload 6, 2) := by decide +kernel
theorem dL_isWell_855 : decode cL_isWell 855 = .ok (.iconst (-1), 1) := by decide +kernel
theorem dL_isWell_856 : decode cL_isWell 856 = .ok (.ixor, 1) := by decide +kernel
theorem dL_isWell_857 : decode cL_isWell 857 = .ok (.iand, 1) := by decide +kernel
theorem dL_isWell_858 : decode cL_isWell 858 = .ok (.ifCond .ne 18, 3) := by decide +kernel
theorem dL_isWell_861 : decode cL_isWell 861 = .ok (.iload 11, 2) := by decide +kernel
theorem dL_isWell_863 : decode cL_isWell 863 = .ok (.aload_n 0, 1) := by decide +kernel
theorem dL_isWell_864 : decode cL_isWell 864 = .ok (.bipush 12, 2) := by decide +kernel
theorem dL_isWell_866 : decode cL_isWell 866 = .ok (.invokevirtual 9, 3) := by decide +kernel
theorem dL_isWell_869 : decode cL_isWell 869 = .ok (.if_icmp .gt 7, 3) := by decide +kernel
theorem dL_isWell_872 : decode cL_isWell 872 = .ok (.iconst 1, 1) := by decide +kernel
theorem dL_isWell_873 : decode cL_isWell 873 = .ok (.goto 4, 3) := by decide +kernel
theorem dL_isWell_876 : decode cL_isWell 876 = .ok (.iconst 0, 1) := by decide +kernel
theorem dL_isWell_877 : decode cL_isWell 877 = .ok (.ireturn, 1) := by decide +kernel
theorem dL_law_0 : decode cL_law 0 = .ok (.new 10, 3) := by decide +kernel
theorem dL_law_3 : decode cL_law 3 = .ok (.dup, 1) := by decide +kernel
theorem dL_law_4 : decode cL_law 4 = .ok (.invokespecial 62, 3) := by decide +kernel
theorem dL_law_7 : decode cL_law 7 = .ok (.astore_n 1, 1) := by decide +kernel
theorem dL_law_8 : decode cL_law 8 = .ok (.new 10, 3) := by decide +kernel
theorem dL_law_11 : decode cL_law 11 = .ok (.dup, 1) := by decide +kernel
theorem dL_law_12 : decode cL_law 12 = .ok (.invokespecial 62, 3) := by decide +kernel
theorem dL_law_15 : decode cL_law 15 = .ok (.astore_n 2, 1) := by decide +kernel
theorem dL_law_16 : decode cL_law 16 = .ok (.iconst 1, 1) := by decide +kernel
theorem dL_law_17 : decode cL_law 17 = .ok (.istore_n 3, 1) := by decide +kernel
theorem dL_law_18 : decode cL_law 18 = .ok (.iconst 0, 1) := by decide +kernel
theorem dL_law_19 : decode cL_law 19 = .ok (.istore 4, 2) := by decide +kernel
theorem dL_law_21 : decode cL_law 21 = .ok (.iload 4, 2) := by decide +kernel
theorem dL_law_23 : decode cL_law 23 = .ok (.bipush 56, 2) := by decide +kernel
theorem dL_law_25 : decode cL_law 25 = .ok (.if_icmp .ge 48, 3) := by decide +kernel
theorem dL_law_28 : decode cL_law 28 = .ok (.iload_n 3, 1) := by decide +kernel
theorem dL_law_29 : decode cL_law 29 = .ok (.ifCond .eq 44, 3) := by decide +kernel
theorem dL_law_32 : decode cL_law 32 = .ok (.aload_n 1, 1) := by decide +kernel
theorem dL_law_33 : decode cL_law 33 = .ok (.aload_n 2, 1) := by decide +kernel
theorem dL_law_34 : decode cL_law 34 = .ok (.aload_n 0, 1) := by decide +kernel
theorem dL_law_35 : decode cL_law 35 = .ok (.iload 4, 2) := by decide +kernel
theorem dL_law_37 : decode cL_law 37 = .ok (.invokestatic 63, 3) := by decide +kernel
theorem dL_law_40 : decode cL_law 40 = .ok (.invokestatic 67, 3) := by decide +kernel
theorem dL_law_43 : decode cL_law 43 = .ok (.ifCond .eq 22, 3) := by decide +kernel
theorem dL_law_46 : decode cL_law 46 = .ok (.iload 4, 2) := by decide +kernel
theorem dL_law_48 : decode cL_law 48 = .ok (.bipush 6, 2) := by decide +kernel
theorem dL_law_50 : decode cL_law 50 = .ok (.irem, 1) := by decide +kernel
theorem dL_law_51 : decode cL_law 51 = .ok (.ifCond .gt 10, 3) := by decide +kernel
theorem dL_law_54 : decode cL_law 54 = .ok (.aload_n 1, 1) := by decide +kernel
theorem dL_law_55 : decode cL_law 55 = .ok (.invokestatic 71, 3) := by decide +kernel
theorem dL_law_58 : decode cL_law 58 = .ok (.ifCond .eq 7, 3) := by decide +kernel
theorem dL_law_61 : decode cL_law 61 = .ok (.iconst 1, 1) := by decide +kernel
theorem dL_law_62 : decode cL_law 62 = .ok (.goto 4, 3) := by decide +kernel
theorem dL_law_65 : decode cL_law 65 = .ok (.iconst 0, 1) := by decide +kernel
theorem dL_law_66 : decode cL_law 66 = .ok (.istore_n 3, 1) := by decide +kernel
theorem dL_law_67 : decode cL_law 67 = .ok (.iinc 4 1, 3) := by decide +kernel
theorem dL_law_70 : decode cL_law 70 = .ok (.goto (-49), 3) := by decide +kernel
theorem dL_law_73 : decode cL_law 73 = .ok (.iload_n 3, 1) := by decide +kernel
theorem dL_law_74 : decode cL_law 74 = .ok (.ifCond .eq 22, 3) := by decide +kernel
theorem dL_law_77 : decode cL_law 77 = .ok (.aload_n 1, 1) := by decide +kernel
theorem dL_law_78 : decode cL_law 78 = .ok (.invokestatic 71, 3) := by decide +kernel
theorem dL_law_81 : decode cL_law 81 = .ok (.ifCond .eq 15, 3) := by decide +kernel
theorem dL_law_84 : decode cL_law 84 = .ok (.aload_n 1, 1) := by decide +kernel
theorem dL_law_85 : decode cL_law 85 = .ok (.aload_n 2, 1) := by decide +kernel
theorem dL_law_86 : decode cL_law 86 = .ok (.invokestatic 75, 3) := by decide +kernel
theorem dL_law_89 : decode cL_law 89 = .ok (.ifCond .eq 7, 3) := by decide +kernel
theorem dL_law_92 : decode cL_law 92 = .ok (.iconst 1, 1) := by decide +kernel
theorem dL_law_93 : decode cL_law 93 = .ok (.goto 4, 3) := by decide +kernel
theorem dL_law_96 : decode cL_law 96 = .ok (.iconst 0, 1) := by decide +kernel
theorem dL_law_97 : decode cL_law 97 = .ok (.ireturn, 1) := by decide +kernel
