theorem dX5_one_68 : decode cX5_one 68 = .ok (.iload_n 3, 1) := by decide +kernel
theorem dX5_one_69 : decode cX5_one 69 = .ok (.iconst (-1), 1) := by decide +kernel
theorem dX5_one_70 : decode cX5_one 70 = .ok (.ixor, 1) := by decide +kernel
theorem dX5_one_71 : decode cX5_one 71 = .ok (.iload 7, 2) := by decide +kernel
theorem dX5_one_73 : decode cX5_one 73 = .ok (.iand, 1) := by decide +kernel
theorem dX5_one_74 : decode cX5_one 74 = .ok (.istore 8, 2) := by decide +kernel
theorem dX5_one_76 : decode cX5_one 76 = .ok (.aload_n 0, 1) := by decide +kernel
theorem dX5_one_77 : decode cX5_one 77 = .ok (.iload 8, 2) := by decide +kernel
theorem dX5_one_79 : decode cX5_one 79 = .ok (.iconst 0, 1) := by decide +kernel
theorem dX5_one_80 : decode cX5_one 80 = .ok (.iconst 1, 1) := by decide +kernel
theorem dX5_one_81 : decode cX5_one 81 = .ok (.invokevirtual 112, 3) := by decide +kernel
theorem dX5_one_84 : decode cX5_one 84 = .ok (.goto 400, 3) := by decide +kernel
theorem dX5_one_87 : decode cX5_one 87 = .ok (.iload_n 1, 1) := by decide +kernel
theorem dX5_one_88 : decode cX5_one 88 = .ok (.bipush 34, 2) := by decide +kernel
theorem dX5_one_90 : decode cX5_one 90 = .ok (.if_icmp .ne 33, 3) := by decide +kernel
theorem dX5_one_93 : decode cX5_one 93 = .ok (.iload_n 3, 1) := by decide +kernel
theorem dX5_one_94 : decode cX5_one 94 = .ok (.iconst 1, 1) := by decide +kernel
theorem dX5_one_95 : decode cX5_one 95 = .ok (.iadd, 1) := by decide +kernel
theorem dX5_one_96 : decode cX5_one 96 = .ok (.iload 7, 2) := by decide +kernel
theorem dX5_one_98 : decode cX5_one 98 = .ok (.iand, 1) := by decide +kernel
theorem dX5_one_99 : decode cX5_one 99 = .ok (.istore 8, 2) := by decide +kernel
theorem dX5_one_101 : decode cX5_one 101 = .ok (.aload_n 0, 1) := by decide +kernel
theorem dX5_one_102 : decode cX5_one 102 = .ok (.iload 8, 2) := by decide +kernel
theorem dX5_one_104 : decode cX5_one 104 = .ok (.iload_n 3, 1) := by decide +kernel
theorem dX5_one_105 : decode cX5_one 105 = .ok (.iload 6, 2) := by decide +kernel
theorem dX5_one_107 : decode cX5_one 107 = .ok (.if_icmp .ne 7, 3) := by decide +kernel
theorem dX5_one_110 : decode cX5_one 110 = .ok (.iconst 1, 1) := by decide +kernel
theorem dX5_one_111 : decode cX5_one 111 = .ok (.goto 4, 3) := by decide +kernel
theorem dX5_one_114 : decode cX5_one 114 = .ok (.iconst 0, 1) := by decide +kernel
theorem dX5_one_115 : decode cX5_one 115 = .ok (.iload 4, 2) := by decide +kernel
theorem dX5_one_117 : decode cX5_one 117 = .ok (.invokevirtual 112, 3) := by decide +kernel
theorem dX5_one_120 : decode cX5_one 120 = .ok (.goto 364, 3) := by decide +kernel
theorem dX5_one_123 : decode cX5_one 123 = .ok (.iload_n 1, 1) := by decide +kernel
theorem dX5_one_124 : decode cX5_one 124 = .ok (.bipush 35, 2) := by decide +kernel
theorem dX5_one_126 : decode cX5_one 126 = .ok (.if_icmp .ne 33, 3) := by decide +kernel
theorem dX5_one_129 : decode cX5_one 129 = .ok (.iload_n 3, 1) := by decide +kernel
theorem dX5_one_130 : decode cX5_one 130 = .ok (.iconst 1, 1) := by decide +kernel
theorem dX5_one_131 : decode cX5_one 131 = .ok (.isub, 1) := by decide +kernel
theorem dX5_one_132 : decode cX5_one 132 = .ok (.iload 7, 2) := by decide +kernel
theorem dX5_one_134 : decode cX5_one 134 = .ok (.iand, 1) := by decide +kernel
theorem dX5_one_135 : decode cX5_one 135 = .ok (.istore 8, 2) := by decide +kernel
theorem dX5_one_137 : decode cX5_one 137 = .ok (.aload_n 0, 1) := by decide +kernel
theorem dX5_one_138 : decode cX5_one 138 = .ok (.iload 8, 2) := by decide +kernel
theorem dX5_one_140 : decode cX5_one 140 = .ok (.iload_n 3, 1) := by decide +kernel
theorem dX5_one_141 : decode cX5_one 141 = .ok (.iload 5, 2) := by decide +kernel
theorem dX5_one_143 : decode cX5_one 143 = .ok (.if_icmp .ne 7, 3) := by decide +kernel
theorem dX5_one_146 : decode cX5_one 146 = .ok (.iconst 1, 1) := by decide +kernel
theorem dX5_one_147 : decode cX5_one 147 = .ok (.goto 4, 3) := by decide +kernel
theorem dX5_one_150 : decode cX5_one 150 = .ok (.iconst 0, 1) := by decide +kernel
theorem dX5_one_151 : decode cX5_one 151 = .ok (.iload 4, 2) := by decide +kernel
theorem dX5_one_153 : decode cX5_one 153 = .ok (.invokevirtual 112, 3) := by decide +kernel
theorem dX5_one_156 : decode cX5_one 156 = .ok (.goto 328, 3) := by decide +kernel
theorem dX5_one_159 : decode cX5_one 159 = .ok (.iload_n 1, 1) := by decide +kernel
theorem dX5_one_160 : decode cX5_one 160 = .ok (.bipush 36, 2) := by decide +kernel
theorem dX5_one_162 : decode cX5_one 162 = .ok (.if_icmp .ne 41, 3) := by decide +kernel
theorem dX5_one_165 : decode cX5_one 165 = .ok (.iload_n 3, 1) := by decide +kernel
theorem dX5_one_166 : decode cX5_one 166 = .ok (.ineg, 1) := by decide +kernel
theorem dX5_one_167 : decode cX5_one 167 = .ok (.iload 7, 2) := by decide +kernel
theorem dX5_one_169 : decode cX5_one 169 = .ok (.iand, 1) := by decide +kernel
theorem dX5_one_170 : decode cX5_one 170 = .ok (.istore 8, 2) := by decide +kernel
theorem dX5_one_172 : decode cX5_one 172 = .ok (.aload_n 0, 1) := by decide +kernel
theorem dX5_one_173 : decode cX5_one 173 = .ok (.iload 8, 2) := by decide +kernel
theorem dX5_one_175 : decode cX5_one 175 = .ok (.iload 8, 2) := by decide +kernel
theorem dX5_one_177 : decode cX5_one 177 = .ok (.iload 5, 2) := by decide +kernel
theorem dX5_one_179 : decode cX5_one 179 = .ok (.if_icmp .ne 7, 3) := by decide +kernel
theorem dX5_one_182 : decode cX5_one 182 = .ok (.iconst 1, 1) := by decide +kernel
theorem dX5_one_183 : decode cX5_one 183 = .ok (.goto 4, 3) := by decide +kernel
theorem dX5_one_186 : decode cX5_one 186 = .ok (.iconst 0, 1) := by decide +kernel
theorem dX5_one_187 : decode cX5_one 187 = .ok (.iload 8, 2) := by decide +kernel
theorem dX5_one_189 : decode cX5_one 189 = .ok (.ifCond .eq 7, 3) := by decide +kernel
theorem dX5_one_192 : decode cX5_one 192 = .ok (.iconst 1, 1) := by decide +kernel
theorem dX5_one_193 : decode cX5_one 193 = .ok (.goto 4, 3) := by decide +kernel
theorem dX5_one_196 : decode cX5_one 196 = .ok (.iconst 0, 1) := by decide +kernel
theorem dX5_one_197 : decode cX5_one 197 = .ok (.invokevirtual 112, 3) := by decide +kernel
theorem dX5_one_200 : decode cX5_one 200 = .ok (.goto 284, 3) := by decide +kernel
theorem dX5_one_203 : decode cX5_one 203 = .ok (.iload_n 1, 1) := by decide +kernel
theorem dX5_one_204 : decode cX5_one 204 = .ok (.bipush 37, 2) := by decide +kernel
theorem dX5_one_206 : decode cX5_one 206 = .ok (.if_icmp .ne 61, 3) := by decide +kernel
theorem dX5_one_209 : decode cX5_one 209 = .ok (.iload_n 3, 1) := by decide +kernel
theorem dX5_one_210 : decode cX5_one 210 = .ok (.iload 4, 2) := by decide +kernel
theorem dX5_one_212 : decode cX5_one 212 = .ok (.ifCond .eq 7, 3) := by decide +kernel
theorem dX5_one_215 : decode cX5_one 215 = .ok (.iconst 1, 1) := by decide +kernel
theorem dX5_one_216 : decode cX5_one 216 = .ok (.goto 4, 3) := by decide +kernel
theorem dX5_one_219 : decode cX5_one 219 = .ok (.iconst 0, 1) := by decide +kernel
theorem dX5_one_220 : decode cX5_one 220 = .ok (.iadd, 1) := by decide +kernel
theorem dX5_one_221 : decode cX5_one 221 = .ok (.iload 7, 2) := by decide +kernel
theorem dX5_one_223 : decode cX5_one 223 = .ok (.iand, 1) := by decide +kernel
theorem dX5_one_224 : decode cX5_one 224 = .ok (.istore 8, 2) := by decide +kernel
theorem dX5_one_226 : decode cX5_one 226 = .ok (.aload_n 0, 1) := by decide +kernel
theorem dX5_one_227 : decode cX5_one 227 = .ok (.iload 8, 2) := by decide +kernel
theorem dX5_one_229 : decode cX5_one 229 = .ok (.iload_n 3, 1) := by decide +kernel
theorem dX5_one_230 : decode cX5_one 230 = .ok (.iload 6, 2) := by decide +kernel
theorem dX5_one_232 : decode cX5_one 232 = .ok (.if_icmp .ne 12, 3) := by decide +kernel
theorem dX5_one_235 : decode cX5_one 235 = .ok (.iload 4, 2) := by decide +kernel
theorem dX5_one_237 : decode cX5_one 237 = .ok (.ifCond .eq 7, 3) := by decide +kernel
theorem dX5_one_240 : decode cX5_one 240 = .ok (.iconst 1, 1) := by decide +kernel
theorem dX5_one_241 : decode cX5_one 241 = .ok (.goto 4, 3) := by decide +kernel
theorem dX5_one_244 : decode cX5_one 244 = .ok (.iconst 0, 1) := by decide +kernel
theorem dX5_one_245 : decode cX5_one 245 = .ok (.iload_n 3, 1) := by decide +kernel
theorem dX5_one_246 : decode cX5_one 246 = .ok (.iload 7, 2) := by decide +kernel
theorem dX5_one_248 : decode cX5_one 248 = .ok (.if_icmp .ne 12, 3) := by decide +kernel
theorem dX5_one_251 : decode cX5_one 251 = .ok (.iload 4, 2) := by decide +kernel
theorem dX5_one_253 : decode cX5_one 253 = .ok (.ifCond .eq 7, 3) := by decide +kernel
theorem dX5_one_256 : decode cX5_one 256 = .ok (.iconst 1, 1) := by decide +kernel
theorem dX5_one_257 : decode cX5_one 257 = .ok (.goto 4, 3) := by decide +kernel
theorem dX5_one_260 : decode cX5_one 260 = .ok (.iconst 0, 1) := by decide +kernel
theorem dX5_one_261 : decode cX5_one 261 = .ok (.invokevirtual 112, 3) := by decide +kernel
theorem dX5_one_264 : decode cX5_one 264 = .ok (.goto 220, 3) := by decide +kernel
theorem dX5_one_267 : decode cX5_one 267 = .ok (.iload_n 1, 1) := by decide +kernel
theorem dX5_one_268 : decode cX5_one 268 = .ok (.bipush 38, 2) := by decide +kernel
theorem dX5_one_270 : decode cX5_one 270 = .ok (.if_icmp .ne 59, 3) := by decide +kernel
theorem dX5_one_273 : decode cX5_one 273 = .ok (.iload_n 3, 1) := by decide +kernel
theorem dX5_one_274 : decode cX5_one 274 = .ok (.iload 4, 2) := by decide +kernel
theorem dX5_one_276 : decode cX5_one 276 = .ok (.ifCond .eq 7, 3) := by decide +kernel
theorem dX5_one_279 : decode cX5_one 279 = .ok (.iconst 1, 1) := by decide +kernel
theorem dX5_one_280 : decode cX5_one 280 = .ok (.goto 4, 3) := by decide +kernel
theorem dX5_one_283 : decode cX5_one 283 = .ok (.iconst 0, 1) := by decide +kernel
theorem dX5_one_284 : decode cX5_one 284 = .ok (.isub, 1) := by decide +kernel
theorem dX5_one_285 : decode cX5_one 285 = .ok (.iload 7, 2) := by decide +kernel
theorem dX5_one_287 : decode cX5_one 287 = .ok (.iand, 1) := by decide +kernel
theorem dX5_one_288 : decode cX5_one 288 = .ok (.istore 8, 2) := by decide +kernel
theorem dX5_one_290 : decode cX5_one 290 = .ok (.aload_n 0, 1) := by decide +kernel
theorem dX5_one_291 : decode cX5_one 291 = .ok (.iload 8, 2) := by decide +kernel
theorem dX5_one_293 : decode cX5_one 293 = .ok (.iload_n 3, 1) := by decide +kernel
theorem dX5_one_294 : decode cX5_one 294 = .ok (.iload 5, 2) := by decide +kernel
theorem dX5_one_296 : decode cX5_one 296 = .ok (.if_icmp .ne 12, 3) := by decide +kernel
theorem dX5_one_299 : decode cX5_one 299 = .ok (.iload 4, 2) := by decide +kernel
theorem dX5_one_301 : decode cX5_one 301 = .ok (.ifCond .eq 7, 3) := by decide +kernel
theorem dX5_one_304 : decode cX5_one 304 = .ok (.iconst 1, 1) := by decide +kernel
theorem dX5_one_305 : decode cX5_one 305 = .ok (.goto 4, 3) := by decide +kernel
theorem dX5_one_308 : decode cX5_one 308 = .ok (.iconst 0, 1) := by decide +kernel
theorem dX5_one_309 : decode cX5_one 309 = .ok (.iload_n 3, 1) := by decide +kernel
theorem dX5_one_310 : decode cX5_one 310 = .ok (.ifCond .ne 12, 3) := by decide +kernel
theorem dX5_one_313 : decode cX5_one 313 = .ok (.iload 4, 2) := by decide +kernel
theorem dX5_one_315 : decode cX5_one 315 = .ok (.ifCond .eq 7, 3) := by decide +kernel
theorem dX5_one_318 : decode cX5_one 318 = .ok (.iconst 1, 1) := by decide +kernel
theorem dX5_one_319 : decode cX5_one 319 = .ok (.goto 4, 3) := by decide +kernel
theorem dX5_one_322 : decode cX5_one 322 = .ok (.iconst 0, 1) := by decide +kernel
theorem dX5_one_323 : decode cX5_one 323 = .ok (.invokevirtual 112, 3) := by decide +kernel
theorem dX5_one_326 : decode cX5_one 326 = .ok (.goto 158, 3) := by decide +kernel
theorem dX5_one_329 : decode cX5_one 329 = .ok (.iload_n 1, 1) := by decide +kernel
theorem dX5_one_330 : decode cX5_one 330 = .ok (.bipush 39, 2) := by decide +kernel
theorem dX5_one_332 : decode cX5_one 332 = .ok (.if_icmp .ne 11, 3) := by decide +kernel
theorem dX5_one_335 : decode cX5_one 335 = .ok (.aload_n 0, 1) := by decide +kernel
theorem dX5_one_336 : decode cX5_one 336 = .ok (.iload_n 3, 1) := by decide +kernel
theorem dX5_one_337 : decode cX5_one 337 = .ok (.iconst 0, 1) := by decide +kernel
theorem dX5_one_338 : decode cX5_one 338 = .ok (.iconst 0, 1) := by decide +kernel
theorem dX5_one_339 : decode cX5_one 339 = .ok (.invokevirtual 112, 3) := by decide +kernel
theorem dX5_one_342 : decode cX5_one 342 = .ok (.return_, 1) := by decide +kernel
theorem dX5_one_343 : decode cX5_one 343 = .ok (.iload_n 3, 1) := by decide +kernel
theorem dX5_one_344 : decode cX5_one 344 = .ok (.iconst 1, 1) := by decide +kernel
theorem dX5_one_345 : decode cX5_one 345 = .ok (.iand, 1) := by decide +kernel
theorem dX5_one_346 : decode cX5_one 346 = .ok (.iconst 1, 1) := by decide +kernel
theorem dX5_one_347 : decode cX5_one 347 = .ok (.if_icmp .ne 7, 3) := by decide +kernel
theorem dX5_one_350 : decode cX5_one 350 = .ok (.iconst 1, 1) := by decide +kernel
theorem dX5_one_351 : decode cX5_one 351 = .ok (.goto 4, 3) := by decide +kernel
theorem dX5_one_354 : decode cX5_one 354 = .ok (.iconst 0, 1) := by decide +kernel
theorem dX5_one_355 : decode cX5_one 355 = .ok (.istore 9, 2) := by decide +kernel
theorem dX5_one_357 : decode cX5_one 357 = .ok (.aload_n 0, 1) := by decide +kernel
theorem dX5_one_358 : decode cX5_one 358 = .ok (.iload_n 3, 1) := by decide +kernel
theorem dX5_one_359 : decode cX5_one 359 = .ok (.invokevirtual 93, 3) := by decide +kernel
theorem dX5_one_362 : decode cX5_one 362 = .ok (.istore 10, 2) := by decide +kernel
theorem dX5_one_364 : decode cX5_one 364 = .ok (.iload_n 1, 1) := by decide +kernel
theorem dX5_one_365 : decode cX5_one 365 = .ok (.bipush 40, 2) := by decide +kernel
theorem dX5_one_367 : decode cX5_one 367 = .ok (.if_icmp .ne 21, 3) := by decide +kernel
theorem dX5_one_370 : decode cX5_one 370 = .ok (.iload_n 3, 1) := by decide +kernel
theorem dX5_one_371 : decode cX5_one 371 = .ok (.iconst 1, 1) := by decide +kernel
theorem dX5_one_372 : decode cX5_one 372 = .ok (.ishr, 1) := by decide +kernel
theorem dX5_one_373 : decode cX5_one 373 = .ok (.iload 4, 2) := by decide +kernel
theorem dX5_one_375 : decode cX5_one 375 = .ok (.ifCond .eq 8, 3) := by decide +kernel
theorem dX5_one_378 : decode cX5_one 378 = .ok (.iload 5, 2) := by decide +kernel
theorem dX5_one_380 : decode cX5_one 380 = .ok (.goto 4, 3) := by decide +kernel
theorem dX5_one_383 : decode cX5_one 383 = .ok (.iconst 0, 1) := by decide +kernel
theorem dX5_one_384 : decode cX5_one 384 = .ok (.ior, 1) := by decide +kernel
theorem dX5_one_385 : decode cX5_one 385 = .ok (.goto 52, 3) := by decide +kernel
theorem dX5_one_388 : decode cX5_one 388 = .ok (.iload_n 1, 1) := by decide +kernel
theorem dX5_one_389 : decode cX5_one 389 = .ok (.bipush 41, 2) := by decide +kernel
theorem dX5_one_391 : decode cX5_one 391 = .ok (.if_icmp .ne 23, 3) := by decide +kernel
theorem dX5_one_394 : decode cX5_one 394 = .ok (.iload_n 3, 1) := by decide +kernel
theorem dX5_one_395 : decode cX5_one 395 = .ok (.iconst 1, 1) := by decide +kernel
theorem dX5_one_396 : decode cX5_one 396 = .ok (.ishl, 1) := by decide +kernel
theorem dX5_one_397 : decode cX5_one 397 = .ok (.iload 7, 2) := by decide +kernel
theorem dX5_one_399 : decode cX5_one 399 = .ok (.iand, 1) := by decide +kernel
theorem dX5_one_400 : decode cX5_one 400 = .ok (.iload 4, 2) := by decide +kernel
theorem dX5_one_402 : decode cX5_one 402 = .ok (.ifCond .eq 7, 3) := by decide +kernel
theorem dX5_one_405 : decode cX5_one 405 = .ok (.iconst 1, 1) := by decide +kernel
theorem dX5_one_406 : decode cX5_one 406 = .ok (.goto 4, 3) := by decide +kernel
theorem dX5_one_409 : decode cX5_one 409 = .ok (.iconst 0, 1) := by decide +kernel
theorem dX5_one_410 : decode cX5_one 410 = .ok (.ior, 1) := by decide +kernel
theorem dX5_one_411 : decode cX5_one 411 = .ok (.goto 26, 3) := by decide +kernel
theorem dX5_one_414 : decode cX5_one 414 = .ok (.iload_n 1, 1) := by decide +kernel
theorem dX5_one_415 : decode cX5_one 415 = .ok (.bipush 42, 2) := by decide +kernel
theorem dX5_one_417 : decode cX5_one 417 = .ok (.if_icmp .ne 14, 3) := by decide +kernel
theorem dX5_one_420 : decode cX5_one 420 = .ok (.iload_n 3, 1) := by decide +kernel
theorem dX5_one_421 : decode cX5_one 421 = .ok (.iconst 1, 1) := by decide +kernel
theorem dX5_one_422 : decode cX5_one 422 = .ok (.ishr, 1) := by decide +kernel
theorem dX5_one_423 : decode cX5_one 423 = .ok (.iload_n 3, 1) := by decide +kernel
theorem dX5_one_424 : decode cX5_one 424 = .ok (.iload 5, 2) := by decide +kernel
theorem dX5_one_426 : decode cX5_one 426 = .ok (.iand, 1) := by decide +kernel
theorem dX5_one_427 : decode cX5_one 427 = .ok (.ior, 1) := by decide +kernel
theorem dX5_one_428 : decode cX5_one 428 = .ok (.goto 9, 3) := by decide +kernel
theorem dX5_one_431 : decode cX5_one 431 = .ok (.iload_n 3, 1) := by decide +kernel
theorem dX5_one_432 : decode cX5_one 432 = .ok (.iconst 1, 1) := by decide +kernel
theorem dX5_one_433 : decode cX5_one 433 = .ok (.ishl, 1) := by decide +kernel
theorem dX5_one_434 : decode cX5_one 434 = .ok (.iload 7, 2) := by decide +kernel
theorem dX5_one_436 : decode cX5_one 436 = .ok (.iand, 1) := by decide +kernel
theorem dX5_one_437 : decode cX5_one 437 = .ok (.istore 8, 2) := by decide +kernel
theorem dX5_one_439 : decode cX5_one 439 = .ok (.iload_n 1, 1) := by decide +kernel
theorem dX5_one_440 : decode cX5_one 440 = .ok (.bipush 40, 2) := by decide +kernel
theorem dX5_one_442 : decode cX5_one 442 = .ok (.if_icmp .eq 9, 3) := by decide +kernel
theorem dX5_one_445 : decode cX5_one 445 = .ok (.iload_n 1, 1) := by decide +kernel
theorem dX5_one_446 : decode cX5_one 446 = .ok (.bipush 42, 2) := by decide +kernel
theorem dX5_one_448 : decode cX5_one 448 = .ok (.if_icmp .ne 8, 3) := by decide +kernel
theorem dX5_one_451 : decode cX5_one 451 = .ok (.iload 9, 2) := by decide +kernel
theorem dX5_one_453 : decode cX5_one 453 = .ok (.goto 5, 3) := by decide +kernel
theorem dX5_one_456 : decode cX5_one 456 = .ok (.iload 10, 2) := by decide +kernel
theorem dX5_one_458 : decode cX5_one 458 = .ok (.istore 11, 2) := by decide +kernel
theorem dX5_one_460 : decode cX5_one 460 = .ok (.aload_n 0, 1) := by decide +kernel
theorem dX5_one_461 : decode cX5_one 461 = .ok (.iload 8, 2) := by decide +kernel
theorem dX5_one_463 : decode cX5_one 463 = .ok (.aload_n 0, 1) := by decide +kernel
theorem dX5_one_464 : decode cX5_one 464 = .ok (.iload 8, 2) := by decide +kernel
theorem dX5_one_466 : decode cX5_one 466 = .ok (.invokevirtual 93, 3) := by decide +kernel
theorem dX5_one_469 : decode cX5_one 469 = .ok (.iload 11, 2) := by decide +kernel
theorem dX5_one_471 : decode cX5_one 471 = .ok (.if_icmp .eq 7, 3) := by decide +kernel
theorem dX5_one_474 : decode cX5_one 474 = .ok (.iconst 1, 1) := by decide +kernel
theorem dX5_one_475 : decode cX5_one 475 = .ok (.goto 4, 3) := by decide +kernel
theorem dX5_one_478 : decode cX5_one 478 = .ok (.iconst 0, 1) := by decide +kernel
theorem dX5_one_479 : decode cX5_one 479 = .ok (.iload 11, 2) := by decide +kernel
theorem dX5_one_481 : decode cX5_one 481 = .ok (.invokevirtual 112, 3) := by decide +kernel
theorem dX5_one_484 : decode cX5_one 484 = .ok (.aload_n 0, 1) := by decide +kernel
theorem dX5_one_485 : decode cX5_one 485 = .ok (.iload 8, 2) := by decide +kernel
theorem dX5_one_487 : decode cX5_one 487 = .ok (.invokevirtual 116, 3) := by decide +kernel
theorem dX5_one_490 : decode cX5_one 490 = .ok (.return_, 1) := by decide +kernel
theorem dX5_exchangeBytes_0 : decode cX5_exchangeBytes 0 = .ok (.aload_n 0, 1) := by decide +kernel
theorem dX5_exchangeBytes_1 : decode cX5_exchangeBytes 1 = .ok (.iload_n 1, 1) := by decide +kernel
theorem dX5_exchangeBytes_2 : decode cX5_exchangeBytes 2 = .ok (.bipush 63, 2) := by decide +kernel
theorem dX5_exchangeBytes_4 : decode cX5_exchangeBytes 4 = .ok (.iand, 1) := by decide +kernel
theorem dX5_exchangeBytes_5 : decode cX5_exchangeBytes 5 = .ok (.invokevirtual 103, 3) := by decide +kernel
theorem dX5_exchangeBytes_8 : decode cX5_exchangeBytes 8 = .ok (.aload_n 0, 1) := by decide +kernel
theorem dX5_exchangeBytes_9 : decode cX5_exchangeBytes 9 = .ok (.invokevirtual 106, 3) := by decide +kernel
theorem dX5_exchangeBytes_12 : decode cX5_exchangeBytes 12 = .ok (.istore_n 2, 1) := by decide +kernel
theorem dX5_exchangeBytes_13 : decode cX5_exchangeBytes 13 = .ok (.iload_n 2, 1) := by decide +kernel
theorem dX5_exchangeBytes_14 : decode cX5_exchangeBytes 14 = .ok (.bipush 8, 2) := by decide +kernel
theorem dX5_exchangeBytes_16 : decode cX5_exchangeBytes 16 = .ok (.ishr, 1) := by decide +kernel
theorem dX5_exchangeBytes_17 : decode cX5_exchangeBytes 17 = .ok (.iload_n 2, 1) := by decide +kernel
theorem dX5_exchangeBytes_18 : decode cX5_exchangeBytes 18 = .ok (.bipush 8, 2) := by decide +kernel
theorem dX5_exchangeBytes_20 : decode cX5_exchangeBytes 20 = .ok (.ishl, 1) := by decide +kernel
theorem dX5_exchangeBytes_21 : decode cX5_exchangeBytes 21 = .ok (.ldc 76, 2) := by decide +kernel
theorem dX5_exchangeBytes_23 : decode cX5_exchangeBytes 23 = .ok (.iand, 1) := by decide +kernel
theorem dX5_exchangeBytes_24 : decode cX5_exchangeBytes 24 = .ok (.ior, 1) := by decide +kernel
theorem dX5_exchangeBytes_25 : decode cX5_exchangeBytes 25 = .ok (.istore_n 3, 1) := by decide +kernel
theorem dX5_exchangeBytes_26 : decode cX5_exchangeBytes 26 = .ok (.aload_n 0, 1) := by decide +kernel
theorem dX5_exchangeBytes_27 : decode cX5_exchangeBytes 27 = .ok (.iload_n 3, 1) := by decide +kernel
theorem dX5_exchangeBytes_28 : decode cX5_exchangeBytes 28 = .ok (.sipush 128, 3) := by decide +kernel
theorem dX5_exchangeBytes_31 : decode cX5_exchangeBytes 31 = .ok (.iand, 1) := by decide +kernel
theorem dX5_exchangeBytes_32 : decode cX5_exchangeBytes 32 = .ok (.ifCond .eq 7, 3) := by decide +kernel
theorem dX5_exchangeBytes_35 : decode cX5_exchangeBytes 35 = .ok (.iconst 1, 1) := by decide +kernel
theorem dX5_exchangeBytes_36 : decode cX5_exchangeBytes 36 = .ok (.goto 4, 3) := by decide +kernel
theorem dX5_exchangeBytes_39 : decode cX5_exchangeBytes 39 = .ok (.iconst 0, 1) := by decide +kernel
theorem dX5_exchangeBytes_40 : decode cX5_exchangeBytes 40 = .ok (.iload_n 3, 1) := by decide +kernel
theorem dX5_exchangeBytes_41 : decode cX5_exchangeBytes 41 = .ok (.sipush 255, 3) := by decide +kernel
theorem dX5_exchangeBytes_44 : decode cX5_exchangeBytes 44 = .ok (.iand, 1) := by decide +kernel
theorem dX5_exchangeBytes_45 : decode cX5_exchangeBytes 45 = .ok (.ifCond .ne 7, 3) := by decide +kernel
theorem dX5_exchangeBytes_48 : decode cX5_exchangeBytes 48 = .ok (.iconst 1, 1) := by decide +kernel
theorem dX5_exchangeBytes_49 : decode cX5_exchangeBytes 49 = .ok (.goto 4, 3) := by decide +kernel
theorem dX5_exchangeBytes_52 : decode cX5_exchangeBytes 52 = .ok (.iconst 0, 1) := by decide +kernel
theorem dX5_exchangeBytes_53 : decode cX5_exchangeBytes 53 = .ok (.iconst 0, 1) := by decide +kernel
theorem dX5_exchangeBytes_54 : decode cX5_exchangeBytes 54 = .ok (.iconst 0, 1) := by decide +kernel
theorem dX5_exchangeBytes_55 : decode cX5_exchangeBytes 55 = .ok (.invokevirtual 99, 3) := by decide +kernel
theorem dX5_exchangeBytes_58 : decode cX5_exchangeBytes 58 = .ok (.aload_n 0, 1) := by decide +kernel
theorem dX5_exchangeBytes_59 : decode cX5_exchangeBytes 59 = .ok (.iload_n 3, 1) := by decide +kernel
theorem dX5_exchangeBytes_60 : decode cX5_exchangeBytes 60 = .ok (.invokevirtual 116, 3) := by decide +kernel
theorem dX5_exchangeBytes_63 : decode cX5_exchangeBytes 63 = .ok (.return_, 1) := by decide +kernel
theorem dX5_signOut_0 : decode cX5_signOut 0 = .ok (.aload_n 0, 1) := by decide +kernel
theorem dX5_signOut_1 : decode cX5_signOut 1 = .ok (.iload_n 1, 1) := by decide +kernel
theorem dX5_signOut_2 : decode cX5_signOut 2 = .ok (.bipush 63, 2) := by decide +kernel
theorem dX5_signOut_4 : decode cX5_signOut 4 = .ok (.iand, 1) := by decide +kernel
theorem dX5_signOut_5 : decode cX5_signOut 5 = .ok (.invokevirtual 103, 3) := by decide +kernel
theorem dX5_signOut_8 : decode cX5_signOut 8 = .ok (.aload_n 0, 1) := by decide +kernel
theorem dX5_signOut_9 : decode cX5_signOut 9 = .ok (.invokevirtual 106, 3) := by decide +kernel
theorem dX5_signOut_12 : decode cX5_signOut 12 = .ok (.istore_n 2, 1) := by decide +kernel
theorem dX5_signOut_13 : decode cX5_signOut 13 = .ok (.aload_n 0, 1) := by decide +kernel
theorem dX5_signOut_14 : decode cX5_signOut 14 = .ok (.bipush 8, 2) := by decide +kernel
theorem dX5_signOut_16 : decode cX5_signOut 16 = .ok (.invokevirtual 109, 3) := by decide +kernel
theorem dX5_signOut_19 : decode cX5_signOut 19 = .ok (.istore_n 3, 1) := by decide +kernel
theorem dX5_signOut_20 : decode cX5_signOut 20 = .ok (.aload_n 0, 1) := by decide +kernel
theorem dX5_signOut_21 : decode cX5_signOut 21 = .ok (.iload_n 3, 1) := by decide +kernel
theorem dX5_signOut_22 : decode cX5_signOut 22 = .ok (.iload_n 3, 1) := by decide +kernel
theorem dX5_signOut_23 : decode cX5_signOut 23 = .ok (.ifCond .ne 7, 3) := by decide +kernel
theorem dX5_signOut_26 : decode cX5_signOut 26 = .ok (.iconst 1, 1) := by decide +kernel
theorem dX5_signOut_27 : decode cX5_signOut 27 = .ok (.goto 4, 3) := by decide +kernel
theorem dX5_signOut_30 : decode cX5_signOut 30 = .ok (.iconst 0, 1) := by decide +kernel
theorem dX5_signOut_31 : decode cX5_signOut 31 = .ok (.iconst 0, 1) := by decide +kernel
theorem dX5_signOut_32 : decode cX5_signOut 32 = .ok (.aload_n 0, 1) := by decide +kernel
theorem dX5_signOut_33 : decode cX5_signOut 33 = .ok (.iconst 1, 1) := by decide +kernel
theorem dX5_signOut_34 : decode cX5_signOut 34 = .ok (.invokevirtual 109, 3) := by decide +kernel
theorem dX5_signOut_37 : decode cX5_signOut 37 = .ok (.invokevirtual 99, 3) := by decide +kernel
theorem dX5_signOut_40 : decode cX5_signOut 40 = .ok (.aload_n 0, 1) := by decide +kernel
theorem dX5_signOut_41 : decode cX5_signOut 41 = .ok (.iload_n 3, 1) := by decide +kernel
theorem dX5_signOut_42 : decode cX5_signOut 42 = .ok (.ifCond .eq 8, 3) := by decide +kernel
theorem dX5_signOut_45 : decode cX5_signOut 45 = .ok (.ldc 30, 2) := by decide +kernel
theorem dX5_signOut_47 : decode cX5_signOut 47 = .ok (.goto 6, 3) := by decide +kernel
theorem dX5_signOut_50 : decode cX5_signOut 50 = .ok (.iload_n 2, 1) := by decide +kernel
theorem dX5_signOut_51 : decode cX5_signOut 51 = .ok (.iload_n 2, 1) := by decide +kernel
theorem dX5_signOut_52 : decode cX5_signOut 52 = .ok (.isub, 1) := by decide +kernel
theorem dX5_signOut_53 : decode cX5_signOut 53 = .ok (.invokevirtual 116, 3) := by decide +kernel
theorem dX5_signOut_56 : decode cX5_signOut 56 = .ok (.return_, 1) := by decide +kernel
theorem dX5_signed_0 : decode cX5_signed 0 = .ok (.iload_n 0, 1) := by decide +kernel
theorem dX5_signed_1 : decode cX5_signed 1 = .ok (.sipush 32767, 3) := by decide +kernel
theorem dX5_signed_4 : decode cX5_signed 4 = .ok (.if_icmp .le 10, 3) := by decide +kernel
theorem dX5_signed_7 : decode cX5_signed 7 = .ok (.iload_n 0, 1) := by decide +kernel
theorem dX5_signed_8 : decode cX5_signed 8 = .ok (.ldc 119, 2) := by decide +kernel
theorem dX5_signed_10 : decode cX5_signed 10 = .ok (.isub, 1) := by decide +kernel
theorem dX5_signed_11 : decode cX5_signed 11 = .ok (.goto 4, 3) := by decide +kernel
theorem dX5_signed_14 : decode cX5_signed 14 = .ok (.iload_n 0, 1) := by decide +kernel
theorem dX5_signed_15 : decode cX5_signed 15 = .ok (.ireturn, 1) := by decide +kernel
theorem dX5_product_0 : decode cX5_product 0 = .ok (.aload_n 0, 1) := by decide +kernel
theorem dX5_product_1 : decode cX5_product 1 = .ok (.iload_n 2, 1) := by decide +kernel
theorem dX5_product_2 : decode cX5_product 2 = .ok (.bipush 63, 2) := by decide +kernel
theorem dX5_product_4 : decode cX5_product 4 = .ok (.iand, 1) := by decide +kernel
theorem dX5_product_5 : decode cX5_product 5 = .ok (.invokevirtual 103, 3) := by decide +kernel
theorem dX5_product_8 : decode cX5_product 8 = .ok (.aload_n 0, 1) := by decide +kernel
theorem dX5_product_9 : decode cX5_product 9 = .ok (.invokevirtual 106, 3) := by decide +kernel
theorem dX5_product_12 : decode cX5_product 12 = .ok (.invokestatic 120, 3) := by decide +kernel
theorem dX5_product_15 : decode cX5_product 15 = .ok (.istore_n 3, 1) := by decide +kernel
theorem dX5_product_16 : decode cX5_product 16 = .ok (.aload_n 0, 1) := by decide +kernel
theorem dX5_product_17 : decode cX5_product 17 = .ok (.getfield 19, 3) := by decide +kernel
theorem dX5_product_20 : decode cX5_product 20 = .ok (.iload_n 1, 1) := by decide +kernel
theorem dX5_product_21 : decode cX5_product 21 = .ok (.iaload, 1) := by decide +kernel
theorem dX5_product_22 : decode cX5_product 22 = .ok (.invokestatic 120, 3) := by decide +kernel
theorem dX5_product_25 : decode cX5_product 25 = .ok (.iload_n 3, 1) := by decide +kernel
theorem dX5_product_26 : decode cX5_product 26 = .ok (.imul, 1) := by decide +kernel
theorem dX5_product_27 : decode cX5_product 27 = .ok (.istore 4, 2) := by decide +kernel
theorem dX5_product_29 : decode cX5_product 29 = .ok (.aload_n 0, 1) := by decide +kernel
theorem dX5_product_30 : decode cX5_product 30 = .ok (.getfield 19, 3) := by decide +kernel
theorem dX5_product_33 : decode cX5_product 33 = .ok (.iload_n 1, 1) := by decide +kernel
theorem dX5_product_34 : decode cX5_product 34 = .ok (.iload_n 1, 1) := by decide +kernel
theorem dX5_product_35 : decode cX5_product 35 = .ok (.iconst 2, 1) := by decide +kernel
theorem dX5_product_36 : decode cX5_product 36 = .ok (.irem, 1) := by decide +kernel
theorem dX5_product_37 : decode cX5_product 37 = .ok (.ifCond .ne 14, 3) := by decide +kernel
theorem dX5_product_40 : decode cX5_product 40 = .ok (.iload 4, 2) := by decide +kernel
theorem dX5_product_42 : decode cX5_product 42 = .ok (.bipush 16, 2) := by decide +kernel
theorem dX5_product_44 : decode cX5_product 44 = .ok (.ishr, 1) := by decide +kernel
theorem dX5_product_45 : decode cX5_product 45 = .ok (.ldc 30, 2) := by decide +kernel
theorem dX5_product_47 : decode cX5_product 47 = .ok (.iand, 1) := by decide +kernel
theorem dX5_product_48 : decode cX5_product 48 = .ok (.goto 8, 3) := by decide +kernel
theorem dX5_product_51 : decode cX5_product 51 = .ok (.iload 4, 2) := by decide +kernel
theorem dX5_product_53 : decode cX5_product 53 = .ok (.ldc 30, 2) := by decide +kernel
theorem dX5_product_55 : decode cX5_product 55 = .ok (.iand, 1) := by decide +kernel
theorem dX5_product_56 : decode cX5_product 56 = .ok (.iastore, 1) := by decide +kernel
theorem dX5_product_57 : decode cX5_product 57 = .ok (.iload_n 1, 1) := by decide +kernel
theorem dX5_product_58 : decode cX5_product 58 = .ok (.iconst 2, 1) := by decide +kernel
theorem dX5_product_59 : decode cX5_product 59 = .ok (.irem, 1) := by decide +kernel
theorem dX5_product_60 : decode cX5_product 60 = .ok (.ifCond .ne 16, 3) := by decide +kernel
theorem dX5_product_63 : decode cX5_product 63 = .ok (.aload_n 0, 1) := by decide +kernel
theorem dX5_product_64 : decode cX5_product 64 = .ok (.getfield 19, 3) := by decide +kernel
theorem dX5_product_67 : decode cX5_product 67 = .ok (.iload_n 1, 1) := by decide +kernel
theorem dX5_product_68 : decode cX5_product 68 = .ok (.iconst 1, 1) := by decide +kernel
theorem dX5_product_69 : decode cX5_product 69 = .ok (.iadd, 1) := by decide +kernel
theorem dX5_product_70 : decode cX5_product 70 = .ok (.iload 4, 2) := by decide +kernel
theorem dX5_product_72 : decode cX5_product 72 = .ok (.ldc 30, 2) := by decide +kernel
theorem dX5_product_74 : decode cX5_product 74 = .ok (.iand, 1) := by decide +kernel
theorem dX5_product_75 : decode cX5_product 75 = .ok (.iastore, 1) := by decide +kernel
theorem dX5_product_76 : decode cX5_product 76 = .ok (.aload_n 0, 1) := by decide +kernel
theorem dX5_product_77 : decode cX5_product 77 = .ok (.iload 4, 2) := by decide +kernel
theorem dX5_product_79 : decode cX5_product 79 = .ok (.ifCond .ge 7, 3) := by decide +kernel
theorem dX5_product_82 : decode cX5_product 82 = .ok (.iconst 1, 1) := by decide +kernel
theorem dX5_product_83 : decode cX5_product 83 = .ok (.goto 4, 3) := by decide +kernel
theorem dX5_product_86 : decode cX5_product 86 = .ok (.iconst 0, 1) := by decide +kernel
theorem dX5_product_87 : decode cX5_product 87 = .ok (.iload 4, 2) := by decide +kernel
theorem dX5_product_89 : decode cX5_product 89 = .ok (.ifCond .ne 7, 3) := by decide +kernel
theorem dX5_product_92 : decode cX5_product 92 = .ok (.iconst 1, 1) := by decide +kernel
theorem dX5_product_93 : decode cX5_product 93 = .ok (.goto 4, 3) := by decide +kernel
theorem dX5_product_96 : decode cX5_product 96 = .ok (.iconst 0, 1) := by decide +kernel
theorem dX5_product_97 : decode cX5_product 97 = .ok (.iconst 0, 1) := by decide +kernel
theorem dX5_product_98 : decode cX5_product 98 = .ok (.iload 4, 2) := by decide +kernel
theorem dX5_product_100 : decode cX5_product 100 = .ok (.sipush (-32768), 3) := by decide +kernel
theorem dX5_product_103 : decode cX5_product 103 = .ok (.if_icmp .lt 11, 3) := by decide +kernel
theorem dX5_product_106 : decode cX5_product 106 = .ok (.iload 4, 2) := by decide +kernel
theorem dX5_product_108 : decode cX5_product 108 = .ok (.sipush 32767, 3) := by decide +kernel
theorem dX5_product_111 : decode cX5_product 111 = .ok (.if_icmp .le 7, 3) := by decide +kernel
theorem dX5_product_114 : decode cX5_product 114 = .ok (.iconst 1, 1) := by decide +kernel
theorem dX5_product_115 : decode cX5_product 115 = .ok (.goto 4, 3) := by decide +kernel
theorem dX5_product_118 : decode cX5_product 118 = .ok (.iconst 0, 1) := by decide +kernel
theorem dX5_product_119 : decode cX5_product 119 = .ok (.invokevirtual 99, 3) := by decide +kernel
theorem dX5_product_122 : decode cX5_product 122 = .ok (.return_, 1) := by decide +kernel
theorem dX5_quotient_0 : decode cX5_quotient 0 = .ok (.iload_n 1, 1) := by decide +kernel
theorem dX5_quotient_1 : decode cX5_quotient 1 = .ok (.iconst 2, 1) := by decide +kernel
theorem dX5_quotient_2 : decode cX5_quotient 2 = .ok (.irem, 1) := by decide +kernel
theorem dX5_quotient_3 : decode cX5_quotient 3 = .ok (.iconst 1, 1) := by decide +kernel
theorem dX5_quotient_4 : decode cX5_quotient 4 = .ok (.if_icmp .ne 9, 3) := by decide +kernel
theorem dX5_quotient_7 : decode cX5_quotient 7 = .ok (.aload_n 0, 1) := by decide +kernel
theorem dX5_quotient_8 : decode cX5_quotient 8 = .ok (.iconst 4, 1) := by decide +kernel
theorem dX5_quotient_9 : decode cX5_quotient 9 = .ok (.invokevirtual 51, 3) := by decide +kernel
theorem dX5_quotient_12 : decode cX5_quotient 12 = .ok (.return_, 1) := by decide +kernel
theorem dX5_quotient_13 : decode cX5_quotient 13 = .ok (.aload_n 0, 1) := by decide +kernel
theorem dX5_quotient_14 : decode cX5_quotient 14 = .ok (.iload_n 2, 1) := by decide +kernel
theorem dX5_quotient_15 : decode cX5_quotient 15 = .ok (.bipush 63, 2) := by decide +kernel
theorem dX5_quotient_17 : decode cX5_quotient 17 = .ok (.iand, 1) := by decide +kernel
theorem dX5_quotient_18 : decode cX5_quotient 18 = .ok (.invokevirtual 103, 3) := by decide +kernel
