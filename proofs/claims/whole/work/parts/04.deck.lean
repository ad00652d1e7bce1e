theorem d_Model_write_94 : decode b_Model_write 94 = .ok (.iload_n 2, 1) := by decide +kernel
theorem d_Model_write_95 : decode b_Model_write 95 = .ok (.if_icmp .ge 31, 3) := by decide +kernel
theorem d_Model_write_98 : decode b_Model_write 98 = .ok (.aload_n 0, 1) := by decide +kernel
theorem d_Model_write_99 : decode b_Model_write 99 = .ok (.iload 5, 2) := by decide +kernel
theorem d_Model_write_101 : decode b_Model_write 101 = .ok (.invokevirtual 72, 3) := by decide +kernel
theorem d_Model_write_104 : decode b_Model_write 104 = .ok (.lload_n 3, 1) := by decide +kernel
theorem d_Model_write_105 : decode b_Model_write 105 = .ok (.lcmp, 1) := by decide +kernel
theorem d_Model_write_106 : decode b_Model_write 106 = .ok (.ifCond .ge 12, 3) := by decide +kernel
theorem d_Model_write_109 : decode b_Model_write 109 = .ok (.aload_n 0, 1) := by decide +kernel
theorem d_Model_write_110 : decode b_Model_write 110 = .ok (.iload 5, 2) := by decide +kernel
theorem d_Model_write_112 : decode b_Model_write 112 = .ok (.invokevirtual 72, 3) := by decide +kernel
theorem d_Model_write_115 : decode b_Model_write 115 = .ok (.goto 4, 3) := by decide +kernel
theorem d_Model_write_118 : decode b_Model_write 118 = .ok (.lload_n 3, 1) := by decide +kernel
theorem d_Model_write_119 : decode b_Model_write 119 = .ok (.lstore_n 3, 1) := by decide +kernel
theorem d_Model_write_120 : decode b_Model_write 120 = .ok (.iinc 5 1, 3) := by decide +kernel
theorem d_Model_write_123 : decode b_Model_write 123 = .ok (.goto (-31), 3) := by decide +kernel
theorem d_Model_write_126 : decode b_Model_write 126 = .ok (.aload_n 0, 1) := by decide +kernel
theorem d_Model_write_127 : decode b_Model_write 127 = .ok (.getfield 24, 3) := by decide +kernel
theorem d_Model_write_130 : decode b_Model_write 130 = .ok (.aload_n 0, 1) := by decide +kernel
theorem d_Model_write_131 : decode b_Model_write 131 = .ok (.getfield 61, 3) := by decide +kernel
theorem d_Model_write_134 : decode b_Model_write 134 = .ok (.lload_n 3, 1) := by decide +kernel
theorem d_Model_write_135 : decode b_Model_write 135 = .ok (.lastore, 1) := by decide +kernel
theorem d_Model_write_136 : decode b_Model_write 136 = .ok (.aload_n 0, 1) := by decide +kernel
theorem d_Model_write_137 : decode b_Model_write 137 = .ok (.lload_n 3, 1) := by decide +kernel
theorem d_Model_write_138 : decode b_Model_write 138 = .ok (.invokestatic 68, 3) := by decide +kernel
theorem d_Model_write_141 : decode b_Model_write 141 = .ok (.invokevirtual 64, 3) := by decide +kernel
theorem d_Model_write_144 : decode b_Model_write 144 = .ok (.iconst 0, 1) := by decide +kernel
theorem d_Model_write_145 : decode b_Model_write 145 = .ok (.istore 5, 2) := by decide +kernel
theorem d_Model_write_147 : decode b_Model_write 147 = .ok (.iload 5, 2) := by decide +kernel
theorem d_Model_write_149 : decode b_Model_write 149 = .ok (.iconst 4, 1) := by decide +kernel
theorem d_Model_write_150 : decode b_Model_write 150 = .ok (.if_icmp .ge 99, 3) := by decide +kernel
theorem d_Model_write_153 : decode b_Model_write 153 = .ok (.iconst 0, 1) := by decide +kernel
theorem d_Model_write_154 : decode b_Model_write 154 = .ok (.istore 6, 2) := by decide +kernel
theorem d_Model_write_156 : decode b_Model_write 156 = .ok (.iload_n 1, 1) := by decide +kernel
theorem d_Model_write_157 : decode b_Model_write 157 = .ok (.bipush 16, 2) := by decide +kernel
theorem d_Model_write_159 : decode b_Model_write 159 = .ok (.iload 5, 2) := by decide +kernel
theorem d_Model_write_161 : decode b_Model_write 161 = .ok (.imul, 1) := by decide +kernel
theorem d_Model_write_162 : decode b_Model_write 162 = .ok (.iadd, 1) := by decide +kernel
theorem d_Model_write_163 : decode b_Model_write 163 = .ok (.istore 7, 2) := by decide +kernel
theorem d_Model_write_165 : decode b_Model_write 165 = .ok (.iload 7, 2) := by decide +kernel
theorem d_Model_write_167 : decode b_Model_write 167 = .ok (.iload_n 2, 1) := by decide +kernel
theorem d_Model_write_168 : decode b_Model_write 168 = .ok (.if_icmp .ge 53, 3) := by decide +kernel
theorem d_Model_write_171 : decode b_Model_write 171 = .ok (.iload 7, 2) := by decide +kernel
theorem d_Model_write_173 : decode b_Model_write 173 = .ok (.iload_n 1, 1) := by decide +kernel
theorem d_Model_write_174 : decode b_Model_write 174 = .ok (.bipush 16, 2) := by decide +kernel
theorem d_Model_write_176 : decode b_Model_write 176 = .ok (.iload 5, 2) := by decide +kernel
theorem d_Model_write_178 : decode b_Model_write 178 = .ok (.imul, 1) := by decide +kernel
theorem d_Model_write_179 : decode b_Model_write 179 = .ok (.iadd, 1) := by decide +kernel
theorem d_Model_write_180 : decode b_Model_write 180 = .ok (.bipush 16, 2) := by decide +kernel
theorem d_Model_write_182 : decode b_Model_write 182 = .ok (.iadd, 1) := by decide +kernel
theorem d_Model_write_183 : decode b_Model_write 183 = .ok (.if_icmp .ge 38, 3) := by decide +kernel
theorem d_Model_write_186 : decode b_Model_write 186 = .ok (.iload 6, 2) := by decide +kernel
theorem d_Model_write_188 : decode b_Model_write 188 = .ok (.bipush 64, 2) := by decide +kernel
theorem d_Model_write_190 : decode b_Model_write 190 = .ok (.if_icmp .ge 25, 3) := by decide +kernel
theorem d_Model_write_193 : decode b_Model_write 193 = .ok (.aload_n 0, 1) := by decide +kernel
theorem d_Model_write_194 : decode b_Model_write 194 = .ok (.iload 7, 2) := by decide +kernel
theorem d_Model_write_196 : decode b_Model_write 196 = .ok (.invokevirtual 72, 3) := by decide +kernel
theorem d_Model_write_199 : decode b_Model_write 199 = .ok (.lload_n 3, 1) := by decide +kernel
theorem d_Model_write_200 : decode b_Model_write 200 = .ok (.lsub, 1) := by decide +kernel
theorem d_Model_write_201 : decode b_Model_write 201 = .ok (.iload 6, 2) := by decide +kernel
theorem d_Model_write_203 : decode b_Model_write 203 = .ok (.lushr, 1) := by decide +kernel
theorem d_Model_write_204 : decode b_Model_write 204 = .ok (.lconst 0, 1) := by decide +kernel
theorem d_Model_write_205 : decode b_Model_write 205 = .ok (.lcmp, 1) := by decide +kernel
theorem d_Model_write_206 : decode b_Model_write 206 = .ok (.ifCond .eq 9, 3) := by decide +kernel
theorem d_Model_write_209 : decode b_Model_write 209 = .ok (.iinc 6 1, 3) := by decide +kernel
theorem d_Model_write_212 : decode b_Model_write 212 = .ok (.goto (-26), 3) := by decide +kernel
theorem d_Model_write_215 : decode b_Model_write 215 = .ok (.iinc 7 1, 3) := by decide +kernel
theorem d_Model_write_218 : decode b_Model_write 218 = .ok (.goto (-53), 3) := by decide +kernel
theorem d_Model_write_221 : decode b_Model_write 221 = .ok (.aload_n 0, 1) := by decide +kernel
theorem d_Model_write_222 : decode b_Model_write 222 = .ok (.getfield 30, 3) := by decide +kernel
theorem d_Model_write_225 : decode b_Model_write 225 = .ok (.iconst 4, 1) := by decide +kernel
theorem d_Model_write_226 : decode b_Model_write 226 = .ok (.aload_n 0, 1) := by decide +kernel
theorem d_Model_write_227 : decode b_Model_write 227 = .ok (.getfield 61, 3) := by decide +kernel
theorem d_Model_write_230 : decode b_Model_write 230 = .ok (.imul, 1) := by decide +kernel
theorem d_Model_write_231 : decode b_Model_write 231 = .ok (.iload 5, 2) := by decide +kernel
theorem d_Model_write_233 : decode b_Model_write 233 = .ok (.iadd, 1) := by decide +kernel
theorem d_Model_write_234 : decode b_Model_write 234 = .ok (.iload 6, 2) := by decide +kernel
theorem d_Model_write_236 : decode b_Model_write 236 = .ok (.iastore, 1) := by decide +kernel
theorem d_Model_write_237 : decode b_Model_write 237 = .ok (.aload_n 0, 1) := by decide +kernel
theorem d_Model_write_238 : decode b_Model_write 238 = .ok (.iload 6, 2) := by decide +kernel
theorem d_Model_write_240 : decode b_Model_write 240 = .ok (.invokevirtual 53, 3) := by decide +kernel
theorem d_Model_write_243 : decode b_Model_write 243 = .ok (.iinc 5 1, 3) := by decide +kernel
theorem d_Model_write_246 : decode b_Model_write 246 = .ok (.goto (-99), 3) := by decide +kernel
theorem d_Model_write_249 : decode b_Model_write 249 = .ok (.iconst 0, 1) := by decide +kernel
theorem d_Model_write_250 : decode b_Model_write 250 = .ok (.istore 5, 2) := by decide +kernel
theorem d_Model_write_252 : decode b_Model_write 252 = .ok (.iload 5, 2) := by decide +kernel
theorem d_Model_write_254 : decode b_Model_write 254 = .ok (.iconst 4, 1) := by decide +kernel
theorem d_Model_write_255 : decode b_Model_write 255 = .ok (.if_icmp .ge 183, 3) := by decide +kernel
theorem d_Model_write_258 : decode b_Model_write 258 = .ok (.aload_n 0, 1) := by decide +kernel
theorem d_Model_write_259 : decode b_Model_write 259 = .ok (.getfield 30, 3) := by decide +kernel
theorem d_Model_write_262 : decode b_Model_write 262 = .ok (.iconst 4, 1) := by decide +kernel
theorem d_Model_write_263 : decode b_Model_write 263 = .ok (.aload_n 0, 1) := by decide +kernel
theorem d_Model_write_264 : decode b_Model_write 264 = .ok (.getfield 61, 3) := by decide +kernel
theorem d_Model_write_267 : decode b_Model_write 267 = .ok (.imul, 1) := by decide +kernel
theorem d_Model_write_268 : decode b_Model_write 268 = .ok (.iload 5, 2) := by decide +kernel
theorem d_Model_write_270 : decode b_Model_write 270 = .ok (.iadd, 1) := by decide +kernel
theorem d_Model_write_271 : decode b_Model_write 271 = .ok (.iaload, 1) := by decide +kernel
theorem d_Model_write_272 : decode b_Model_write 272 = .ok (.istore 6, 2) := by decide +kernel
theorem d_Model_write_274 : decode b_Model_write 274 = .ok (.aload_n 0, 1) := by decide +kernel
theorem d_Model_write_275 : decode b_Model_write 275 = .ok (.getfield 33, 3) := by decide +kernel
theorem d_Model_write_278 : decode b_Model_write 278 = .ok (.iconst 4, 1) := by decide +kernel
theorem d_Model_write_279 : decode b_Model_write 279 = .ok (.aload_n 0, 1) := by decide +kernel
theorem d_Model_write_280 : decode b_Model_write 280 = .ok (.getfield 61, 3) := by decide +kernel
theorem d_Model_write_283 : decode b_Model_write 283 = .ok (.imul, 1) := by decide +kernel
theorem d_Model_write_284 : decode b_Model_write 284 = .ok (.iload 5, 2) := by decide +kernel
theorem d_Model_write_286 : decode b_Model_write 286 = .ok (.iadd, 1) := by decide +kernel
theorem d_Model_write_287 : decode b_Model_write 287 = .ok (.aload_n 0, 1) := by decide +kernel
theorem d_Model_write_288 : decode b_Model_write 288 = .ok (.getfield 48, 3) := by decide +kernel
theorem d_Model_write_291 : decode b_Model_write 291 = .ok (.iastore, 1) := by decide +kernel
theorem d_Model_write_292 : decode b_Model_write 292 = .ok (.iconst 0, 1) := by decide +kernel
theorem d_Model_write_293 : decode b_Model_write 293 = .ok (.istore 7, 2) := by decide +kernel
theorem d_Model_write_295 : decode b_Model_write 295 = .ok (.iload 7, 2) := by decide +kernel
theorem d_Model_write_297 : decode b_Model_write 297 = .ok (.iconst 2, 1) := by decide +kernel
theorem d_Model_write_298 : decode b_Model_write 298 = .ok (.iload 6, 2) := by decide +kernel
theorem d_Model_write_300 : decode b_Model_write 300 = .ok (.imul, 1) := by decide +kernel
theorem d_Model_write_301 : decode b_Model_write 301 = .ok (.if_icmp .ge 14, 3) := by decide +kernel
theorem d_Model_write_304 : decode b_Model_write 304 = .ok (.aload_n 0, 1) := by decide +kernel
theorem d_Model_write_305 : decode b_Model_write 305 = .ok (.iconst 0, 1) := by decide +kernel
theorem d_Model_write_306 : decode b_Model_write 306 = .ok (.invokevirtual 53, 3) := by decide +kernel
theorem d_Model_write_309 : decode b_Model_write 309 = .ok (.iinc 7 1, 3) := by decide +kernel
theorem d_Model_write_312 : decode b_Model_write 312 = .ok (.goto (-17), 3) := by decide +kernel
theorem d_Model_write_315 : decode b_Model_write 315 = .ok (.iconst 0, 1) := by decide +kernel
theorem d_Model_write_316 : decode b_Model_write 316 = .ok (.istore 7, 2) := by decide +kernel
theorem d_Model_write_318 : decode b_Model_write 318 = .ok (.iload 7, 2) := by decide +kernel
theorem d_Model_write_320 : decode b_Model_write 320 = .ok (.bipush 16, 2) := by decide +kernel
theorem d_Model_write_322 : decode b_Model_write 322 = .ok (.if_icmp .ge 110, 3) := by decide +kernel
theorem d_Model_write_325 : decode b_Model_write 325 = .ok (.iload_n 1, 1) := by decide +kernel
theorem d_Model_write_326 : decode b_Model_write 326 = .ok (.bipush 16, 2) := by decide +kernel
theorem d_Model_write_328 : decode b_Model_write 328 = .ok (.iload 5, 2) := by decide +kernel
theorem d_Model_write_330 : decode b_Model_write 330 = .ok (.imul, 1) := by decide +kernel
theorem d_Model_write_331 : decode b_Model_write 331 = .ok (.iadd, 1) := by decide +kernel
theorem d_Model_write_332 : decode b_Model_write 332 = .ok (.iload 7, 2) := by decide +kernel
theorem d_Model_write_334 : decode b_Model_write 334 = .ok (.iadd, 1) := by decide +kernel
theorem d_Model_write_335 : decode b_Model_write 335 = .ok (.iload_n 2, 1) := by decide +kernel
theorem d_Model_write_336 : decode b_Model_write 336 = .ok (.if_icmp .ge 96, 3) := by decide +kernel
theorem d_Model_write_339 : decode b_Model_write 339 = .ok (.iconst 0, 1) := by decide +kernel
theorem d_Model_write_340 : decode b_Model_write 340 = .ok (.istore 8, 2) := by decide +kernel
theorem d_Model_write_342 : decode b_Model_write 342 = .ok (.iload 8, 2) := by decide +kernel
theorem d_Model_write_344 : decode b_Model_write 344 = .ok (.iload 6, 2) := by decide +kernel
theorem d_Model_write_346 : decode b_Model_write 346 = .ok (.if_icmp .ge 80, 3) := by decide +kernel
theorem d_Model_write_349 : decode b_Model_write 349 = .ok (.iload 6, 2) := by decide +kernel
theorem d_Model_write_351 : decode b_Model_write 351 = .ok (.iload 7, 2) := by decide +kernel
theorem d_Model_write_353 : decode b_Model_write 353 = .ok (.imul, 1) := by decide +kernel
theorem d_Model_write_354 : decode b_Model_write 354 = .ok (.iload 8, 2) := by decide +kernel
theorem d_Model_write_356 : decode b_Model_write 356 = .ok (.iadd, 1) := by decide +kernel
theorem d_Model_write_357 : decode b_Model_write 357 = .ok (.istore 9, 2) := by decide +kernel
theorem d_Model_write_359 : decode b_Model_write 359 = .ok (.aload_n 0, 1) := by decide +kernel
theorem d_Model_write_360 : decode b_Model_write 360 = .ok (.iload_n 1, 1) := by decide +kernel
theorem d_Model_write_361 : decode b_Model_write 361 = .ok (.bipush 16, 2) := by decide +kernel
theorem d_Model_write_363 : decode b_Model_write 363 = .ok (.iload 5, 2) := by decide +kernel
theorem d_Model_write_365 : decode b_Model_write 365 = .ok (.imul, 1) := by decide +kernel
theorem d_Model_write_366 : decode b_Model_write 366 = .ok (.iadd, 1) := by decide +kernel
theorem d_Model_write_367 : decode b_Model_write 367 = .ok (.iload 7, 2) := by decide +kernel
theorem d_Model_write_369 : decode b_Model_write 369 = .ok (.iadd, 1) := by decide +kernel
theorem d_Model_write_370 : decode b_Model_write 370 = .ok (.invokevirtual 72, 3) := by decide +kernel
theorem d_Model_write_373 : decode b_Model_write 373 = .ok (.lload_n 3, 1) := by decide +kernel
theorem d_Model_write_374 : decode b_Model_write 374 = .ok (.lsub, 1) := by decide +kernel
theorem d_Model_write_375 : decode b_Model_write 375 = .ok (.iload 8, 2) := by decide +kernel
theorem d_Model_write_377 : decode b_Model_write 377 = .ok (.lushr, 1) := by decide +kernel
theorem d_Model_write_378 : decode b_Model_write 378 = .ok (.lconst 1, 1) := by decide +kernel
theorem d_Model_write_379 : decode b_Model_write 379 = .ok (.land, 1) := by decide +kernel
theorem d_Model_write_380 : decode b_Model_write 380 = .ok (.lconst 1, 1) := by decide +kernel
theorem d_Model_write_381 : decode b_Model_write 381 = .ok (.lcmp, 1) := by decide +kernel
theorem d_Model_write_382 : decode b_Model_write 382 = .ok (.ifCond .ne 38, 3) := by decide +kernel
theorem d_Model_write_385 : decode b_Model_write 385 = .ok (.aload_n 0, 1) := by decide +kernel
theorem d_Model_write_386 : decode b_Model_write 386 = .ok (.getfield 16, 3) := by decide +kernel
theorem d_Model_write_389 : decode b_Model_write 389 = .ok (.aload_n 0, 1) := by decide +kernel
theorem d_Model_write_390 : decode b_Model_write 390 = .ok (.getfield 33, 3) := by decide +kernel
theorem d_Model_write_393 : decode b_Model_write 393 = .ok (.iconst 4, 1) := by decide +kernel
theorem d_Model_write_394 : decode b_Model_write 394 = .ok (.aload_n 0, 1) := by decide +kernel
theorem d_Model_write_395 : decode b_Model_write 395 = .ok (.getfield 61, 3) := by decide +kernel
theorem d_Model_write_398 : decode b_Model_write 398 = .ok (.imul, 1) := by decide +kernel
theorem d_Model_write_399 : decode b_Model_write 399 = .ok (.iload 5, 2) := by decide +kernel
theorem d_Model_write_401 : decode b_Model_write 401 = .ok (.iadd, 1) := by decide +kernel
theorem d_Model_write_402 : decode b_Model_write 402 = .ok (.iaload, 1) := by decide +kernel
theorem d_Model_write_403 : decode b_Model_write 403 = .ok (.iload 9, 2) := by decide +kernel
theorem d_Model_write_405 : decode b_Model_write 405 = .ok (.bipush 8, 2) := by decide +kernel
theorem d_Model_write_407 : decode b_Model_write 407 = .ok (.idiv, 1) := by decide +kernel
theorem d_Model_write_408 : decode b_Model_write 408 = .ok (.iadd, 1) := by decide +kernel
theorem d_Model_write_409 : decode b_Model_write 409 = .ok (.dup2, 1) := by decide +kernel
theorem d_Model_write_410 : decode b_Model_write 410 = .ok (.iaload, 1) := by decide +kernel
theorem d_Model_write_411 : decode b_Model_write 411 = .ok (.iconst 1, 1) := by decide +kernel
theorem d_Model_write_412 : decode b_Model_write 412 = .ok (.iload 9, 2) := by decide +kernel
theorem d_Model_write_414 : decode b_Model_write 414 = .ok (.bipush 8, 2) := by decide +kernel
theorem d_Model_write_416 : decode b_Model_write 416 = .ok (.irem, 1) := by decide +kernel
theorem d_Model_write_417 : decode b_Model_write 417 = .ok (.ishl, 1) := by decide +kernel
theorem d_Model_write_418 : decode b_Model_write 418 = .ok (.ior, 1) := by decide +kernel
theorem d_Model_write_419 : decode b_Model_write 419 = .ok (.iastore, 1) := by decide +kernel
theorem d_Model_write_420 : decode b_Model_write 420 = .ok (.iinc 8 1, 3) := by decide +kernel
theorem d_Model_write_423 : decode b_Model_write 423 = .ok (.goto (-81), 3) := by decide +kernel
theorem d_Model_write_426 : decode b_Model_write 426 = .ok (.iinc 7 1, 3) := by decide +kernel
theorem d_Model_write_429 : decode b_Model_write 429 = .ok (.goto (-111), 3) := by decide +kernel
theorem d_Model_write_432 : decode b_Model_write 432 = .ok (.iinc 5 1, 3) := by decide +kernel
theorem d_Model_write_435 : decode b_Model_write 435 = .ok (.goto (-183), 3) := by decide +kernel
theorem d_Model_write_438 : decode b_Model_write 438 = .ok (.aload_n 0, 1) := by decide +kernel
theorem d_Model_write_439 : decode b_Model_write 439 = .ok (.dup, 1) := by decide +kernel
theorem d_Model_write_440 : decode b_Model_write 440 = .ok (.getfield 61, 3) := by decide +kernel
theorem d_Model_write_443 : decode b_Model_write 443 = .ok (.iconst 1, 1) := by decide +kernel
theorem d_Model_write_444 : decode b_Model_write 444 = .ok (.iadd, 1) := by decide +kernel
theorem d_Model_write_445 : decode b_Model_write 445 = .ok (.putfield 61, 3) := by decide +kernel
theorem d_Model_write_448 : decode b_Model_write 448 = .ok (.iinc 1 64, 3) := by decide +kernel
theorem d_Model_write_451 : decode b_Model_write 451 = .ok (.goto (-405), 3) := by decide +kernel
theorem d_Model_write_454 : decode b_Model_write 454 = .ok (.aload_n 0, 1) := by decide +kernel
theorem d_Model_write_455 : decode b_Model_write 455 = .ok (.getfield 48, 3) := by decide +kernel
theorem d_Model_write_458 : decode b_Model_write 458 = .ok (.ireturn, 1) := by decide +kernel
theorem d_Model_fail_0 : decode b_Model_fail 0 = .ok (.aload_n 0, 1) := by decide +kernel
theorem d_Model_fail_1 : decode b_Model_fail 1 = .ok (.getfield 76, 3) := by decide +kernel
theorem d_Model_fail_4 : decode b_Model_fail 4 = .ok (.ifCond .eq 4, 3) := by decide +kernel
theorem d_Model_fail_7 : decode b_Model_fail 7 = .ok (.return_, 1) := by decide +kernel
theorem d_Model_fail_8 : decode b_Model_fail 8 = .ok (.aload_n 0, 1) := by decide +kernel
theorem d_Model_fail_9 : decode b_Model_fail 9 = .ok (.iload_n 1, 1) := by decide +kernel
theorem d_Model_fail_10 : decode b_Model_fail 10 = .ok (.putfield 76, 3) := by decide +kernel
theorem d_Model_fail_13 : decode b_Model_fail 13 = .ok (.aload_n 0, 1) := by decide +kernel
theorem d_Model_fail_14 : decode b_Model_fail 14 = .ok (.iload_n 2, 1) := by decide +kernel
theorem d_Model_fail_15 : decode b_Model_fail 15 = .ok (.putfield 20, 3) := by decide +kernel
theorem d_Model_fail_18 : decode b_Model_fail 18 = .ok (.return_, 1) := by decide +kernel
theorem d_Model_next_0 : decode b_Model_next 0 = .ok (.aload_n 0, 1) := by decide +kernel
theorem d_Model_next_1 : decode b_Model_next 1 = .ok (.getfield 79, 3) := by decide +kernel
theorem d_Model_next_4 : decode b_Model_next 4 = .ok (.aload_n 0, 1) := by decide +kernel
theorem d_Model_next_5 : decode b_Model_next 5 = .ok (.getfield 48, 3) := by decide +kernel
theorem d_Model_next_8 : decode b_Model_next 8 = .ok (.if_icmp .ne 14, 3) := by decide +kernel
theorem d_Model_next_11 : decode b_Model_next 11 = .ok (.aload_n 0, 1) := by decide +kernel
theorem d_Model_next_12 : decode b_Model_next 12 = .ok (.iconst 1, 1) := by decide +kernel
theorem d_Model_next_13 : decode b_Model_next 13 = .ok (.aload_n 0, 1) := by decide +kernel
theorem d_Model_next_14 : decode b_Model_next 14 = .ok (.getfield 48, 3) := by decide +kernel
theorem d_Model_next_17 : decode b_Model_next 17 = .ok (.invokevirtual 82, 3) := by decide +kernel
theorem d_Model_next_20 : decode b_Model_next 20 = .ok (.iconst 0, 1) := by decide +kernel
theorem d_Model_next_21 : decode b_Model_next 21 = .ok (.ireturn, 1) := by decide +kernel
theorem d_Model_next_22 : decode b_Model_next 22 = .ok (.aload_n 0, 1) := by decide +kernel
theorem d_Model_next_23 : decode b_Model_next 23 = .ok (.dup, 1) := by decide +kernel
theorem d_Model_next_24 : decode b_Model_next 24 = .ok (.getfield 79, 3) := by decide +kernel
theorem d_Model_next_27 : decode b_Model_next 27 = .ok (.iconst 1, 1) := by decide +kernel
theorem d_Model_next_28 : decode b_Model_next 28 = .ok (.iadd, 1) := by decide +kernel
theorem d_Model_next_29 : decode b_Model_next 29 = .ok (.putfield 79, 3) := by decide +kernel
theorem d_Model_next_32 : decode b_Model_next 32 = .ok (.aload_n 0, 1) := by decide +kernel
theorem d_Model_next_33 : decode b_Model_next 33 = .ok (.getfield 16, 3) := by decide +kernel
theorem d_Model_next_36 : decode b_Model_next 36 = .ok (.aload_n 0, 1) := by decide +kernel
theorem d_Model_next_37 : decode b_Model_next 37 = .ok (.getfield 79, 3) := by decide +kernel
theorem d_Model_next_40 : decode b_Model_next 40 = .ok (.iconst 1, 1) := by decide +kernel
theorem d_Model_next_41 : decode b_Model_next 41 = .ok (.isub, 1) := by decide +kernel
theorem d_Model_next_42 : decode b_Model_next 42 = .ok (.iaload, 1) := by decide +kernel
theorem d_Model_next_43 : decode b_Model_next 43 = .ok (.ireturn, 1) := by decide +kernel
theorem d_Model_varint_0 : decode b_Model_varint 0 = .ok (.aload_n 0, 1) := by decide +kernel
theorem d_Model_varint_1 : decode b_Model_varint 1 = .ok (.getfield 79, 3) := by decide +kernel
theorem d_Model_varint_4 : decode b_Model_varint 4 = .ok (.istore_n 1, 1) := by decide +kernel
theorem d_Model_varint_5 : decode b_Model_varint 5 = .ok (.lconst 0, 1) := by decide +kernel
theorem d_Model_varint_6 : decode b_Model_varint 6 = .ok (.lstore_n 2, 1) := by decide +kernel
theorem d_Model_varint_7 : decode b_Model_varint 7 = .ok (.iconst 0, 1) := by decide +kernel
theorem d_Model_varint_8 : decode b_Model_varint 8 = .ok (.istore 4, 2) := by decide +kernel
theorem d_Model_varint_10 : decode b_Model_varint 10 = .ok (.aload_n 0, 1) := by decide +kernel
