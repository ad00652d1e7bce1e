theorem d_law_law_0 : decode b_law_law 0 = .ok (.new 7, 3) := by decide +kernel
theorem d_law_law_3 : decode b_law_law 3 = .ok (.dup, 1) := by decide +kernel
theorem d_law_law_4 : decode b_law_law 4 = .ok (.invokespecial 9, 3) := by decide +kernel
theorem d_law_law_7 : decode b_law_law 7 = .ok (.astore_n 1, 1) := by decide +kernel
theorem d_law_law_8 : decode b_law_law 8 = .ok (.new 10, 3) := by decide +kernel
theorem d_law_law_11 : decode b_law_law 11 = .ok (.dup, 1) := by decide +kernel
theorem d_law_law_12 : decode b_law_law 12 = .ok (.invokespecial 12, 3) := by decide +kernel
theorem d_law_law_15 : decode b_law_law 15 = .ok (.astore_n 2, 1) := by decide +kernel
theorem d_law_law_16 : decode b_law_law 16 = .ok (.iconst 0, 1) := by decide +kernel
theorem d_law_law_17 : decode b_law_law 17 = .ok (.istore_n 3, 1) := by decide +kernel
theorem d_law_law_18 : decode b_law_law 18 = .ok (.iload_n 3, 1) := by decide +kernel
theorem d_law_law_19 : decode b_law_law 19 = .ok (.aload_n 0, 1) := by decide +kernel
theorem d_law_law_20 : decode b_law_law 20 = .ok (.arraylength, 1) := by decide +kernel
theorem d_law_law_21 : decode b_law_law 21 = .ok (.iconst 3, 1) := by decide +kernel
theorem d_law_law_22 : decode b_law_law 22 = .ok (.isub, 1) := by decide +kernel
theorem d_law_law_23 : decode b_law_law 23 = .ok (.if_icmp .gt 453, 3) := by decide +kernel
theorem d_law_law_26 : decode b_law_law 26 = .ok (.aload_n 0, 1) := by decide +kernel
theorem d_law_law_27 : decode b_law_law 27 = .ok (.iload_n 3, 1) := by decide +kernel
theorem d_law_law_28 : decode b_law_law 28 = .ok (.iaload, 1) := by decide +kernel
theorem d_law_law_29 : decode b_law_law 29 = .ok (.bipush 15, 2) := by decide +kernel
theorem d_law_law_31 : decode b_law_law 31 = .ok (.iand, 1) := by decide +kernel
theorem d_law_law_32 : decode b_law_law 32 = .ok (.tableswitch 438 0 15 #[80, 133, 144, 157, 181, 194, 207, 220, 233, 256, 289, 312, 335, 348, 372, 405], 80) := by decide +kernel
theorem d_law_law_112 : decode b_law_law 112 = .ok (.aload_n 1, 1) := by decide +kernel
theorem d_law_law_113 : decode b_law_law 113 = .ok (.aload_n 0, 1) := by decide +kernel
theorem d_law_law_114 : decode b_law_law 114 = .ok (.iload_n 3, 1) := by decide +kernel
theorem d_law_law_115 : decode b_law_law 115 = .ok (.iconst 1, 1) := by decide +kernel
theorem d_law_law_116 : decode b_law_law 116 = .ok (.iadd, 1) := by decide +kernel
theorem d_law_law_117 : decode b_law_law 117 = .ok (.iaload, 1) := by decide +kernel
theorem d_law_law_118 : decode b_law_law 118 = .ok (.i2l, 1) := by decide +kernel
theorem d_law_law_119 : decode b_law_law 119 = .ok (.bipush 32, 2) := by decide +kernel
theorem d_law_law_121 : decode b_law_law 121 = .ok (.lshl, 1) := by decide +kernel
theorem d_law_law_122 : decode b_law_law 122 = .ok (.aload_n 0, 1) := by decide +kernel
theorem d_law_law_123 : decode b_law_law 123 = .ok (.iload_n 3, 1) := by decide +kernel
theorem d_law_law_124 : decode b_law_law 124 = .ok (.iconst 2, 1) := by decide +kernel
theorem d_law_law_125 : decode b_law_law 125 = .ok (.iadd, 1) := by decide +kernel
theorem d_law_law_126 : decode b_law_law 126 = .ok (.iaload, 1) := by decide +kernel
theorem d_law_law_127 : decode b_law_law 127 = .ok (.i2l, 1) := by decide +kernel
theorem d_law_law_128 : decode b_law_law 128 = .ok (.ldc2_w 13, 3) := by decide +kernel
theorem d_law_law_131 : decode b_law_law 131 = .ok (.land, 1) := by decide +kernel
theorem d_law_law_132 : decode b_law_law 132 = .ok (.lor, 1) := by decide +kernel
theorem d_law_law_133 : decode b_law_law 133 = .ok (.invokevirtual 15, 3) := by decide +kernel
theorem d_law_law_136 : decode b_law_law 136 = .ok (.aload_n 2, 1) := by decide +kernel
theorem d_law_law_137 : decode b_law_law 137 = .ok (.aload_n 0, 1) := by decide +kernel
theorem d_law_law_138 : decode b_law_law 138 = .ok (.iload_n 3, 1) := by decide +kernel
theorem d_law_law_139 : decode b_law_law 139 = .ok (.iconst 1, 1) := by decide +kernel
theorem d_law_law_140 : decode b_law_law 140 = .ok (.iadd, 1) := by decide +kernel
theorem d_law_law_141 : decode b_law_law 141 = .ok (.iaload, 1) := by decide +kernel
theorem d_law_law_142 : decode b_law_law 142 = .ok (.i2l, 1) := by decide +kernel
theorem d_law_law_143 : decode b_law_law 143 = .ok (.bipush 32, 2) := by decide +kernel
theorem d_law_law_145 : decode b_law_law 145 = .ok (.lshl, 1) := by decide +kernel
theorem d_law_law_146 : decode b_law_law 146 = .ok (.aload_n 0, 1) := by decide +kernel
theorem d_law_law_147 : decode b_law_law 147 = .ok (.iload_n 3, 1) := by decide +kernel
theorem d_law_law_148 : decode b_law_law 148 = .ok (.iconst 2, 1) := by decide +kernel
theorem d_law_law_149 : decode b_law_law 149 = .ok (.iadd, 1) := by decide +kernel
theorem d_law_law_150 : decode b_law_law 150 = .ok (.iaload, 1) := by decide +kernel
theorem d_law_law_151 : decode b_law_law 151 = .ok (.i2l, 1) := by decide +kernel
theorem d_law_law_152 : decode b_law_law 152 = .ok (.ldc2_w 13, 3) := by decide +kernel
theorem d_law_law_155 : decode b_law_law 155 = .ok (.land, 1) := by decide +kernel
theorem d_law_law_156 : decode b_law_law 156 = .ok (.lor, 1) := by decide +kernel
theorem d_law_law_157 : decode b_law_law 157 = .ok (.invokevirtual 19, 3) := by decide +kernel
theorem d_law_law_160 : decode b_law_law 160 = .ok (.if_icmp .eq 310, 3) := by decide +kernel
theorem d_law_law_163 : decode b_law_law 163 = .ok (.iconst 0, 1) := by decide +kernel
theorem d_law_law_164 : decode b_law_law 164 = .ok (.ireturn, 1) := by decide +kernel
theorem d_law_law_165 : decode b_law_law 165 = .ok (.aload_n 1, 1) := by decide +kernel
theorem d_law_law_166 : decode b_law_law 166 = .ok (.invokevirtual 20, 3) := by decide +kernel
theorem d_law_law_169 : decode b_law_law 169 = .ok (.aload_n 2, 1) := by decide +kernel
theorem d_law_law_170 : decode b_law_law 170 = .ok (.invokevirtual 23, 3) := by decide +kernel
theorem d_law_law_173 : decode b_law_law 173 = .ok (.goto 297, 3) := by decide +kernel
theorem d_law_law_176 : decode b_law_law 176 = .ok (.aload_n 1, 1) := by decide +kernel
theorem d_law_law_177 : decode b_law_law 177 = .ok (.invokevirtual 24, 3) := by decide +kernel
theorem d_law_law_180 : decode b_law_law 180 = .ok (.aload_n 2, 1) := by decide +kernel
theorem d_law_law_181 : decode b_law_law 181 = .ok (.invokevirtual 28, 3) := by decide +kernel
theorem d_law_law_184 : decode b_law_law 184 = .ok (.if_icmp .eq 286, 3) := by decide +kernel
theorem d_law_law_187 : decode b_law_law 187 = .ok (.iconst 0, 1) := by decide +kernel
theorem d_law_law_188 : decode b_law_law 188 = .ok (.ireturn, 1) := by decide +kernel
theorem d_law_law_189 : decode b_law_law 189 = .ok (.aload_n 1, 1) := by decide +kernel
theorem d_law_law_190 : decode b_law_law 190 = .ok (.aload_n 0, 1) := by decide +kernel
theorem d_law_law_191 : decode b_law_law 191 = .ok (.iload_n 3, 1) := by decide +kernel
theorem d_law_law_192 : decode b_law_law 192 = .ok (.iconst 1, 1) := by decide +kernel
theorem d_law_law_193 : decode b_law_law 193 = .ok (.iadd, 1) := by decide +kernel
theorem d_law_law_194 : decode b_law_law 194 = .ok (.iaload, 1) := by decide +kernel
theorem d_law_law_195 : decode b_law_law 195 = .ok (.invokevirtual 29, 3) := by decide +kernel
theorem d_law_law_198 : decode b_law_law 198 = .ok (.aload_n 2, 1) := by decide +kernel
theorem d_law_law_199 : decode b_law_law 199 = .ok (.aload_n 0, 1) := by decide +kernel
theorem d_law_law_200 : decode b_law_law 200 = .ok (.iload_n 3, 1) := by decide +kernel
theorem d_law_law_201 : decode b_law_law 201 = .ok (.iconst 1, 1) := by decide +kernel
theorem d_law_law_202 : decode b_law_law 202 = .ok (.iadd, 1) := by decide +kernel
theorem d_law_law_203 : decode b_law_law 203 = .ok (.iaload, 1) := by decide +kernel
theorem d_law_law_204 : decode b_law_law 204 = .ok (.invokevirtual 33, 3) := by decide +kernel
theorem d_law_law_207 : decode b_law_law 207 = .ok (.lcmp, 1) := by decide +kernel
theorem d_law_law_208 : decode b_law_law 208 = .ok (.ifCond .eq 262, 3) := by decide +kernel
theorem d_law_law_211 : decode b_law_law 211 = .ok (.iconst 0, 1) := by decide +kernel
theorem d_law_law_212 : decode b_law_law 212 = .ok (.ireturn, 1) := by decide +kernel
theorem d_law_law_213 : decode b_law_law 213 = .ok (.aload_n 1, 1) := by decide +kernel
theorem d_law_law_214 : decode b_law_law 214 = .ok (.invokevirtual 34, 3) := by decide +kernel
theorem d_law_law_217 : decode b_law_law 217 = .ok (.aload_n 2, 1) := by decide +kernel
theorem d_law_law_218 : decode b_law_law 218 = .ok (.invokevirtual 37, 3) := by decide +kernel
theorem d_law_law_221 : decode b_law_law 221 = .ok (.if_icmp .eq 249, 3) := by decide +kernel
theorem d_law_law_224 : decode b_law_law 224 = .ok (.iconst 0, 1) := by decide +kernel
theorem d_law_law_225 : decode b_law_law 225 = .ok (.ireturn, 1) := by decide +kernel
theorem d_law_law_226 : decode b_law_law 226 = .ok (.aload_n 1, 1) := by decide +kernel
theorem d_law_law_227 : decode b_law_law 227 = .ok (.invokevirtual 38, 3) := by decide +kernel
theorem d_law_law_230 : decode b_law_law 230 = .ok (.aload_n 2, 1) := by decide +kernel
theorem d_law_law_231 : decode b_law_law 231 = .ok (.invokevirtual 41, 3) := by decide +kernel
theorem d_law_law_234 : decode b_law_law 234 = .ok (.if_icmp .eq 236, 3) := by decide +kernel
theorem d_law_law_237 : decode b_law_law 237 = .ok (.iconst 0, 1) := by decide +kernel
theorem d_law_law_238 : decode b_law_law 238 = .ok (.ireturn, 1) := by decide +kernel
theorem d_law_law_239 : decode b_law_law 239 = .ok (.aload_n 1, 1) := by decide +kernel
theorem d_law_law_240 : decode b_law_law 240 = .ok (.invokevirtual 42, 3) := by decide +kernel
theorem d_law_law_243 : decode b_law_law 243 = .ok (.aload_n 2, 1) := by decide +kernel
theorem d_law_law_244 : decode b_law_law 244 = .ok (.invokevirtual 45, 3) := by decide +kernel
theorem d_law_law_247 : decode b_law_law 247 = .ok (.if_icmp .eq 223, 3) := by decide +kernel
theorem d_law_law_250 : decode b_law_law 250 = .ok (.iconst 0, 1) := by decide +kernel
theorem d_law_law_251 : decode b_law_law 251 = .ok (.ireturn, 1) := by decide +kernel
theorem d_law_law_252 : decode b_law_law 252 = .ok (.aload_n 1, 1) := by decide +kernel
theorem d_law_law_253 : decode b_law_law 253 = .ok (.invokevirtual 46, 3) := by decide +kernel
theorem d_law_law_256 : decode b_law_law 256 = .ok (.aload_n 2, 1) := by decide +kernel
theorem d_law_law_257 : decode b_law_law 257 = .ok (.invokevirtual 49, 3) := by decide +kernel
theorem d_law_law_260 : decode b_law_law 260 = .ok (.if_icmp .eq 210, 3) := by decide +kernel
theorem d_law_law_263 : decode b_law_law 263 = .ok (.iconst 0, 1) := by decide +kernel
theorem d_law_law_264 : decode b_law_law 264 = .ok (.ireturn, 1) := by decide +kernel
theorem d_law_law_265 : decode b_law_law 265 = .ok (.aload_n 1, 1) := by decide +kernel
theorem d_law_law_266 : decode b_law_law 266 = .ok (.aload_n 0, 1) := by decide +kernel
theorem d_law_law_267 : decode b_law_law 267 = .ok (.iload_n 3, 1) := by decide +kernel
theorem d_law_law_268 : decode b_law_law 268 = .ok (.iconst 1, 1) := by decide +kernel
theorem d_law_law_269 : decode b_law_law 269 = .ok (.iadd, 1) := by decide +kernel
theorem d_law_law_270 : decode b_law_law 270 = .ok (.iaload, 1) := by decide +kernel
theorem d_law_law_271 : decode b_law_law 271 = .ok (.invokevirtual 50, 3) := by decide +kernel
theorem d_law_law_274 : decode b_law_law 274 = .ok (.aload_n 2, 1) := by decide +kernel
theorem d_law_law_275 : decode b_law_law 275 = .ok (.aload_n 0, 1) := by decide +kernel
theorem d_law_law_276 : decode b_law_law 276 = .ok (.iload_n 3, 1) := by decide +kernel
theorem d_law_law_277 : decode b_law_law 277 = .ok (.iconst 1, 1) := by decide +kernel
theorem d_law_law_278 : decode b_law_law 278 = .ok (.iadd, 1) := by decide +kernel
theorem d_law_law_279 : decode b_law_law 279 = .ok (.iaload, 1) := by decide +kernel
theorem d_law_law_280 : decode b_law_law 280 = .ok (.invokevirtual 54, 3) := by decide +kernel
theorem d_law_law_283 : decode b_law_law 283 = .ok (.if_icmp .eq 187, 3) := by decide +kernel
theorem d_law_law_286 : decode b_law_law 286 = .ok (.iconst 0, 1) := by decide +kernel
theorem d_law_law_287 : decode b_law_law 287 = .ok (.ireturn, 1) := by decide +kernel
theorem d_law_law_288 : decode b_law_law 288 = .ok (.aload_n 1, 1) := by decide +kernel
theorem d_law_law_289 : decode b_law_law 289 = .ok (.aload_n 0, 1) := by decide +kernel
theorem d_law_law_290 : decode b_law_law 290 = .ok (.iload_n 3, 1) := by decide +kernel
theorem d_law_law_291 : decode b_law_law 291 = .ok (.iconst 1, 1) := by decide +kernel
theorem d_law_law_292 : decode b_law_law 292 = .ok (.iadd, 1) := by decide +kernel
theorem d_law_law_293 : decode b_law_law 293 = .ok (.iaload, 1) := by decide +kernel
theorem d_law_law_294 : decode b_law_law 294 = .ok (.aload_n 0, 1) := by decide +kernel
theorem d_law_law_295 : decode b_law_law 295 = .ok (.iload_n 3, 1) := by decide +kernel
theorem d_law_law_296 : decode b_law_law 296 = .ok (.iconst 2, 1) := by decide +kernel
theorem d_law_law_297 : decode b_law_law 297 = .ok (.iadd, 1) := by decide +kernel
theorem d_law_law_298 : decode b_law_law 298 = .ok (.iaload, 1) := by decide +kernel
theorem d_law_law_299 : decode b_law_law 299 = .ok (.invokevirtual 55, 3) := by decide +kernel
theorem d_law_law_302 : decode b_law_law 302 = .ok (.aload_n 2, 1) := by decide +kernel
theorem d_law_law_303 : decode b_law_law 303 = .ok (.aload_n 0, 1) := by decide +kernel
theorem d_law_law_304 : decode b_law_law 304 = .ok (.iload_n 3, 1) := by decide +kernel
theorem d_law_law_305 : decode b_law_law 305 = .ok (.iconst 1, 1) := by decide +kernel
theorem d_law_law_306 : decode b_law_law 306 = .ok (.iadd, 1) := by decide +kernel
theorem d_law_law_307 : decode b_law_law 307 = .ok (.iaload, 1) := by decide +kernel
theorem d_law_law_308 : decode b_law_law 308 = .ok (.aload_n 0, 1) := by decide +kernel
theorem d_law_law_309 : decode b_law_law 309 = .ok (.iload_n 3, 1) := by decide +kernel
theorem d_law_law_310 : decode b_law_law 310 = .ok (.iconst 2, 1) := by decide +kernel
theorem d_law_law_311 : decode b_law_law 311 = .ok (.iadd, 1) := by decide +kernel
theorem d_law_law_312 : decode b_law_law 312 = .ok (.iaload, 1) := by decide +kernel
theorem d_law_law_313 : decode b_law_law 313 = .ok (.invokevirtual 59, 3) := by decide +kernel
theorem d_law_law_316 : decode b_law_law 316 = .ok (.if_icmp .eq 154, 3) := by decide +kernel
theorem d_law_law_319 : decode b_law_law 319 = .ok (.iconst 0, 1) := by decide +kernel
theorem d_law_law_320 : decode b_law_law 320 = .ok (.ireturn, 1) := by decide +kernel
theorem d_law_law_321 : decode b_law_law 321 = .ok (.aload_n 1, 1) := by decide +kernel
theorem d_law_law_322 : decode b_law_law 322 = .ok (.aload_n 0, 1) := by decide +kernel
theorem d_law_law_323 : decode b_law_law 323 = .ok (.iload_n 3, 1) := by decide +kernel
theorem d_law_law_324 : decode b_law_law 324 = .ok (.iconst 1, 1) := by decide +kernel
theorem d_law_law_325 : decode b_law_law 325 = .ok (.iadd, 1) := by decide +kernel
theorem d_law_law_326 : decode b_law_law 326 = .ok (.iaload, 1) := by decide +kernel
theorem d_law_law_327 : decode b_law_law 327 = .ok (.invokevirtual 60, 3) := by decide +kernel
theorem d_law_law_330 : decode b_law_law 330 = .ok (.aload_n 2, 1) := by decide +kernel
theorem d_law_law_331 : decode b_law_law 331 = .ok (.aload_n 0, 1) := by decide +kernel
theorem d_law_law_332 : decode b_law_law 332 = .ok (.iload_n 3, 1) := by decide +kernel
theorem d_law_law_333 : decode b_law_law 333 = .ok (.iconst 1, 1) := by decide +kernel
theorem d_law_law_334 : decode b_law_law 334 = .ok (.iadd, 1) := by decide +kernel
theorem d_law_law_335 : decode b_law_law 335 = .ok (.iaload, 1) := by decide +kernel
theorem d_law_law_336 : decode b_law_law 336 = .ok (.invokevirtual 64, 3) := by decide +kernel
theorem d_law_law_339 : decode b_law_law 339 = .ok (.if_icmp .eq 131, 3) := by decide +kernel
theorem d_law_law_342 : decode b_law_law 342 = .ok (.iconst 0, 1) := by decide +kernel
theorem d_law_law_343 : decode b_law_law 343 = .ok (.ireturn, 1) := by decide +kernel
theorem d_law_law_344 : decode b_law_law 344 = .ok (.aload_n 1, 1) := by decide +kernel
theorem d_law_law_345 : decode b_law_law 345 = .ok (.aload_n 0, 1) := by decide +kernel
theorem d_law_law_346 : decode b_law_law 346 = .ok (.iload_n 3, 1) := by decide +kernel
theorem d_law_law_347 : decode b_law_law 347 = .ok (.iconst 1, 1) := by decide +kernel
theorem d_law_law_348 : decode b_law_law 348 = .ok (.iadd, 1) := by decide +kernel
theorem d_law_law_349 : decode b_law_law 349 = .ok (.iaload, 1) := by decide +kernel
theorem d_law_law_350 : decode b_law_law 350 = .ok (.invokevirtual 65, 3) := by decide +kernel
theorem d_law_law_353 : decode b_law_law 353 = .ok (.aload_n 2, 1) := by decide +kernel
theorem d_law_law_354 : decode b_law_law 354 = .ok (.aload_n 0, 1) := by decide +kernel
theorem d_law_law_355 : decode b_law_law 355 = .ok (.iload_n 3, 1) := by decide +kernel
theorem d_law_law_356 : decode b_law_law 356 = .ok (.iconst 1, 1) := by decide +kernel
theorem d_law_law_357 : decode b_law_law 357 = .ok (.iadd, 1) := by decide +kernel
theorem d_law_law_358 : decode b_law_law 358 = .ok (.iaload, 1) := by decide +kernel
theorem d_law_law_359 : decode b_law_law 359 = .ok (.invokevirtual 68, 3) := by decide +kernel
theorem d_law_law_362 : decode b_law_law 362 = .ok (.if_icmp .eq 108, 3) := by decide +kernel
theorem d_law_law_365 : decode b_law_law 365 = .ok (.iconst 0, 1) := by decide +kernel
theorem d_law_law_366 : decode b_law_law 366 = .ok (.ireturn, 1) := by decide +kernel
theorem d_law_law_367 : decode b_law_law 367 = .ok (.aload_n 1, 1) := by decide +kernel
theorem d_law_law_368 : decode b_law_law 368 = .ok (.invokevirtual 69, 3) := by decide +kernel
theorem d_law_law_371 : decode b_law_law 371 = .ok (.aload_n 2, 1) := by decide +kernel
theorem d_law_law_372 : decode b_law_law 372 = .ok (.invokevirtual 72, 3) := by decide +kernel
theorem d_law_law_375 : decode b_law_law 375 = .ok (.if_icmp .eq 95, 3) := by decide +kernel
theorem d_law_law_378 : decode b_law_law 378 = .ok (.iconst 0, 1) := by decide +kernel
theorem d_law_law_379 : decode b_law_law 379 = .ok (.ireturn, 1) := by decide +kernel
theorem d_law_law_380 : decode b_law_law 380 = .ok (.aload_n 1, 1) := by decide +kernel
theorem d_law_law_381 : decode b_law_law 381 = .ok (.aload_n 0, 1) := by decide +kernel
theorem d_law_law_382 : decode b_law_law 382 = .ok (.iload_n 3, 1) := by decide +kernel
theorem d_law_law_383 : decode b_law_law 383 = .ok (.iconst 1, 1) := by decide +kernel
theorem d_law_law_384 : decode b_law_law 384 = .ok (.iadd, 1) := by decide +kernel
theorem d_law_law_385 : decode b_law_law 385 = .ok (.iaload, 1) := by decide +kernel
theorem d_law_law_386 : decode b_law_law 386 = .ok (.invokevirtual 73, 3) := by decide +kernel
theorem d_law_law_389 : decode b_law_law 389 = .ok (.aload_n 2, 1) := by decide +kernel
theorem d_law_law_390 : decode b_law_law 390 = .ok (.aload_n 0, 1) := by decide +kernel
theorem d_law_law_391 : decode b_law_law 391 = .ok (.iload_n 3, 1) := by decide +kernel
theorem d_law_law_392 : decode b_law_law 392 = .ok (.iconst 1, 1) := by decide +kernel
theorem d_law_law_393 : decode b_law_law 393 = .ok (.iadd, 1) := by decide +kernel
theorem d_law_law_394 : decode b_law_law 394 = .ok (.iaload, 1) := by decide +kernel
theorem d_law_law_395 : decode b_law_law 395 = .ok (.invokevirtual 76, 3) := by decide +kernel
theorem d_law_law_398 : decode b_law_law 398 = .ok (.lcmp, 1) := by decide +kernel
theorem d_law_law_399 : decode b_law_law 399 = .ok (.ifCond .eq 71, 3) := by decide +kernel
theorem d_law_law_402 : decode b_law_law 402 = .ok (.iconst 0, 1) := by decide +kernel
theorem d_law_law_403 : decode b_law_law 403 = .ok (.ireturn, 1) := by decide +kernel
theorem d_law_law_404 : decode b_law_law 404 = .ok (.aload_n 1, 1) := by decide +kernel
theorem d_law_law_405 : decode b_law_law 405 = .ok (.aload_n 0, 1) := by decide +kernel
theorem d_law_law_406 : decode b_law_law 406 = .ok (.iload_n 3, 1) := by decide +kernel
theorem d_law_law_407 : decode b_law_law 407 = .ok (.iconst 1, 1) := by decide +kernel
theorem d_law_law_408 : decode b_law_law 408 = .ok (.iadd, 1) := by decide +kernel
theorem d_law_law_409 : decode b_law_law 409 = .ok (.iaload, 1) := by decide +kernel
theorem d_law_law_410 : decode b_law_law 410 = .ok (.aload_n 0, 1) := by decide +kernel
theorem d_law_law_411 : decode b_law_law 411 = .ok (.iload_n 3, 1) := by decide +kernel
theorem d_law_law_412 : decode b_law_law 412 = .ok (.iconst 2, 1) := by decide +kernel
theorem d_law_law_413 : decode b_law_law 413 = .ok (.iadd, 1) := by decide +kernel
theorem d_law_law_414 : decode b_law_law 414 = .ok (.iaload, 1) := by decide +kernel
theorem d_law_law_415 : decode b_law_law 415 = .ok (.invokevirtual 77, 3) := by decide +kernel
theorem d_law_law_418 : decode b_law_law 418 = .ok (.aload_n 2, 1) := by decide +kernel
theorem d_law_law_419 : decode b_law_law 419 = .ok (.aload_n 0, 1) := by decide +kernel
theorem d_law_law_420 : decode b_law_law 420 = .ok (.iload_n 3, 1) := by decide +kernel
theorem d_law_law_421 : decode b_law_law 421 = .ok (.iconst 1, 1) := by decide +kernel
theorem d_law_law_422 : decode b_law_law 422 = .ok (.iadd, 1) := by decide +kernel
theorem d_law_law_423 : decode b_law_law 423 = .ok (.iaload, 1) := by decide +kernel
theorem d_law_law_424 : decode b_law_law 424 = .ok (.aload_n 0, 1) := by decide +kernel
theorem d_law_law_425 : decode b_law_law 425 = .ok (.iload_n 3, 1) := by decide +kernel
theorem d_law_law_426 : decode b_law_law 426 = .ok (.iconst 2, 1) := by decide +kernel
theorem d_law_law_427 : decode b_law_law 427 = .ok (.iadd, 1) := by decide +kernel
theorem d_law_law_428 : decode b_law_law 428 = .ok (.iaload, 1) := by decide +kernel
theorem d_law_law_429 : decode b_law_law 429 = .ok (.invokevirtual 81, 3) := by decide +kernel
theorem d_law_law_432 : decode b_law_law 432 = .ok (.if_icmp .eq 38, 3) := by decide +kernel
theorem d_law_law_435 : decode b_law_law 435 = .ok (.iconst 0, 1) := by decide +kernel
