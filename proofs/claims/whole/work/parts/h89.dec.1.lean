theorem d_Law_law_0 : decode code 0 = .ok (.new 8, 3) := by decide +kernel
theorem d_Law_law_3 : decode code 3 = .ok (.dup, 1) := by decide +kernel
theorem d_Law_law_4 : decode code 4 = .ok (.invokespecial 68, 3) := by decide +kernel
theorem d_Law_law_7 : decode code 7 = .ok (.astore_n 1, 1) := by decide +kernel
theorem d_Law_law_8 : decode code 8 = .ok (.new 69, 3) := by decide +kernel
theorem d_Law_law_11 : decode code 11 = .ok (.dup, 1) := by decide +kernel
theorem d_Law_law_12 : decode code 12 = .ok (.invokespecial 71, 3) := by decide +kernel
theorem d_Law_law_15 : decode code 15 = .ok (.astore_n 2, 1) := by decide +kernel
theorem d_Law_law_16 : decode code 16 = .ok (.iconst 1, 1) := by decide +kernel
theorem d_Law_law_17 : decode code 17 = .ok (.newarray .long, 2) := by decide +kernel
theorem d_Law_law_19 : decode code 19 = .ok (.astore_n 3, 1) := by decide +kernel
theorem d_Law_law_20 : decode code 20 = .ok (.iconst 0, 1) := by decide +kernel
theorem d_Law_law_21 : decode code 21 = .ok (.istore 4, 2) := by decide +kernel
theorem d_Law_law_23 : decode code 23 = .ok (.iload 4, 2) := by decide +kernel
theorem d_Law_law_25 : decode code 25 = .ok (.aload_n 0, 1) := by decide +kernel
theorem d_Law_law_26 : decode code 26 = .ok (.arraylength, 1) := by decide +kernel
theorem d_Law_law_27 : decode code 27 = .ok (.iconst 4, 1) := by decide +kernel
theorem d_Law_law_28 : decode code 28 = .ok (.isub, 1) := by decide +kernel
theorem d_Law_law_29 : decode code 29 = .ok (.if_icmp .gt 1240, 3) := by decide +kernel
theorem d_Law_law_32 : decode code 32 = .ok (.aload_n 0, 1) := by decide +kernel
theorem d_Law_law_33 : decode code 33 = .ok (.iload 4, 2) := by decide +kernel
theorem d_Law_law_35 : decode code 35 = .ok (.iaload, 1) := by decide +kernel
theorem d_Law_law_36 : decode code 36 = .ok (.bipush 31, 2) := by decide +kernel
theorem d_Law_law_38 : decode code 38 = .ok (.iand, 1) := by decide +kernel
theorem d_Law_law_39 : decode code 39 = .ok (.tableswitch 1224 0 26 #[121, 177, 245, 301, 357, 370, 383, 451, 464, 477, 490, 546, 590, 665, 678, 741, 754, 767, 830, 893, 906, 962, 1042, 1110, 1185, 1198, 1211], 121) := by decide +kernel
theorem d_Law_law_160 : decode code 160 = .ok (.aload_n 1, 1) := by decide +kernel
theorem d_Law_law_161 : decode code 161 = .ok (.aload_n 0, 1) := by decide +kernel
theorem d_Law_law_162 : decode code 162 = .ok (.iload 4, 2) := by decide +kernel
theorem d_Law_law_164 : decode code 164 = .ok (.iconst 1, 1) := by decide +kernel
theorem d_Law_law_165 : decode code 165 = .ok (.iadd, 1) := by decide +kernel
theorem d_Law_law_166 : decode code 166 = .ok (.iaload, 1) := by decide +kernel
theorem d_Law_law_167 : decode code 167 = .ok (.aload_n 3, 1) := by decide +kernel
theorem d_Law_law_168 : decode code 168 = .ok (.invokestatic 72, 3) := by decide +kernel
theorem d_Law_law_171 : decode code 171 = .ok (.istore 5, 2) := by decide +kernel
theorem d_Law_law_173 : decode code 173 = .ok (.aload_n 2, 1) := by decide +kernel
theorem d_Law_law_174 : decode code 174 = .ok (.aload_n 0, 1) := by decide +kernel
theorem d_Law_law_175 : decode code 175 = .ok (.iload 4, 2) := by decide +kernel
theorem d_Law_law_177 : decode code 177 = .ok (.iconst 1, 1) := by decide +kernel
theorem d_Law_law_178 : decode code 178 = .ok (.iadd, 1) := by decide +kernel
theorem d_Law_law_179 : decode code 179 = .ok (.iaload, 1) := by decide +kernel
theorem d_Law_law_180 : decode code 180 = .ok (.invokevirtual 77, 3) := by decide +kernel
theorem d_Law_law_183 : decode code 183 = .ok (.istore 6, 2) := by decide +kernel
theorem d_Law_law_185 : decode code 185 = .ok (.aload_n 2, 1) := by decide +kernel
theorem d_Law_law_186 : decode code 186 = .ok (.invokevirtual 78, 3) := by decide +kernel
theorem d_Law_law_189 : decode code 189 = .ok (.iload 5, 2) := by decide +kernel
theorem d_Law_law_191 : decode code 191 = .ok (.if_icmp .eq 5, 3) := by decide +kernel
theorem d_Law_law_196 : decode code 196 = .ok (.iload 5, 2) := by decide +kernel
theorem d_Law_law_198 : decode code 198 = .ok (.ifCond .ne 15, 3) := by decide +kernel
theorem d_Law_law_201 : decode code 201 = .ok (.aload_n 3, 1) := by decide +kernel
theorem d_Law_law_202 : decode code 202 = .ok (.iconst 0, 1) := by decide +kernel
theorem d_Law_law_203 : decode code 203 = .ok (.laload, 1) := by decide +kernel
theorem d_Law_law_204 : decode code 204 = .ok (.iload 6, 2) := by decide +kernel
theorem d_Law_law_206 : decode code 206 = .ok (.i2l, 1) := by decide +kernel
theorem d_Law_law_207 : decode code 207 = .ok (.lcmp, 1) := by decide +kernel
theorem d_Law_law_208 : decode code 208 = .ok (.ifCond .eq 5, 3) := by decide +kernel
theorem d_Law_law_213 : decode code 213 = .ok (.goto 1050, 3) := by decide +kernel
theorem d_Law_law_216 : decode code 216 = .ok (.aload_n 1, 1) := by decide +kernel
theorem d_Law_law_217 : decode code 217 = .ok (.aload_n 0, 1) := by decide +kernel
theorem d_Law_law_218 : decode code 218 = .ok (.iload 4, 2) := by decide +kernel
theorem d_Law_law_220 : decode code 220 = .ok (.iconst 1, 1) := by decide +kernel
theorem d_Law_law_221 : decode code 221 = .ok (.iadd, 1) := by decide +kernel
theorem d_Law_law_222 : decode code 222 = .ok (.iaload, 1) := by decide +kernel
theorem d_Law_law_223 : decode code 223 = .ok (.aload_n 0, 1) := by decide +kernel
theorem d_Law_law_224 : decode code 224 = .ok (.iload 4, 2) := by decide +kernel
theorem d_Law_law_226 : decode code 226 = .ok (.iconst 2, 1) := by decide +kernel
theorem d_Law_law_227 : decode code 227 = .ok (.iadd, 1) := by decide +kernel
theorem d_Law_law_228 : decode code 228 = .ok (.iaload, 1) := by decide +kernel
theorem d_Law_law_229 : decode code 229 = .ok (.aload_n 3, 1) := by decide +kernel
theorem d_Law_law_230 : decode code 230 = .ok (.invokestatic 81, 3) := by decide +kernel
theorem d_Law_law_233 : decode code 233 = .ok (.istore 5, 2) := by decide +kernel
theorem d_Law_law_235 : decode code 235 = .ok (.aload_n 2, 1) := by decide +kernel
theorem d_Law_law_236 : decode code 236 = .ok (.aload_n 0, 1) := by decide +kernel
theorem d_Law_law_237 : decode code 237 = .ok (.iload 4, 2) := by decide +kernel
theorem d_Law_law_239 : decode code 239 = .ok (.iconst 1, 1) := by decide +kernel
theorem d_Law_law_240 : decode code 240 = .ok (.iadd, 1) := by decide +kernel
theorem d_Law_law_241 : decode code 241 = .ok (.iaload, 1) := by decide +kernel
theorem d_Law_law_242 : decode code 242 = .ok (.aload_n 0, 1) := by decide +kernel
theorem d_Law_law_243 : decode code 243 = .ok (.iload 4, 2) := by decide +kernel
theorem d_Law_law_245 : decode code 245 = .ok (.iconst 2, 1) := by decide +kernel
theorem d_Law_law_246 : decode code 246 = .ok (.iadd, 1) := by decide +kernel
theorem d_Law_law_247 : decode code 247 = .ok (.iaload, 1) := by decide +kernel
theorem d_Law_law_248 : decode code 248 = .ok (.invokevirtual 84, 3) := by decide +kernel
theorem d_Law_law_251 : decode code 251 = .ok (.istore 6, 2) := by decide +kernel
theorem d_Law_law_253 : decode code 253 = .ok (.aload_n 2, 1) := by decide +kernel
theorem d_Law_law_254 : decode code 254 = .ok (.invokevirtual 78, 3) := by decide +kernel
theorem d_Law_law_257 : decode code 257 = .ok (.iload 5, 2) := by decide +kernel
theorem d_Law_law_259 : decode code 259 = .ok (.if_icmp .eq 5, 3) := by decide +kernel
theorem d_Law_law_264 : decode code 264 = .ok (.iload 5, 2) := by decide +kernel
theorem d_Law_law_266 : decode code 266 = .ok (.ifCond .ne 15, 3) := by decide +kernel
theorem d_Law_law_269 : decode code 269 = .ok (.aload_n 3, 1) := by decide +kernel
theorem d_Law_law_270 : decode code 270 = .ok (.iconst 0, 1) := by decide +kernel
theorem d_Law_law_271 : decode code 271 = .ok (.laload, 1) := by decide +kernel
theorem d_Law_law_272 : decode code 272 = .ok (.iload 6, 2) := by decide +kernel
theorem d_Law_law_274 : decode code 274 = .ok (.i2l, 1) := by decide +kernel
theorem d_Law_law_275 : decode code 275 = .ok (.lcmp, 1) := by decide +kernel
theorem d_Law_law_276 : decode code 276 = .ok (.ifCond .eq 5, 3) := by decide +kernel
theorem d_Law_law_281 : decode code 281 = .ok (.goto 982, 3) := by decide +kernel
theorem d_Law_law_284 : decode code 284 = .ok (.aload_n 1, 1) := by decide +kernel
theorem d_Law_law_285 : decode code 285 = .ok (.aload_n 0, 1) := by decide +kernel
theorem d_Law_law_286 : decode code 286 = .ok (.iload 4, 2) := by decide +kernel
theorem d_Law_law_288 : decode code 288 = .ok (.iconst 1, 1) := by decide +kernel
theorem d_Law_law_289 : decode code 289 = .ok (.iadd, 1) := by decide +kernel
theorem d_Law_law_290 : decode code 290 = .ok (.iaload, 1) := by decide +kernel
theorem d_Law_law_291 : decode code 291 = .ok (.aload_n 3, 1) := by decide +kernel
theorem d_Law_law_292 : decode code 292 = .ok (.invokestatic 85, 3) := by decide +kernel
theorem d_Law_law_295 : decode code 295 = .ok (.istore 5, 2) := by decide +kernel
theorem d_Law_law_297 : decode code 297 = .ok (.aload_n 2, 1) := by decide +kernel
theorem d_Law_law_298 : decode code 298 = .ok (.aload_n 0, 1) := by decide +kernel
theorem d_Law_law_299 : decode code 299 = .ok (.iload 4, 2) := by decide +kernel
theorem d_Law_law_301 : decode code 301 = .ok (.iconst 1, 1) := by decide +kernel
theorem d_Law_law_302 : decode code 302 = .ok (.iadd, 1) := by decide +kernel
theorem d_Law_law_303 : decode code 303 = .ok (.iaload, 1) := by decide +kernel
theorem d_Law_law_304 : decode code 304 = .ok (.invokevirtual 87, 3) := by decide +kernel
theorem d_Law_law_307 : decode code 307 = .ok (.istore 6, 2) := by decide +kernel
theorem d_Law_law_309 : decode code 309 = .ok (.aload_n 2, 1) := by decide +kernel
theorem d_Law_law_310 : decode code 310 = .ok (.invokevirtual 78, 3) := by decide +kernel
theorem d_Law_law_313 : decode code 313 = .ok (.iload 5, 2) := by decide +kernel
theorem d_Law_law_315 : decode code 315 = .ok (.if_icmp .eq 5, 3) := by decide +kernel
theorem d_Law_law_320 : decode code 320 = .ok (.iload 5, 2) := by decide +kernel
theorem d_Law_law_322 : decode code 322 = .ok (.ifCond .ne 15, 3) := by decide +kernel
theorem d_Law_law_325 : decode code 325 = .ok (.aload_n 3, 1) := by decide +kernel
theorem d_Law_law_326 : decode code 326 = .ok (.iconst 0, 1) := by decide +kernel
theorem d_Law_law_327 : decode code 327 = .ok (.laload, 1) := by decide +kernel
theorem d_Law_law_328 : decode code 328 = .ok (.iload 6, 2) := by decide +kernel
theorem d_Law_law_330 : decode code 330 = .ok (.i2l, 1) := by decide +kernel
theorem d_Law_law_331 : decode code 331 = .ok (.lcmp, 1) := by decide +kernel
theorem d_Law_law_332 : decode code 332 = .ok (.ifCond .eq 5, 3) := by decide +kernel
theorem d_Law_law_337 : decode code 337 = .ok (.goto 926, 3) := by decide +kernel
theorem d_Law_law_340 : decode code 340 = .ok (.aload_n 1, 1) := by decide +kernel
theorem d_Law_law_341 : decode code 341 = .ok (.aload_n 0, 1) := by decide +kernel
theorem d_Law_law_342 : decode code 342 = .ok (.iload 4, 2) := by decide +kernel
theorem d_Law_law_344 : decode code 344 = .ok (.iconst 1, 1) := by decide +kernel
theorem d_Law_law_345 : decode code 345 = .ok (.iadd, 1) := by decide +kernel
theorem d_Law_law_346 : decode code 346 = .ok (.iaload, 1) := by decide +kernel
theorem d_Law_law_347 : decode code 347 = .ok (.aload_n 3, 1) := by decide +kernel
theorem d_Law_law_348 : decode code 348 = .ok (.invokestatic 88, 3) := by decide +kernel
theorem d_Law_law_351 : decode code 351 = .ok (.istore 5, 2) := by decide +kernel
theorem d_Law_law_353 : decode code 353 = .ok (.aload_n 2, 1) := by decide +kernel
theorem d_Law_law_354 : decode code 354 = .ok (.aload_n 0, 1) := by decide +kernel
theorem d_Law_law_355 : decode code 355 = .ok (.iload 4, 2) := by decide +kernel
theorem d_Law_law_357 : decode code 357 = .ok (.iconst 1, 1) := by decide +kernel
theorem d_Law_law_358 : decode code 358 = .ok (.iadd, 1) := by decide +kernel
theorem d_Law_law_359 : decode code 359 = .ok (.iaload, 1) := by decide +kernel
theorem d_Law_law_360 : decode code 360 = .ok (.invokevirtual 90, 3) := by decide +kernel
theorem d_Law_law_363 : decode code 363 = .ok (.istore 6, 2) := by decide +kernel
theorem d_Law_law_365 : decode code 365 = .ok (.aload_n 2, 1) := by decide +kernel
theorem d_Law_law_366 : decode code 366 = .ok (.invokevirtual 78, 3) := by decide +kernel
theorem d_Law_law_369 : decode code 369 = .ok (.iload 5, 2) := by decide +kernel
theorem d_Law_law_371 : decode code 371 = .ok (.if_icmp .eq 5, 3) := by decide +kernel
theorem d_Law_law_376 : decode code 376 = .ok (.iload 5, 2) := by decide +kernel
theorem d_Law_law_378 : decode code 378 = .ok (.ifCond .ne 15, 3) := by decide +kernel
theorem d_Law_law_381 : decode code 381 = .ok (.aload_n 3, 1) := by decide +kernel
theorem d_Law_law_382 : decode code 382 = .ok (.iconst 0, 1) := by decide +kernel
theorem d_Law_law_383 : decode code 383 = .ok (.laload, 1) := by decide +kernel
theorem d_Law_law_384 : decode code 384 = .ok (.iload 6, 2) := by decide +kernel
theorem d_Law_law_386 : decode code 386 = .ok (.i2l, 1) := by decide +kernel
theorem d_Law_law_387 : decode code 387 = .ok (.lcmp, 1) := by decide +kernel
theorem d_Law_law_388 : decode code 388 = .ok (.ifCond .eq 5, 3) := by decide +kernel
theorem d_Law_law_393 : decode code 393 = .ok (.goto 870, 3) := by decide +kernel
theorem d_Law_law_396 : decode code 396 = .ok (.aload_n 1, 1) := by decide +kernel
theorem d_Law_law_397 : decode code 397 = .ok (.invokevirtual 91, 3) := by decide +kernel
theorem d_Law_law_400 : decode code 400 = .ok (.aload_n 2, 1) := by decide +kernel
theorem d_Law_law_401 : decode code 401 = .ok (.invokevirtual 94, 3) := by decide +kernel
theorem d_Law_law_404 : decode code 404 = .ok (.if_icmp .eq 859, 3) := by decide +kernel
theorem d_Law_law_409 : decode code 409 = .ok (.aload_n 1, 1) := by decide +kernel
theorem d_Law_law_410 : decode code 410 = .ok (.invokevirtual 95, 3) := by decide +kernel
theorem d_Law_law_413 : decode code 413 = .ok (.aload_n 2, 1) := by decide +kernel
theorem d_Law_law_414 : decode code 414 = .ok (.invokevirtual 98, 3) := by decide +kernel
theorem d_Law_law_417 : decode code 417 = .ok (.if_icmp .eq 846, 3) := by decide +kernel
theorem d_Law_law_422 : decode code 422 = .ok (.aload_n 1, 1) := by decide +kernel
theorem d_Law_law_423 : decode code 423 = .ok (.aload_n 0, 1) := by decide +kernel
theorem d_Law_law_424 : decode code 424 = .ok (.iload 4, 2) := by decide +kernel
theorem d_Law_law_426 : decode code 426 = .ok (.iconst 1, 1) := by decide +kernel
theorem d_Law_law_427 : decode code 427 = .ok (.iadd, 1) := by decide +kernel
theorem d_Law_law_428 : decode code 428 = .ok (.iaload, 1) := by decide +kernel
theorem d_Law_law_429 : decode code 429 = .ok (.aload_n 0, 1) := by decide +kernel
theorem d_Law_law_430 : decode code 430 = .ok (.iload 4, 2) := by decide +kernel
theorem d_Law_law_432 : decode code 432 = .ok (.iconst 2, 1) := by decide +kernel
theorem d_Law_law_433 : decode code 433 = .ok (.iadd, 1) := by decide +kernel
theorem d_Law_law_434 : decode code 434 = .ok (.iaload, 1) := by decide +kernel
theorem d_Law_law_435 : decode code 435 = .ok (.aload_n 3, 1) := by decide +kernel
theorem d_Law_law_436 : decode code 436 = .ok (.invokestatic 99, 3) := by decide +kernel
theorem d_Law_law_439 : decode code 439 = .ok (.istore 5, 2) := by decide +kernel
theorem d_Law_law_441 : decode code 441 = .ok (.aload_n 2, 1) := by decide +kernel
theorem d_Law_law_442 : decode code 442 = .ok (.aload_n 0, 1) := by decide +kernel
theorem d_Law_law_443 : decode code 443 = .ok (.iload 4, 2) := by decide +kernel
theorem d_Law_law_445 : decode code 445 = .ok (.iconst 1, 1) := by decide +kernel
theorem d_Law_law_446 : decode code 446 = .ok (.iadd, 1) := by decide +kernel
theorem d_Law_law_447 : decode code 447 = .ok (.iaload, 1) := by decide +kernel
theorem d_Law_law_448 : decode code 448 = .ok (.aload_n 0, 1) := by decide +kernel
theorem d_Law_law_449 : decode code 449 = .ok (.iload 4, 2) := by decide +kernel
theorem d_Law_law_451 : decode code 451 = .ok (.iconst 2, 1) := by decide +kernel
theorem d_Law_law_452 : decode code 452 = .ok (.iadd, 1) := by decide +kernel
theorem d_Law_law_453 : decode code 453 = .ok (.iaload, 1) := by decide +kernel
theorem d_Law_law_454 : decode code 454 = .ok (.invokevirtual 101, 3) := by decide +kernel
theorem d_Law_law_457 : decode code 457 = .ok (.istore 6, 2) := by decide +kernel
theorem d_Law_law_459 : decode code 459 = .ok (.aload_n 2, 1) := by decide +kernel
theorem d_Law_law_460 : decode code 460 = .ok (.invokevirtual 78, 3) := by decide +kernel
theorem d_Law_law_463 : decode code 463 = .ok (.iload 5, 2) := by decide +kernel
theorem d_Law_law_465 : decode code 465 = .ok (.if_icmp .eq 5, 3) := by decide +kernel
theorem d_Law_law_470 : decode code 470 = .ok (.iload 5, 2) := by decide +kernel
theorem d_Law_law_472 : decode code 472 = .ok (.ifCond .ne 15, 3) := by decide +kernel
theorem d_Law_law_475 : decode code 475 = .ok (.aload_n 3, 1) := by decide +kernel
theorem d_Law_law_476 : decode code 476 = .ok (.iconst 0, 1) := by decide +kernel
theorem d_Law_law_477 : decode code 477 = .ok (.laload, 1) := by decide +kernel
theorem d_Law_law_478 : decode code 478 = .ok (.iload 6, 2) := by decide +kernel
theorem d_Law_law_480 : decode code 480 = .ok (.i2l, 1) := by decide +kernel
theorem d_Law_law_481 : decode code 481 = .ok (.lcmp, 1) := by decide +kernel
theorem d_Law_law_482 : decode code 482 = .ok (.ifCond .eq 5, 3) := by decide +kernel
theorem d_Law_law_487 : decode code 487 = .ok (.goto 776, 3) := by decide +kernel
theorem d_Law_law_490 : decode code 490 = .ok (.aload_n 1, 1) := by decide +kernel
theorem d_Law_law_491 : decode code 491 = .ok (.invokevirtual 102, 3) := by decide +kernel
theorem d_Law_law_494 : decode code 494 = .ok (.aload_n 2, 1) := by decide +kernel
theorem d_Law_law_495 : decode code 495 = .ok (.invokevirtual 106, 3) := by decide +kernel
theorem d_Law_law_498 : decode code 498 = .ok (.if_icmp .eq 765, 3) := by decide +kernel
theorem d_Law_law_503 : decode code 503 = .ok (.aload_n 1, 1) := by decide +kernel
theorem d_Law_law_504 : decode code 504 = .ok (.invokevirtual 107, 3) := by decide +kernel
theorem d_Law_law_507 : decode code 507 = .ok (.aload_n 2, 1) := by decide +kernel
theorem d_Law_law_508 : decode code 508 = .ok (.invokevirtual 110, 3) := by decide +kernel
theorem d_Law_law_511 : decode code 511 = .ok (.if_icmp .eq 752, 3) := by decide +kernel
theorem d_Law_law_516 : decode code 516 = .ok (.aload_n 1, 1) := by decide +kernel
theorem d_Law_law_517 : decode code 517 = .ok (.invokevirtual 111, 3) := by decide +kernel
theorem d_Law_law_520 : decode code 520 = .ok (.aload_n 2, 1) := by decide +kernel
theorem d_Law_law_521 : decode code 521 = .ok (.invokevirtual 114, 3) := by decide +kernel
theorem d_Law_law_524 : decode code 524 = .ok (.if_icmp .eq 739, 3) := by decide +kernel
theorem d_Law_law_529 : decode code 529 = .ok (.aload_n 1, 1) := by decide +kernel
theorem d_Law_law_530 : decode code 530 = .ok (.aload_n 0, 1) := by decide +kernel
theorem d_Law_law_531 : decode code 531 = .ok (.iload 4, 2) := by decide +kernel
theorem d_Law_law_533 : decode code 533 = .ok (.iconst 1, 1) := by decide +kernel
theorem d_Law_law_534 : decode code 534 = .ok (.iadd, 1) := by decide +kernel
theorem d_Law_law_535 : decode code 535 = .ok (.iaload, 1) := by decide +kernel
theorem d_Law_law_536 : decode code 536 = .ok (.aload_n 3, 1) := by decide +kernel
theorem d_Law_law_537 : decode code 537 = .ok (.invokestatic 115, 3) := by decide +kernel
theorem d_Law_law_540 : decode code 540 = .ok (.istore 5, 2) := by decide +kernel
theorem d_Law_law_542 : decode code 542 = .ok (.aload_n 2, 1) := by decide +kernel
theorem d_Law_law_543 : decode code 543 = .ok (.aload_n 0, 1) := by decide +kernel
theorem d_Law_law_544 : decode code 544 = .ok (.iload 4, 2) := by decide +kernel
theorem d_Law_law_546 : decode code 546 = .ok (.iconst 1, 1) := by decide +kernel
theorem d_Law_law_547 : decode code 547 = .ok (.iadd, 1) := by decide +kernel
theorem d_Law_law_548 : decode code 548 = .ok (.iaload, 1) := by decide +kernel
theorem d_Law_law_549 : decode code 549 = .ok (.invokevirtual 117, 3) := by decide +kernel
theorem d_Law_law_552 : decode code 552 = .ok (.istore 6, 2) := by decide +kernel
theorem d_Law_law_554 : decode code 554 = .ok (.aload_n 2, 1) := by decide +kernel
theorem d_Law_law_555 : decode code 555 = .ok (.invokevirtual 78, 3) := by decide +kernel
theorem d_Law_law_558 : decode code 558 = .ok (.iload 5, 2) := by decide +kernel
theorem d_Law_law_560 : decode code 560 = .ok (.if_icmp .eq 5, 3) := by decide +kernel
theorem d_Law_law_565 : decode code 565 = .ok (.iload 5, 2) := by decide +kernel
theorem d_Law_law_567 : decode code 567 = .ok (.ifCond .ne 15, 3) := by decide +kernel
theorem d_Law_law_570 : decode code 570 = .ok (.aload_n 3, 1) := by decide +kernel
theorem d_Law_law_571 : decode code 571 = .ok (.iconst 0, 1) := by decide +kernel
