theorem dX0_init_0 : decode cX0_init 0 = .ok (.aload_n 0, 1) := by decide +kernel
theorem dX0_init_1 : decode cX0_init 1 = .ok (.invokespecial 3, 3) := by decide +kernel
theorem dX0_init_4 : decode cX0_init 4 = .ok (.aload_n 0, 1) := by decide +kernel
theorem dX0_init_5 : decode cX0_init 5 = .ok (.bipush 30, 2) := by decide +kernel
theorem dX0_init_7 : decode cX0_init 7 = .ok (.newarray .int, 2) := by decide +kernel
theorem dX0_init_9 : decode cX0_init 9 = .ok (.putfield 9, 3) := by decide +kernel
theorem dX0_init_12 : decode cX0_init 12 = .ok (.return_, 1) := by decide +kernel
theorem dX0_perform_0 : decode cX0_perform 0 = .ok (.aload_n 0, 1) := by decide +kernel
theorem dX0_perform_1 : decode cX0_perform 1 = .ok (.iload_n 1, 1) := by decide +kernel
theorem dX0_perform_2 : decode cX0_perform 2 = .ok (.putfield 15, 3) := by decide +kernel
theorem dX0_perform_5 : decode cX0_perform 5 = .ok (.aload_n 0, 1) := by decide +kernel
theorem dX0_perform_6 : decode cX0_perform 6 = .ok (.iload_n 2, 1) := by decide +kernel
theorem dX0_perform_7 : decode cX0_perform 7 = .ok (.putfield 19, 3) := by decide +kernel
theorem dX0_perform_10 : decode cX0_perform 10 = .ok (.aload_n 0, 1) := by decide +kernel
theorem dX0_perform_11 : decode cX0_perform 11 = .ok (.iload_n 3, 1) := by decide +kernel
theorem dX0_perform_12 : decode cX0_perform 12 = .ok (.putfield 22, 3) := by decide +kernel
theorem dX0_perform_15 : decode cX0_perform 15 = .ok (.aload_n 0, 1) := by decide +kernel
theorem dX0_perform_16 : decode cX0_perform 16 = .ok (.iconst 0, 1) := by decide +kernel
theorem dX0_perform_17 : decode cX0_perform 17 = .ok (.putfield 25, 3) := by decide +kernel
theorem dX0_perform_20 : decode cX0_perform 20 = .ok (.aload_n 0, 1) := by decide +kernel
theorem dX0_perform_21 : decode cX0_perform 21 = .ok (.aload_n 0, 1) := by decide +kernel
theorem dX0_perform_22 : decode cX0_perform 22 = .ok (.iload 4, 2) := by decide +kernel
theorem dX0_perform_24 : decode cX0_perform 24 = .ok (.invokevirtual 29, 3) := by decide +kernel
theorem dX0_perform_27 : decode cX0_perform 27 = .ok (.iload 5, 2) := by decide +kernel
theorem dX0_perform_29 : decode cX0_perform 29 = .ok (.iconst 0, 1) := by decide +kernel
theorem dX0_perform_30 : decode cX0_perform 30 = .ok (.invokevirtual 33, 3) := by decide +kernel
theorem dX0_perform_33 : decode cX0_perform 33 = .ok (.istore 6, 2) := by decide +kernel
theorem dX0_perform_35 : decode cX0_perform 35 = .ok (.aload_n 0, 1) := by decide +kernel
theorem dX0_perform_36 : decode cX0_perform 36 = .ok (.getfield 25, 3) := by decide +kernel
theorem dX0_perform_39 : decode cX0_perform 39 = .ok (.ifCond .eq 8, 3) := by decide +kernel
theorem dX0_perform_42 : decode cX0_perform 42 = .ok (.bipush (-15), 2) := by decide +kernel
theorem dX0_perform_44 : decode cX0_perform 44 = .ok (.goto 5, 3) := by decide +kernel
theorem dX0_perform_47 : decode cX0_perform 47 = .ok (.iload 6, 2) := by decide +kernel
theorem dX0_perform_49 : decode cX0_perform 49 = .ok (.ireturn, 1) := by decide +kernel
theorem dX0_own_0 : decode cX0_own 0 = .ok (.getstatic 37, 3) := by decide +kernel
theorem dX0_own_3 : decode cX0_own 3 = .ok (.aload_n 0, 1) := by decide +kernel
theorem dX0_own_4 : decode cX0_own 4 = .ok (.getfield 19, 3) := by decide +kernel
theorem dX0_own_7 : decode cX0_own 7 = .ok (.iconst 4, 1) := by decide +kernel
theorem dX0_own_8 : decode cX0_own 8 = .ok (.imul, 1) := by decide +kernel
theorem dX0_own_9 : decode cX0_own 9 = .ok (.iload_n 1, 1) := by decide +kernel
theorem dX0_own_10 : decode cX0_own 10 = .ok (.iadd, 1) := by decide +kernel
theorem dX0_own_11 : decode cX0_own 11 = .ok (.iaload, 1) := by decide +kernel
theorem dX0_own_12 : decode cX0_own 12 = .ok (.ireturn, 1) := by decide +kernel
theorem dX0_run_0 : decode cX0_run 0 = .ok (.aload_n 0, 1) := by decide +kernel
theorem dX0_run_1 : decode cX0_run 1 = .ok (.getfield 25, 3) := by decide +kernel
theorem dX0_run_4 : decode cX0_run 4 = .ok (.ifCond .ne 9, 3) := by decide +kernel
theorem dX0_run_7 : decode cX0_run 7 = .ok (.iload_n 3, 1) := by decide +kernel
theorem dX0_run_8 : decode cX0_run 8 = .ok (.bipush 40, 2) := by decide +kernel
theorem dX0_run_10 : decode cX0_run 10 = .ok (.if_icmp .le 5, 3) := by decide +kernel
theorem dX0_run_13 : decode cX0_run 13 = .ok (.iconst 0, 1) := by decide +kernel
theorem dX0_run_14 : decode cX0_run 14 = .ok (.ireturn, 1) := by decide +kernel
theorem dX0_run_15 : decode cX0_run 15 = .ok (.aload_n 0, 1) := by decide +kernel
theorem dX0_run_16 : decode cX0_run 16 = .ok (.iload_n 1, 1) := by decide +kernel
theorem dX0_run_17 : decode cX0_run 17 = .ok (.invokevirtual 40, 3) := by decide +kernel
theorem dX0_run_20 : decode cX0_run 20 = .ok (.iload_n 3, 1) := by decide +kernel
theorem dX0_run_21 : decode cX0_run 21 = .ok (.iconst 1, 1) := by decide +kernel
theorem dX0_run_22 : decode cX0_run 22 = .ok (.iadd, 1) := by decide +kernel
theorem dX0_run_23 : decode cX0_run 23 = .ok (.istore 4, 2) := by decide +kernel
theorem dX0_run_25 : decode cX0_run 25 = .ok (.iload_n 1, 1) := by decide +kernel
theorem dX0_run_26 : decode cX0_run 26 = .ok (.tableswitch 430 10 61 #[222, 231, 249, 255, 430, 430, 430, 430, 430, 430, 271, 430, 430, 430, 430, 430, 430, 430, 430, 430, 283, 295, 430, 430, 430, 430, 430, 430, 430, 430, 321, 333, 430, 430, 430, 430, 430, 430, 430, 430, 359, 376, 430, 430, 430, 430, 430, 430, 430, 430, 391, 404], 222) := by decide +kernel
theorem dX0_run_248 : decode cX0_run 248 = .ok (.iload_n 2, 1) := by decide +kernel
theorem dX0_run_249 : decode cX0_run 249 = .ok (.aload_n 0, 1) := by decide +kernel
theorem dX0_run_250 : decode cX0_run 250 = .ok (.getfield 15, 3) := by decide +kernel
theorem dX0_run_253 : decode cX0_run 253 = .ok (.iconst 3, 1) := by decide +kernel
theorem dX0_run_254 : decode cX0_run 254 = .ok (.imul, 1) := by decide +kernel
theorem dX0_run_255 : decode cX0_run 255 = .ok (.iadd, 1) := by decide +kernel
theorem dX0_run_256 : decode cX0_run 256 = .ok (.ireturn, 1) := by decide +kernel
theorem dX0_run_257 : decode cX0_run 257 = .ok (.aload_n 0, 1) := by decide +kernel
theorem dX0_run_258 : decode cX0_run 258 = .ok (.aload_n 0, 1) := by decide +kernel
theorem dX0_run_259 : decode cX0_run 259 = .ok (.iconst 0, 1) := by decide +kernel
theorem dX0_run_260 : decode cX0_run 260 = .ok (.invokevirtual 29, 3) := by decide +kernel
theorem dX0_run_263 : decode cX0_run 263 = .ok (.iload_n 2, 1) := by decide +kernel
theorem dX0_run_264 : decode cX0_run 264 = .ok (.iload 4, 2) := by decide +kernel
theorem dX0_run_266 : decode cX0_run 266 = .ok (.invokevirtual 33, 3) := by decide +kernel
theorem dX0_run_269 : decode cX0_run 269 = .ok (.aload_n 0, 1) := by decide +kernel
theorem dX0_run_270 : decode cX0_run 270 = .ok (.getfield 22, 3) := by decide +kernel
theorem dX0_run_273 : decode cX0_run 273 = .ok (.isub, 1) := by decide +kernel
theorem dX0_run_274 : decode cX0_run 274 = .ok (.ireturn, 1) := by decide +kernel
theorem dX0_run_275 : decode cX0_run 275 = .ok (.aload_n 0, 1) := by decide +kernel
theorem dX0_run_276 : decode cX0_run 276 = .ok (.iload_n 2, 1) := by decide +kernel
theorem dX0_run_277 : decode cX0_run 277 = .ok (.invokevirtual 44, 3) := by decide +kernel
theorem dX0_run_280 : decode cX0_run 280 = .ok (.ireturn, 1) := by decide +kernel
theorem dX0_run_281 : decode cX0_run 281 = .ok (.aload_n 0, 1) := by decide +kernel
theorem dX0_run_282 : decode cX0_run 282 = .ok (.aload_n 0, 1) := by decide +kernel
theorem dX0_run_283 : decode cX0_run 283 = .ok (.iconst 1, 1) := by decide +kernel
theorem dX0_run_284 : decode cX0_run 284 = .ok (.invokevirtual 29, 3) := by decide +kernel
theorem dX0_run_287 : decode cX0_run 287 = .ok (.iload_n 2, 1) := by decide +kernel
theorem dX0_run_288 : decode cX0_run 288 = .ok (.iload 4, 2) := by decide +kernel
theorem dX0_run_290 : decode cX0_run 290 = .ok (.invokevirtual 33, 3) := by decide +kernel
theorem dX0_run_293 : decode cX0_run 293 = .ok (.bipush 9, 2) := by decide +kernel
theorem dX0_run_295 : decode cX0_run 295 = .ok (.ixor, 1) := by decide +kernel
theorem dX0_run_296 : decode cX0_run 296 = .ok (.ireturn, 1) := by decide +kernel
theorem dX0_run_297 : decode cX0_run 297 = .ok (.aload_n 0, 1) := by decide +kernel
theorem dX0_run_298 : decode cX0_run 298 = .ok (.bipush 11, 2) := by decide +kernel
theorem dX0_run_300 : decode cX0_run 300 = .ok (.iload_n 2, 1) := by decide +kernel
theorem dX0_run_301 : decode cX0_run 301 = .ok (.iload 4, 2) := by decide +kernel
theorem dX0_run_303 : decode cX0_run 303 = .ok (.invokevirtual 33, 3) := by decide +kernel
theorem dX0_run_306 : decode cX0_run 306 = .ok (.iconst 2, 1) := by decide +kernel
theorem dX0_run_307 : decode cX0_run 307 = .ok (.imul, 1) := by decide +kernel
theorem dX0_run_308 : decode cX0_run 308 = .ok (.ireturn, 1) := by decide +kernel
theorem dX0_run_309 : decode cX0_run 309 = .ok (.aload_n 0, 1) := by decide +kernel
theorem dX0_run_310 : decode cX0_run 310 = .ok (.bipush 10, 2) := by decide +kernel
theorem dX0_run_312 : decode cX0_run 312 = .ok (.iload_n 2, 1) := by decide +kernel
theorem dX0_run_313 : decode cX0_run 313 = .ok (.iload 4, 2) := by decide +kernel
theorem dX0_run_315 : decode cX0_run 315 = .ok (.invokevirtual 33, 3) := by decide +kernel
theorem dX0_run_318 : decode cX0_run 318 = .ok (.iconst 1, 1) := by decide +kernel
theorem dX0_run_319 : decode cX0_run 319 = .ok (.iadd, 1) := by decide +kernel
theorem dX0_run_320 : decode cX0_run 320 = .ok (.ireturn, 1) := by decide +kernel
theorem dX0_run_321 : decode cX0_run 321 = .ok (.aload_n 0, 1) := by decide +kernel
theorem dX0_run_322 : decode cX0_run 322 = .ok (.bipush 13, 2) := by decide +kernel
theorem dX0_run_324 : decode cX0_run 324 = .ok (.iload_n 2, 1) := by decide +kernel
theorem dX0_run_325 : decode cX0_run 325 = .ok (.iload 4, 2) := by decide +kernel
theorem dX0_run_327 : decode cX0_run 327 = .ok (.invokevirtual 33, 3) := by decide +kernel
theorem dX0_run_330 : decode cX0_run 330 = .ok (.aload_n 0, 1) := by decide +kernel
theorem dX0_run_331 : decode cX0_run 331 = .ok (.aload_n 0, 1) := by decide +kernel
theorem dX0_run_332 : decode cX0_run 332 = .ok (.iconst 2, 1) := by decide +kernel
theorem dX0_run_333 : decode cX0_run 333 = .ok (.invokevirtual 29, 3) := by decide +kernel
theorem dX0_run_336 : decode cX0_run 336 = .ok (.aload_n 0, 1) := by decide +kernel
theorem dX0_run_337 : decode cX0_run 337 = .ok (.getfield 15, 3) := by decide +kernel
theorem dX0_run_340 : decode cX0_run 340 = .ok (.iload 4, 2) := by decide +kernel
theorem dX0_run_342 : decode cX0_run 342 = .ok (.invokevirtual 33, 3) := by decide +kernel
theorem dX0_run_345 : decode cX0_run 345 = .ok (.isub, 1) := by decide +kernel
theorem dX0_run_346 : decode cX0_run 346 = .ok (.ireturn, 1) := by decide +kernel
theorem dX0_run_347 : decode cX0_run 347 = .ok (.iconst 0, 1) := by decide +kernel
theorem dX0_run_348 : decode cX0_run 348 = .ok (.aload_n 0, 1) := by decide +kernel
theorem dX0_run_349 : decode cX0_run 349 = .ok (.bipush 30, 2) := by decide +kernel
theorem dX0_run_351 : decode cX0_run 351 = .ok (.iload_n 2, 1) := by decide +kernel
theorem dX0_run_352 : decode cX0_run 352 = .ok (.iload 4, 2) := by decide +kernel
theorem dX0_run_354 : decode cX0_run 354 = .ok (.invokevirtual 33, 3) := by decide +kernel
theorem dX0_run_357 : decode cX0_run 357 = .ok (.isub, 1) := by decide +kernel
theorem dX0_run_358 : decode cX0_run 358 = .ok (.ireturn, 1) := by decide +kernel
theorem dX0_run_359 : decode cX0_run 359 = .ok (.aload_n 0, 1) := by decide +kernel
theorem dX0_run_360 : decode cX0_run 360 = .ok (.bipush 11, 2) := by decide +kernel
theorem dX0_run_362 : decode cX0_run 362 = .ok (.iload_n 2, 1) := by decide +kernel
theorem dX0_run_363 : decode cX0_run 363 = .ok (.iload 4, 2) := by decide +kernel
theorem dX0_run_365 : decode cX0_run 365 = .ok (.invokevirtual 33, 3) := by decide +kernel
theorem dX0_run_368 : decode cX0_run 368 = .ok (.aload_n 0, 1) := by decide +kernel
theorem dX0_run_369 : decode cX0_run 369 = .ok (.aload_n 0, 1) := by decide +kernel
theorem dX0_run_370 : decode cX0_run 370 = .ok (.iconst 0, 1) := by decide +kernel
theorem dX0_run_371 : decode cX0_run 371 = .ok (.invokevirtual 29, 3) := by decide +kernel
theorem dX0_run_374 : decode cX0_run 374 = .ok (.aload_n 0, 1) := by decide +kernel
theorem dX0_run_375 : decode cX0_run 375 = .ok (.getfield 22, 3) := by decide +kernel
theorem dX0_run_378 : decode cX0_run 378 = .ok (.iload 4, 2) := by decide +kernel
theorem dX0_run_380 : decode cX0_run 380 = .ok (.invokevirtual 33, 3) := by decide +kernel
theorem dX0_run_383 : decode cX0_run 383 = .ok (.iadd, 1) := by decide +kernel
theorem dX0_run_384 : decode cX0_run 384 = .ok (.ireturn, 1) := by decide +kernel
theorem dX0_run_385 : decode cX0_run 385 = .ok (.aload_n 0, 1) := by decide +kernel
theorem dX0_run_386 : decode cX0_run 386 = .ok (.bipush 12, 2) := by decide +kernel
theorem dX0_run_388 : decode cX0_run 388 = .ok (.iload_n 2, 1) := by decide +kernel
theorem dX0_run_389 : decode cX0_run 389 = .ok (.iconst 4, 1) := by decide +kernel
theorem dX0_run_390 : decode cX0_run 390 = .ok (.imul, 1) := by decide +kernel
theorem dX0_run_391 : decode cX0_run 391 = .ok (.iload 4, 2) := by decide +kernel
theorem dX0_run_393 : decode cX0_run 393 = .ok (.invokevirtual 33, 3) := by decide +kernel
theorem dX0_run_396 : decode cX0_run 396 = .ok (.aload_n 0, 1) := by decide +kernel
theorem dX0_run_397 : decode cX0_run 397 = .ok (.getfield 22, 3) := by decide +kernel
theorem dX0_run_400 : decode cX0_run 400 = .ok (.isub, 1) := by decide +kernel
theorem dX0_run_401 : decode cX0_run 401 = .ok (.ireturn, 1) := by decide +kernel
theorem dX0_run_402 : decode cX0_run 402 = .ok (.aload_n 0, 1) := by decide +kernel
theorem dX0_run_403 : decode cX0_run 403 = .ok (.bipush 10, 2) := by decide +kernel
theorem dX0_run_405 : decode cX0_run 405 = .ok (.iload_n 2, 1) := by decide +kernel
theorem dX0_run_406 : decode cX0_run 406 = .ok (.iload 4, 2) := by decide +kernel
theorem dX0_run_408 : decode cX0_run 408 = .ok (.invokevirtual 33, 3) := by decide +kernel
theorem dX0_run_411 : decode cX0_run 411 = .ok (.aload_n 0, 1) := by decide +kernel
theorem dX0_run_412 : decode cX0_run 412 = .ok (.getfield 15, 3) := by decide +kernel
theorem dX0_run_415 : decode cX0_run 415 = .ok (.ixor, 1) := by decide +kernel
theorem dX0_run_416 : decode cX0_run 416 = .ok (.ireturn, 1) := by decide +kernel
theorem dX0_run_417 : decode cX0_run 417 = .ok (.bipush 50, 2) := by decide +kernel
theorem dX0_run_419 : decode cX0_run 419 = .ok (.aload_n 0, 1) := by decide +kernel
theorem dX0_run_420 : decode cX0_run 420 = .ok (.bipush 13, 2) := by decide +kernel
theorem dX0_run_422 : decode cX0_run 422 = .ok (.iload_n 2, 1) := by decide +kernel
theorem dX0_run_423 : decode cX0_run 423 = .ok (.iload 4, 2) := by decide +kernel
theorem dX0_run_425 : decode cX0_run 425 = .ok (.invokevirtual 33, 3) := by decide +kernel
theorem dX0_run_428 : decode cX0_run 428 = .ok (.isub, 1) := by decide +kernel
theorem dX0_run_429 : decode cX0_run 429 = .ok (.ireturn, 1) := by decide +kernel
theorem dX0_run_430 : decode cX0_run 430 = .ok (.aload_n 0, 1) := by decide +kernel
theorem dX0_run_431 : decode cX0_run 431 = .ok (.bipush 12, 2) := by decide +kernel
theorem dX0_run_433 : decode cX0_run 433 = .ok (.iload_n 2, 1) := by decide +kernel
theorem dX0_run_434 : decode cX0_run 434 = .ok (.iload 4, 2) := by decide +kernel
theorem dX0_run_436 : decode cX0_run 436 = .ok (.invokevirtual 33, 3) := by decide +kernel
theorem dX0_run_439 : decode cX0_run 439 = .ok (.aload_n 0, 1) := by decide +kernel
theorem dX0_run_440 : decode cX0_run 440 = .ok (.aload_n 0, 1) := by decide +kernel
theorem dX0_run_441 : decode cX0_run 441 = .ok (.iconst 0, 1) := by decide +kernel
theorem dX0_run_442 : decode cX0_run 442 = .ok (.invokevirtual 29, 3) := by decide +kernel
theorem dX0_run_445 : decode cX0_run 445 = .ok (.aload_n 0, 1) := by decide +kernel
theorem dX0_run_446 : decode cX0_run 446 = .ok (.getfield 15, 3) := by decide +kernel
theorem dX0_run_449 : decode cX0_run 449 = .ok (.iload 4, 2) := by decide +kernel
theorem dX0_run_451 : decode cX0_run 451 = .ok (.invokevirtual 33, 3) := by decide +kernel
theorem dX0_run_454 : decode cX0_run 454 = .ok (.iadd, 1) := by decide +kernel
theorem dX0_run_455 : decode cX0_run 455 = .ok (.ireturn, 1) := by decide +kernel
theorem dX0_run_456 : decode cX0_run 456 = .ok (.iconst 0, 1) := by decide +kernel
theorem dX0_run_457 : decode cX0_run 457 = .ok (.ireturn, 1) := by decide +kernel
theorem dX0_part_0 : decode cX0_part 0 = .ok (.aload_n 0, 1) := by decide +kernel
theorem dX0_part_1 : decode cX0_part 1 = .ok (.getfield 22, 3) := by decide +kernel
theorem dX0_part_4 : decode cX0_part 4 = .ok (.aload_n 0, 1) := by decide +kernel
theorem dX0_part_5 : decode cX0_part 5 = .ok (.getfield 15, 3) := by decide +kernel
theorem dX0_part_8 : decode cX0_part 8 = .ok (.if_icmp .ne 10, 3) := by decide +kernel
theorem dX0_part_11 : decode cX0_part 11 = .ok (.aload_n 0, 1) := by decide +kernel
theorem dX0_part_12 : decode cX0_part 12 = .ok (.iconst 1, 1) := by decide +kernel
theorem dX0_part_13 : decode cX0_part 13 = .ok (.putfield 25, 3) := by decide +kernel
theorem dX0_part_16 : decode cX0_part 16 = .ok (.iconst 0, 1) := by decide +kernel
theorem dX0_part_17 : decode cX0_part 17 = .ok (.ireturn, 1) := by decide +kernel
theorem dX0_part_18 : decode cX0_part 18 = .ok (.iload_n 1, 1) := by decide +kernel
theorem dX0_part_19 : decode cX0_part 19 = .ok (.aload_n 0, 1) := by decide +kernel
theorem dX0_part_20 : decode cX0_part 20 = .ok (.getfield 22, 3) := by decide +kernel
theorem dX0_part_23 : decode cX0_part 23 = .ok (.aload_n 0, 1) := by decide +kernel
theorem dX0_part_24 : decode cX0_part 24 = .ok (.getfield 15, 3) := by decide +kernel
theorem dX0_part_27 : decode cX0_part 27 = .ok (.isub, 1) := by decide +kernel
theorem dX0_part_28 : decode cX0_part 28 = .ok (.idiv, 1) := by decide +kernel
theorem dX0_part_29 : decode cX0_part 29 = .ok (.ireturn, 1) := by decide +kernel
theorem dX0_forget_0 : decode cX0_forget 0 = .ok (.aload_n 0, 1) := by decide +kernel
theorem dX0_forget_1 : decode cX0_forget 1 = .ok (.iconst 0, 1) := by decide +kernel
theorem dX0_forget_2 : decode cX0_forget 2 = .ok (.putfield 47, 3) := by decide +kernel
theorem dX0_forget_5 : decode cX0_forget 5 = .ok (.return_, 1) := by decide +kernel
theorem dX0_note_0 : decode cX0_note 0 = .ok (.aload_n 0, 1) := by decide +kernel
theorem dX0_note_1 : decode cX0_note 1 = .ok (.getfield 47, 3) := by decide +kernel
theorem dX0_note_4 : decode cX0_note 4 = .ok (.bipush 30, 2) := by decide +kernel
theorem dX0_note_6 : decode cX0_note 6 = .ok (.if_icmp .ge 23, 3) := by decide +kernel
theorem dX0_note_9 : decode cX0_note 9 = .ok (.aload_n 0, 1) := by decide +kernel
theorem dX0_note_10 : decode cX0_note 10 = .ok (.getfield 9, 3) := by decide +kernel
theorem dX0_note_13 : decode cX0_note 13 = .ok (.aload_n 0, 1) := by decide +kernel
theorem dX0_note_14 : decode cX0_note 14 = .ok (.getfield 47, 3) := by decide +kernel
theorem dX0_note_17 : decode cX0_note 17 = .ok (.iload_n 1, 1) := by decide +kernel
theorem dX0_note_18 : decode cX0_note 18 = .ok (.iastore, 1) := by decide +kernel
theorem dX0_note_19 : decode cX0_note 19 = .ok (.aload_n 0, 1) := by decide +kernel
theorem dX0_note_20 : decode cX0_note 20 = .ok (.dup, 1) := by decide +kernel
theorem dX0_note_21 : decode cX0_note 21 = .ok (.getfield 47, 3) := by decide +kernel
theorem dX0_note_24 : decode cX0_note 24 = .ok (.iconst 1, 1) := by decide +kernel
theorem dX0_note_25 : decode cX0_note 25 = .ok (.iadd, 1) := by decide +kernel
theorem dX0_note_26 : decode cX0_note 26 = .ok (.putfield 47, 3) := by decide +kernel
theorem dX0_note_29 : decode cX0_note 29 = .ok (.return_, 1) := by decide +kernel
theorem dX1_init_0 : decode cX1_init 0 = .ok (.aload_n 0, 1) := by decide +kernel
theorem dX1_init_1 : decode cX1_init 1 = .ok (.invokespecial 3, 3) := by decide +kernel
theorem dX1_init_4 : decode cX1_init 4 = .ok (.aload_n 0, 1) := by decide +kernel
theorem dX1_init_5 : decode cX1_init 5 = .ok (.iconst 4, 1) := by decide +kernel
theorem dX1_init_6 : decode cX1_init 6 = .ok (.newarray .int, 2) := by decide +kernel
theorem dX1_init_8 : decode cX1_init 8 = .ok (.putfield 9, 3) := by decide +kernel
theorem dX1_init_11 : decode cX1_init 11 = .ok (.aload_n 0, 1) := by decide +kernel
theorem dX1_init_12 : decode cX1_init 12 = .ok (.bipush 32, 2) := by decide +kernel
theorem dX1_init_14 : decode cX1_init 14 = .ok (.newarray .int, 2) := by decide +kernel
theorem dX1_init_16 : decode cX1_init 16 = .ok (.putfield 15, 3) := by decide +kernel
theorem dX1_init_19 : decode cX1_init 19 = .ok (.aload_n 0, 1) := by decide +kernel
theorem dX1_init_20 : decode cX1_init 20 = .ok (.bipush 32, 2) := by decide +kernel
theorem dX1_init_22 : decode cX1_init 22 = .ok (.newarray .int, 2) := by decide +kernel
theorem dX1_init_24 : decode cX1_init 24 = .ok (.putfield 18, 3) := by decide +kernel
theorem dX1_init_27 : decode cX1_init 27 = .ok (.aload_n 0, 1) := by decide +kernel
theorem dX1_init_28 : decode cX1_init 28 = .ok (.bipush 32, 2) := by decide +kernel
theorem dX1_init_30 : decode cX1_init 30 = .ok (.newarray .int, 2) := by decide +kernel
theorem dX1_init_32 : decode cX1_init 32 = .ok (.putfield 21, 3) := by decide +kernel
theorem dX1_init_35 : decode cX1_init 35 = .ok (.aload_n 0, 1) := by decide +kernel
theorem dX1_init_36 : decode cX1_init 36 = .ok (.bipush 8, 2) := by decide +kernel
theorem dX1_init_38 : decode cX1_init 38 = .ok (.newarray .int, 2) := by decide +kernel
theorem dX1_init_40 : decode cX1_init 40 = .ok (.putfield 24, 3) := by decide +kernel
theorem dX1_init_43 : decode cX1_init 43 = .ok (.aload_n 0, 1) := by decide +kernel
theorem dX1_init_44 : decode cX1_init 44 = .ok (.bipush 8, 2) := by decide +kernel
theorem dX1_init_46 : decode cX1_init 46 = .ok (.newarray .int, 2) := by decide +kernel
theorem dX1_init_48 : decode cX1_init 48 = .ok (.putfield 27, 3) := by decide +kernel
theorem dX1_init_51 : decode cX1_init 51 = .ok (.aload_n 0, 1) := by decide +kernel
theorem dX1_init_52 : decode cX1_init 52 = .ok (.bipush 8, 2) := by decide +kernel
theorem dX1_init_54 : decode cX1_init 54 = .ok (.newarray .int, 2) := by decide +kernel
theorem dX1_init_56 : decode cX1_init 56 = .ok (.putfield 30, 3) := by decide +kernel
theorem dX1_init_59 : decode cX1_init 59 = .ok (.aload_n 0, 1) := by decide +kernel
theorem dX1_init_60 : decode cX1_init 60 = .ok (.bipush 8, 2) := by decide +kernel
theorem dX1_init_62 : decode cX1_init 62 = .ok (.newarray .int, 2) := by decide +kernel
theorem dX1_init_64 : decode cX1_init 64 = .ok (.putfield 33, 3) := by decide +kernel
theorem dX1_init_67 : decode cX1_init 67 = .ok (.aload_n 0, 1) := by decide +kernel
theorem dX1_init_68 : decode cX1_init 68 = .ok (.iconst 1, 1) := by decide +kernel
theorem dX1_init_69 : decode cX1_init 69 = .ok (.putfield 36, 3) := by decide +kernel
theorem dX1_init_72 : decode cX1_init 72 = .ok (.aload_n 0, 1) := by decide +kernel
theorem dX1_init_73 : decode cX1_init 73 = .ok (.invokevirtual 40, 3) := by decide +kernel
theorem dX1_init_76 : decode cX1_init 76 = .ok (.return_, 1) := by decide +kernel
theorem dX1_clear_0 : decode cX1_clear 0 = .ok (.iconst 0, 1) := by decide +kernel
theorem dX1_clear_1 : decode cX1_clear 1 = .ok (.istore_n 1, 1) := by decide +kernel
theorem dX1_clear_2 : decode cX1_clear 2 = .ok (.iload_n 1, 1) := by decide +kernel
theorem dX1_clear_3 : decode cX1_clear 3 = .ok (.iconst 4, 1) := by decide +kernel
theorem dX1_clear_4 : decode cX1_clear 4 = .ok (.if_icmp .ge 20, 3) := by decide +kernel
theorem dX1_clear_7 : decode cX1_clear 7 = .ok (.aload_n 0, 1) := by decide +kernel
theorem dX1_clear_8 : decode cX1_clear 8 = .ok (.getfield 9, 3) := by decide +kernel
theorem dX1_clear_11 : decode cX1_clear 11 = .ok (.iload_n 1, 1) := by decide +kernel
theorem dX1_clear_12 : decode cX1_clear 12 = .ok (.getstatic 43, 3) := by decide +kernel
theorem dX1_clear_15 : decode cX1_clear 15 = .ok (.iload_n 1, 1) := by decide +kernel
theorem dX1_clear_16 : decode cX1_clear 16 = .ok (.iaload, 1) := by decide +kernel
theorem dX1_clear_17 : decode cX1_clear 17 = .ok (.iastore, 1) := by decide +kernel
theorem dX1_clear_18 : decode cX1_clear 18 = .ok (.iinc 1 1, 3) := by decide +kernel
theorem dX1_clear_21 : decode cX1_clear 21 = .ok (.goto (-19), 3) := by decide +kernel
theorem dX1_clear_24 : decode cX1_clear 24 = .ok (.iconst 0, 1) := by decide +kernel
theorem dX1_clear_25 : decode cX1_clear 25 = .ok (.istore_n 1, 1) := by decide +kernel
theorem dX1_clear_26 : decode cX1_clear 26 = .ok (.iload_n 1, 1) := by decide +kernel
theorem dX1_clear_27 : decode cX1_clear 27 = .ok (.bipush 32, 2) := by decide +kernel
theorem dX1_clear_29 : decode cX1_clear 29 = .ok (.if_icmp .ge 30, 3) := by decide +kernel
theorem dX1_clear_32 : decode cX1_clear 32 = .ok (.aload_n 0, 1) := by decide +kernel
theorem dX1_clear_33 : decode cX1_clear 33 = .ok (.getfield 15, 3) := by decide +kernel
theorem dX1_clear_36 : decode cX1_clear 36 = .ok (.iload_n 1, 1) := by decide +kernel
theorem dX1_clear_37 : decode cX1_clear 37 = .ok (.iconst 5, 1) := by decide +kernel
theorem dX1_clear_38 : decode cX1_clear 38 = .ok (.iastore, 1) := by decide +kernel
theorem dX1_clear_39 : decode cX1_clear 39 = .ok (.aload_n 0, 1) := by decide +kernel
theorem dX1_clear_40 : decode cX1_clear 40 = .ok (.getfield 18, 3) := by decide +kernel
theorem dX1_clear_43 : decode cX1_clear 43 = .ok (.iload_n 1, 1) := by decide +kernel
theorem dX1_clear_44 : decode cX1_clear 44 = .ok (.iconst 0, 1) := by decide +kernel
theorem dX1_clear_45 : decode cX1_clear 45 = .ok (.iastore, 1) := by decide +kernel
theorem dX1_clear_46 : decode cX1_clear 46 = .ok (.aload_n 0, 1) := by decide +kernel
theorem dX1_clear_47 : decode cX1_clear 47 = .ok (.getfield 21, 3) := by decide +kernel
theorem dX1_clear_50 : decode cX1_clear 50 = .ok (.iload_n 1, 1) := by decide +kernel
theorem dX1_clear_51 : decode cX1_clear 51 = .ok (.iconst (-1), 1) := by decide +kernel
theorem dX1_clear_52 : decode cX1_clear 52 = .ok (.iastore, 1) := by decide +kernel
theorem dX1_clear_53 : decode cX1_clear 53 = .ok (.iinc 1 1, 3) := by decide +kernel
theorem dX1_clear_56 : decode cX1_clear 56 = .ok (.goto (-30), 3) := by decide +kernel
theorem dX1_clear_59 : decode cX1_clear 59 = .ok (.aload_n 0, 1) := by decide +kernel
theorem dX1_clear_60 : decode cX1_clear 60 = .ok (.iconst 0, 1) := by decide +kernel
theorem dX1_clear_61 : decode cX1_clear 61 = .ok (.putfield 46, 3) := by decide +kernel
theorem dX1_clear_64 : decode cX1_clear 64 = .ok (.aload_n 0, 1) := by decide +kernel
theorem dX1_clear_65 : decode cX1_clear 65 = .ok (.iconst 0, 1) := by decide +kernel
theorem dX1_clear_66 : decode cX1_clear 66 = .ok (.putfield 49, 3) := by decide +kernel
theorem dX1_clear_69 : decode cX1_clear 69 = .ok (.aload_n 0, 1) := by decide +kernel
theorem dX1_clear_70 : decode cX1_clear 70 = .ok (.iconst 0, 1) := by decide +kernel
theorem dX1_clear_71 : decode cX1_clear 71 = .ok (.putfield 52, 3) := by decide +kernel
theorem dX1_clear_74 : decode cX1_clear 74 = .ok (.return_, 1) := by decide +kernel
theorem dX1_become_0 : decode cX1_become 0 = .ok (.aload_n 1, 1) := by decide +kernel
theorem dX1_become_1 : decode cX1_become 1 = .ok (.getfield 9, 3) := by decide +kernel
theorem dX1_become_4 : decode cX1_become 4 = .ok (.iconst 0, 1) := by decide +kernel
theorem dX1_become_5 : decode cX1_become 5 = .ok (.aload_n 0, 1) := by decide +kernel
theorem dX1_become_6 : decode cX1_become 6 = .ok (.getfield 9, 3) := by decide +kernel
theorem dX1_become_9 : decode cX1_become 9 = .ok (.iconst 0, 1) := by decide +kernel
theorem dX1_become_10 : decode cX1_become 10 = .ok (.iconst 4, 1) := by decide +kernel
theorem dX1_become_11 : decode cX1_become 11 = .ok (.invokestatic 55, 3) := by decide +kernel
theorem dX1_become_14 : decode cX1_become 14 = .ok (.aload_n 1, 1) := by decide +kernel
theorem dX1_become_15 : decode cX1_become 15 = .ok (.getfield 15, 3) := by decide +kernel
theorem dX1_become_18 : decode cX1_become 18 = .ok (.iconst 0, 1) := by decide +kernel
theorem dX1_become_19 : decode cX1_become 19 = .ok (.aload_n 0, 1) := by decide +kernel
theorem dX1_become_20 : decode cX1_become 20 = .ok (.getfield 15, 3) := by decide +kernel
theorem dX1_become_23 : decode cX1_become 23 = .ok (.iconst 0, 1) := by decide +kernel
theorem dX1_become_24 : decode cX1_become 24 = .ok (.bipush 32, 2) := by decide +kernel
theorem dX1_become_26 : decode cX1_become 26 = .ok (.invokestatic 55, 3) := by decide +kernel
theorem dX1_become_29 : decode cX1_become 29 = .ok (.aload_n 1, 1) := by decide +kernel
theorem dX1_become_30 : decode cX1_become 30 = .ok (.getfield 18, 3) := by decide +kernel
theorem dX1_become_33 : decode cX1_become 33 = .ok (.iconst 0, 1) := by decide +kernel
theorem dX1_become_34 : decode cX1_become 34 = .ok (.aload_n 0, 1) := by decide +kernel
theorem dX1_become_35 : decode cX1_become 35 = .ok (.getfield 18, 3) := by decide +kernel
theorem dX1_become_38 : decode cX1_become 38 = .ok (.iconst 0, 1) := by decide +kernel
theorem dX1_become_39 : decode cX1_become 39 = .ok (.bipush 32, 2) := by decide +kernel
theorem dX1_become_41 : decode cX1_become 41 = .ok (.invokestatic 55, 3) := by decide +kernel
theorem dX1_become_44 : decode cX1_become 44 = .ok (.aload_n 1, 1) := by decide +kernel
theorem dX1_become_45 : decode cX1_become 45 = .ok (.getfield 21, 3) := by decide +kernel
theorem dX1_become_48 : decode cX1_become 48 = .ok (.iconst 0, 1) := by decide +kernel
theorem dX1_become_49 : decode cX1_become 49 = .ok (.aload_n 0, 1) := by decide +kernel
theorem dX1_become_50 : decode cX1_become 50 = .ok (.getfield 21, 3) := by decide +kernel
theorem dX1_become_53 : decode cX1_become 53 = .ok (.iconst 0, 1) := by decide +kernel
theorem dX1_become_54 : decode cX1_become 54 = .ok (.bipush 32, 2) := by decide +kernel
theorem dX1_become_56 : decode cX1_become 56 = .ok (.invokestatic 55, 3) := by decide +kernel
theorem dX1_become_59 : decode cX1_become 59 = .ok (.aload_n 1, 1) := by decide +kernel
theorem dX1_become_60 : decode cX1_become 60 = .ok (.getfield 24, 3) := by decide +kernel
theorem dX1_become_63 : decode cX1_become 63 = .ok (.iconst 0, 1) := by decide +kernel
theorem dX1_become_64 : decode cX1_become 64 = .ok (.aload_n 0, 1) := by decide +kernel
theorem dX1_become_65 : decode cX1_become 65 = .ok (.getfield 24, 3) := by decide +kernel
theorem dX1_become_68 : decode cX1_become 68 = .ok (.iconst 0, 1) := by decide +kernel
theorem dX1_become_69 : decode cX1_become 69 = .ok (.bipush 8, 2) := by decide +kernel
theorem dX1_become_71 : decode cX1_become 71 = .ok (.invokestatic 55, 3) := by decide +kernel
theorem dX1_become_74 : decode cX1_become 74 = .ok (.aload_n 1, 1) := by decide +kernel
theorem dX1_become_75 : decode cX1_become 75 = .ok (.getfield 27, 3) := by decide +kernel
theorem dX1_become_78 : decode cX1_become 78 = .ok (.iconst 0, 1) := by decide +kernel
theorem dX1_become_79 : decode cX1_become 79 = .ok (.aload_n 0, 1) := by decide +kernel
theorem dX1_become_80 : decode cX1_become 80 = .ok (.getfield 27, 3) := by decide +kernel
theorem dX1_become_83 : decode cX1_become 83 = .ok (.iconst 0, 1) := by decide +kernel
theorem dX1_become_84 : decode cX1_become 84 = .ok (.bipush 8, 2) := by decide +kernel
theorem dX1_become_86 : decode cX1_become 86 = .ok (.invokestatic 55, 3) := by decide +kernel
theorem dX1_become_89 : decode cX1_become 89 = .ok (.aload_n 1, 1) := by decide +kernel
theorem dX1_become_90 : decode cX1_become 90 = .ok (.getfield 30, 3) := by decide +kernel
theorem dX1_become_93 : decode cX1_become 93 = .ok (.iconst 0, 1) := by decide +kernel
theorem dX1_become_94 : decode cX1_become 94 = .ok (.aload_n 0, 1) := by decide +kernel
theorem dX1_become_95 : decode cX1_become 95 = .ok (.getfield 30, 3) := by decide +kernel
theorem dX1_become_98 : decode cX1_become 98 = .ok (.iconst 0, 1) := by decide +kernel
theorem dX1_become_99 : decode cX1_become 99 = .ok (.bipush 8, 2) := by decide +kernel
theorem dX1_become_101 : decode cX1_become 101 = .ok (.invokestatic 55, 3) := by decide +kernel
theorem dX1_become_104 : decode cX1_become 104 = .ok (.aload_n 1, 1) := by decide +kernel
theorem dX1_become_105 : decode cX1_become 105 = .ok (.getfield 33, 3) := by decide +kernel
theorem dX1_become_108 : decode cX1_become 108 = .ok (.iconst 0, 1) := by decide +kernel
theorem dX1_become_109 : decode cX1_become 109 = .ok (.aload_n 0, 1) := by decide +kernel
theorem dX1_become_110 : decode cX1_become 110 = .ok (.getfield 33, 3) := by decide +kernel
theorem dX1_become_113 : decode cX1_become 113 = .ok (.iconst 0, 1) := by decide +kernel
theorem dX1_become_114 : decode cX1_become 114 = .ok (.bipush 8, 2) := by decide +kernel
theorem dX1_become_116 : decode cX1_become 116 = .ok (.invokestatic 55, 3) := by decide +kernel
theorem dX1_become_119 : decode cX1_become 119 = .ok (.aload_n 0, 1) := by decide +kernel
theorem dX1_become_120 : decode cX1_become 120 = .ok (.aload_n 1, 1) := by decide +kernel
theorem dX1_become_121 : decode cX1_become 121 = .ok (.getfield 46, 3) := by decide +kernel
theorem dX1_become_124 : decode cX1_become 124 = .ok (.putfield 46, 3) := by decide +kernel
theorem dX1_become_127 : decode cX1_become 127 = .ok (.aload_n 0, 1) := by decide +kernel
theorem dX1_become_128 : decode cX1_become 128 = .ok (.aload_n 1, 1) := by decide +kernel
theorem dX1_become_129 : decode cX1_become 129 = .ok (.getfield 36, 3) := by decide +kernel
theorem dX1_become_132 : decode cX1_become 132 = .ok (.putfield 36, 3) := by decide +kernel
theorem dX1_become_135 : decode cX1_become 135 = .ok (.aload_n 0, 1) := by decide +kernel
theorem dX1_become_136 : decode cX1_become 136 = .ok (.aload_n 1, 1) := by decide +kernel
theorem dX1_become_137 : decode cX1_become 137 = .ok (.getfield 49, 3) := by decide +kernel
theorem dX1_become_140 : decode cX1_become 140 = .ok (.putfield 49, 3) := by decide +kernel
theorem dX1_become_143 : decode cX1_become 143 = .ok (.aload_n 0, 1) := by decide +kernel
theorem dX1_become_144 : decode cX1_become 144 = .ok (.aload_n 1, 1) := by decide +kernel
theorem dX1_become_145 : decode cX1_become 145 = .ok (.getfield 52, 3) := by decide +kernel
theorem dX1_become_148 : decode cX1_become 148 = .ok (.putfield 52, 3) := by decide +kernel
theorem dX1_become_151 : decode cX1_become 151 = .ok (.return_, 1) := by decide +kernel
theorem dX1_comes_0 : decode cX1_comes 0 = .ok (.aload_n 0, 1) := by decide +kernel
theorem dX1_comes_1 : decode cX1_comes 1 = .ok (.getfield 49, 3) := by decide +kernel
theorem dX1_comes_4 : decode cX1_comes 4 = .ok (.bipush 8, 2) := by decide +kernel
theorem dX1_comes_6 : decode cX1_comes 6 = .ok (.if_icmp .lt 6, 3) := by decide +kernel
theorem dX1_comes_9 : decode cX1_comes 9 = .ok (.bipush (-2), 2) := by decide +kernel
theorem dX1_comes_11 : decode cX1_comes 11 = .ok (.ireturn, 1) := by decide +kernel
theorem dX1_comes_12 : decode cX1_comes 12 = .ok (.aload_n 0, 1) := by decide +kernel
theorem dX1_comes_13 : decode cX1_comes 13 = .ok (.getfield 24, 3) := by decide +kernel
theorem dX1_comes_16 : decode cX1_comes 16 = .ok (.aload_n 0, 1) := by decide +kernel
theorem dX1_comes_17 : decode cX1_comes 17 = .ok (.getfield 49, 3) := by decide +kernel
theorem dX1_comes_20 : decode cX1_comes 20 = .ok (.iload_n 1, 1) := by decide +kernel
theorem dX1_comes_21 : decode cX1_comes 21 = .ok (.iastore, 1) := by decide +kernel
theorem dX1_comes_22 : decode cX1_comes 22 = .ok (.aload_n 0, 1) := by decide +kernel
theorem dX1_comes_23 : decode cX1_comes 23 = .ok (.getfield 27, 3) := by decide +kernel
theorem dX1_comes_26 : decode cX1_comes 26 = .ok (.aload_n 0, 1) := by decide +kernel
theorem dX1_comes_27 : decode cX1_comes 27 = .ok (.getfield 49, 3) := by decide +kernel
theorem dX1_comes_30 : decode cX1_comes 30 = .ok (.iload_n 2, 1) := by decide +kernel
theorem dX1_comes_31 : decode cX1_comes 31 = .ok (.iastore, 1) := by decide +kernel
theorem dX1_comes_32 : decode cX1_comes 32 = .ok (.aload_n 0, 1) := by decide +kernel
theorem dX1_comes_33 : decode cX1_comes 33 = .ok (.getfield 30, 3) := by decide +kernel
theorem dX1_comes_36 : decode cX1_comes 36 = .ok (.aload_n 0, 1) := by decide +kernel
theorem dX1_comes_37 : decode cX1_comes 37 = .ok (.getfield 49, 3) := by decide +kernel
theorem dX1_comes_40 : decode cX1_comes 40 = .ok (.iload_n 3, 1) := by decide +kernel
theorem dX1_comes_41 : decode cX1_comes 41 = .ok (.iastore, 1) := by decide +kernel
theorem dX1_comes_42 : decode cX1_comes 42 = .ok (.aload_n 0, 1) := by decide +kernel
theorem dX1_comes_43 : decode cX1_comes 43 = .ok (.getfield 33, 3) := by decide +kernel
theorem dX1_comes_46 : decode cX1_comes 46 = .ok (.aload_n 0, 1) := by decide +kernel
theorem dX1_comes_47 : decode cX1_comes 47 = .ok (.getfield 49, 3) := by decide +kernel
theorem dX1_comes_50 : decode cX1_comes 50 = .ok (.iload 4, 2) := by decide +kernel
theorem dX1_comes_52 : decode cX1_comes 52 = .ok (.iastore, 1) := by decide +kernel
theorem dX1_comes_53 : decode cX1_comes 53 = .ok (.aload_n 0, 1) := by decide +kernel
theorem dX1_comes_54 : decode cX1_comes 54 = .ok (.dup, 1) := by decide +kernel
theorem dX1_comes_55 : decode cX1_comes 55 = .ok (.getfield 49, 3) := by decide +kernel
theorem dX1_comes_58 : decode cX1_comes 58 = .ok (.iconst 1, 1) := by decide +kernel
theorem dX1_comes_59 : decode cX1_comes 59 = .ok (.iadd, 1) := by decide +kernel
theorem dX1_comes_60 : decode cX1_comes 60 = .ok (.putfield 49, 3) := by decide +kernel
theorem dX1_comes_63 : decode cX1_comes 63 = .ok (.aload_n 0, 1) := by decide +kernel
theorem dX1_comes_64 : decode cX1_comes 64 = .ok (.getfield 49, 3) := by decide +kernel
theorem dX1_comes_67 : decode cX1_comes 67 = .ok (.iconst 1, 1) := by decide +kernel
theorem dX1_comes_68 : decode cX1_comes 68 = .ok (.isub, 1) := by decide +kernel
theorem dX1_comes_69 : decode cX1_comes 69 = .ok (.ireturn, 1) := by decide +kernel
theorem dX1_raise_0 : decode cX1_raise 0 = .ok (.aload_n 0, 1) := by decide +kernel
theorem dX1_raise_1 : decode cX1_raise 1 = .ok (.getfield 15, 3) := by decide +kernel
theorem dX1_raise_4 : decode cX1_raise 4 = .ok (.iload_n 1, 1) := by decide +kernel
theorem dX1_raise_5 : decode cX1_raise 5 = .ok (.iload_n 2, 1) := by decide +kernel
theorem dX1_raise_6 : decode cX1_raise 6 = .ok (.iastore, 1) := by decide +kernel
theorem dX1_raise_7 : decode cX1_raise 7 = .ok (.iconst 0, 1) := by decide +kernel
theorem dX1_raise_8 : decode cX1_raise 8 = .ok (.istore_n 3, 1) := by decide +kernel
theorem dX1_raise_9 : decode cX1_raise 9 = .ok (.iload_n 3, 1) := by decide +kernel
theorem dX1_raise_10 : decode cX1_raise 10 = .ok (.bipush 32, 2) := by decide +kernel
theorem dX1_raise_12 : decode cX1_raise 12 = .ok (.if_icmp .ge 20, 3) := by decide +kernel
theorem dX1_raise_15 : decode cX1_raise 15 = .ok (.aload_n 0, 1) := by decide +kernel
theorem dX1_raise_16 : decode cX1_raise 16 = .ok (.getfield 21, 3) := by decide +kernel
theorem dX1_raise_19 : decode cX1_raise 19 = .ok (.iload_n 3, 1) := by decide +kernel
theorem dX1_raise_20 : decode cX1_raise 20 = .ok (.aload_n 0, 1) := by decide +kernel
theorem dX1_raise_21 : decode cX1_raise 21 = .ok (.iload_n 3, 1) := by decide +kernel
theorem dX1_raise_22 : decode cX1_raise 22 = .ok (.invokevirtual 61, 3) := by decide +kernel
theorem dX1_raise_25 : decode cX1_raise 25 = .ok (.iastore, 1) := by decide +kernel
theorem dX1_raise_26 : decode cX1_raise 26 = .ok (.iinc 3 1, 3) := by decide +kernel
theorem dX1_raise_29 : decode cX1_raise 29 = .ok (.goto (-20), 3) := by decide +kernel
theorem dX1_raise_32 : decode cX1_raise 32 = .ok (.return_, 1) := by decide +kernel
theorem dX1_lowestBeside_0 : decode cX1_lowestBeside 0 = .ok (.iload_n 1, 1) := by decide +kernel
theorem dX1_lowestBeside_1 : decode cX1_lowestBeside 1 = .ok (.istore_n 2, 1) := by decide +kernel
theorem dX1_lowestBeside_2 : decode cX1_lowestBeside 2 = .ok (.iload_n 1, 1) := by decide +kernel
theorem dX1_lowestBeside_3 : decode cX1_lowestBeside 3 = .ok (.bipush 8, 2) := by decide +kernel
theorem dX1_lowestBeside_5 : decode cX1_lowestBeside 5 = .ok (.if_icmp .lt 13, 3) := by decide +kernel
theorem dX1_lowestBeside_8 : decode cX1_lowestBeside 8 = .ok (.aload_n 0, 1) := by decide +kernel
theorem dX1_lowestBeside_9 : decode cX1_lowestBeside 9 = .ok (.iload_n 2, 1) := by decide +kernel
theorem dX1_lowestBeside_10 : decode cX1_lowestBeside 10 = .ok (.iload_n 1, 1) := by decide +kernel
theorem dX1_lowestBeside_11 : decode cX1_lowestBeside 11 = .ok (.bipush 8, 2) := by decide +kernel
theorem dX1_lowestBeside_13 : decode cX1_lowestBeside 13 = .ok (.isub, 1) := by decide +kernel
theorem dX1_lowestBeside_14 : decode cX1_lowestBeside 14 = .ok (.invokevirtual 65, 3) := by decide +kernel
theorem dX1_lowestBeside_17 : decode cX1_lowestBeside 17 = .ok (.istore_n 2, 1) := by decide +kernel
theorem dX1_lowestBeside_18 : decode cX1_lowestBeside 18 = .ok (.iload_n 1, 1) := by decide +kernel
theorem dX1_lowestBeside_19 : decode cX1_lowestBeside 19 = .ok (.bipush 8, 2) := by decide +kernel
theorem dX1_lowestBeside_21 : decode cX1_lowestBeside 21 = .ok (.irem, 1) := by decide +kernel
theorem dX1_lowestBeside_22 : decode cX1_lowestBeside 22 = .ok (.ifCond .le 12, 3) := by decide +kernel
theorem dX1_lowestBeside_25 : decode cX1_lowestBeside 25 = .ok (.aload_n 0, 1) := by decide +kernel
theorem dX1_lowestBeside_26 : decode cX1_lowestBeside 26 = .ok (.iload_n 2, 1) := by decide +kernel
theorem dX1_lowestBeside_27 : decode cX1_lowestBeside 27 = .ok (.iload_n 1, 1) := by decide +kernel
theorem dX1_lowestBeside_28 : decode cX1_lowestBeside 28 = .ok (.iconst 1, 1) := by decide +kernel
theorem dX1_lowestBeside_29 : decode cX1_lowestBeside 29 = .ok (.isub, 1) := by decide +kernel
theorem dX1_lowestBeside_30 : decode cX1_lowestBeside 30 = .ok (.invokevirtual 65, 3) := by decide +kernel
theorem dX1_lowestBeside_33 : decode cX1_lowestBeside 33 = .ok (.istore_n 2, 1) := by decide +kernel
theorem dX1_lowestBeside_34 : decode cX1_lowestBeside 34 = .ok (.iload_n 1, 1) := by decide +kernel
theorem dX1_lowestBeside_35 : decode cX1_lowestBeside 35 = .ok (.bipush 8, 2) := by decide +kernel
theorem dX1_lowestBeside_37 : decode cX1_lowestBeside 37 = .ok (.irem, 1) := by decide +kernel
theorem dX1_lowestBeside_38 : decode cX1_lowestBeside 38 = .ok (.bipush 7, 2) := by decide +kernel
theorem dX1_lowestBeside_40 : decode cX1_lowestBeside 40 = .ok (.if_icmp .ge 12, 3) := by decide +kernel
theorem dX1_lowestBeside_43 : decode cX1_lowestBeside 43 = .ok (.aload_n 0, 1) := by decide +kernel
theorem dX1_lowestBeside_44 : decode cX1_lowestBeside 44 = .ok (.iload_n 2, 1) := by decide +kernel
theorem dX1_lowestBeside_45 : decode cX1_lowestBeside 45 = .ok (.iload_n 1, 1) := by decide +kernel
theorem dX1_lowestBeside_46 : decode cX1_lowestBeside 46 = .ok (.iconst 1, 1) := by decide +kernel
theorem dX1_lowestBeside_47 : decode cX1_lowestBeside 47 = .ok (.iadd, 1) := by decide +kernel
theorem dX1_lowestBeside_48 : decode cX1_lowestBeside 48 = .ok (.invokevirtual 65, 3) := by decide +kernel
theorem dX1_lowestBeside_51 : decode cX1_lowestBeside 51 = .ok (.istore_n 2, 1) := by decide +kernel
theorem dX1_lowestBeside_52 : decode cX1_lowestBeside 52 = .ok (.iload_n 1, 1) := by decide +kernel
theorem dX1_lowestBeside_53 : decode cX1_lowestBeside 53 = .ok (.bipush 24, 2) := by decide +kernel
theorem dX1_lowestBeside_55 : decode cX1_lowestBeside 55 = .ok (.if_icmp .ge 13, 3) := by decide +kernel
theorem dX1_lowestBeside_58 : decode cX1_lowestBeside 58 = .ok (.aload_n 0, 1) := by decide +kernel
theorem dX1_lowestBeside_59 : decode cX1_lowestBeside 59 = .ok (.iload_n 2, 1) := by decide +kernel
theorem dX1_lowestBeside_60 : decode cX1_lowestBeside 60 = .ok (.iload_n 1, 1) := by decide +kernel
theorem dX1_lowestBeside_61 : decode cX1_lowestBeside 61 = .ok (.bipush 8, 2) := by decide +kernel
theorem dX1_lowestBeside_63 : decode cX1_lowestBeside 63 = .ok (.iadd, 1) := by decide +kernel
theorem dX1_lowestBeside_64 : decode cX1_lowestBeside 64 = .ok (.invokevirtual 65, 3) := by decide +kernel
theorem dX1_lowestBeside_67 : decode cX1_lowestBeside 67 = .ok (.istore_n 2, 1) := by decide +kernel
theorem dX1_lowestBeside_68 : decode cX1_lowestBeside 68 = .ok (.iload_n 2, 1) := by decide +kernel
theorem dX1_lowestBeside_69 : decode cX1_lowestBeside 69 = .ok (.iload_n 1, 1) := by decide +kernel
theorem dX1_lowestBeside_70 : decode cX1_lowestBeside 70 = .ok (.if_icmp .ne 7, 3) := by decide +kernel
theorem dX1_lowestBeside_73 : decode cX1_lowestBeside 73 = .ok (.iconst (-1), 1) := by decide +kernel
theorem dX1_lowestBeside_74 : decode cX1_lowestBeside 74 = .ok (.goto 4, 3) := by decide +kernel
theorem dX1_lowestBeside_77 : decode cX1_lowestBeside 77 = .ok (.iload_n 2, 1) := by decide +kernel
theorem dX1_lowestBeside_78 : decode cX1_lowestBeside 78 = .ok (.ireturn, 1) := by decide +kernel
theorem dX1_lower_0 : decode cX1_lower 0 = .ok (.aload_n 0, 1) := by decide +kernel
theorem dX1_lower_1 : decode cX1_lower 1 = .ok (.getfield 15, 3) := by decide +kernel
theorem dX1_lower_4 : decode cX1_lower 4 = .ok (.iload_n 2, 1) := by decide +kernel
theorem dX1_lower_5 : decode cX1_lower 5 = .ok (.iaload, 1) := by decide +kernel
theorem dX1_lower_6 : decode cX1_lower 6 = .ok (.aload_n 0, 1) := by decide +kernel
theorem dX1_lower_7 : decode cX1_lower 7 = .ok (.getfield 15, 3) := by decide +kernel
theorem dX1_lower_10 : decode cX1_lower 10 = .ok (.iload_n 1, 1) := by decide +kernel
theorem dX1_lower_11 : decode cX1_lower 11 = .ok (.iaload, 1) := by decide +kernel
theorem dX1_lower_12 : decode cX1_lower 12 = .ok (.if_icmp .ge 7, 3) := by decide +kernel
theorem dX1_lower_15 : decode cX1_lower 15 = .ok (.iload_n 2, 1) := by decide +kernel
theorem dX1_lower_16 : decode cX1_lower 16 = .ok (.goto 4, 3) := by decide +kernel
theorem dX1_lower_19 : decode cX1_lower 19 = .ok (.iload_n 1, 1) := by decide +kernel
theorem dX1_lower_20 : decode cX1_lower 20 = .ok (.ireturn, 1) := by decide +kernel
theorem dX1_isWet_0 : decode cX1_isWet 0 = .ok (.aload_n 0, 1) := by decide +kernel
theorem dX1_isWet_1 : decode cX1_isWet 1 = .ok (.getfield 18, 3) := by decide +kernel
theorem dX1_isWet_4 : decode cX1_isWet 4 = .ok (.iload_n 1, 1) := by decide +kernel
theorem dX1_isWet_5 : decode cX1_isWet 5 = .ok (.iaload, 1) := by decide +kernel
theorem dX1_isWet_6 : decode cX1_isWet 6 = .ok (.bipush 10, 2) := by decide +kernel
theorem dX1_isWet_8 : decode cX1_isWet 8 = .ok (.if_icmp .lt 7, 3) := by decide +kernel
theorem dX1_isWet_11 : decode cX1_isWet 11 = .ok (.iconst 1, 1) := by decide +kernel
theorem dX1_isWet_12 : decode cX1_isWet 12 = .ok (.goto 4, 3) := by decide +kernel
theorem dX1_isWet_15 : decode cX1_isWet 15 = .ok (.iconst 0, 1) := by decide +kernel
theorem dX1_isWet_16 : decode cX1_isWet 16 = .ok (.ireturn, 1) := by decide +kernel
theorem dX1_isLost_0 : decode cX1_isLost 0 = .ok (.aload_n 0, 1) := by decide +kernel
theorem dX1_isLost_1 : decode cX1_isLost 1 = .ok (.getfield 30, 3) := by decide +kernel
theorem dX1_isLost_4 : decode cX1_isLost 4 = .ok (.iload_n 1, 1) := by decide +kernel
theorem dX1_isLost_5 : decode cX1_isLost 5 = .ok (.iaload, 1) := by decide +kernel
theorem dX1_isLost_6 : decode cX1_isLost 6 = .ok (.ifCond .ne 7, 3) := by decide +kernel
theorem dX1_isLost_9 : decode cX1_isLost 9 = .ok (.iconst 1, 1) := by decide +kernel
theorem dX1_isLost_10 : decode cX1_isLost 10 = .ok (.goto 4, 3) := by decide +kernel
theorem dX1_isLost_13 : decode cX1_isLost 13 = .ok (.iconst 0, 1) := by decide +kernel
theorem dX1_isLost_14 : decode cX1_isLost 14 = .ok (.ireturn, 1) := by decide +kernel
theorem dX1_isIdle_0 : decode cX1_isIdle 0 = .ok (.aload_n 0, 1) := by decide +kernel
theorem dX1_isIdle_1 : decode cX1_isIdle 1 = .ok (.getfield 52, 3) := by decide +kernel
theorem dX1_isIdle_4 : decode cX1_isIdle 4 = .ok (.iload_n 1, 1) := by decide +kernel
theorem dX1_isIdle_5 : decode cX1_isIdle 5 = .ok (.ishr, 1) := by decide +kernel
theorem dX1_isIdle_6 : decode cX1_isIdle 6 = .ok (.iconst 1, 1) := by decide +kernel
theorem dX1_isIdle_7 : decode cX1_isIdle 7 = .ok (.iand, 1) := by decide +kernel
theorem dX1_isIdle_8 : decode cX1_isIdle 8 = .ok (.ifCond .eq 7, 3) := by decide +kernel
theorem dX1_isIdle_11 : decode cX1_isIdle 11 = .ok (.iconst 1, 1) := by decide +kernel
theorem dX1_isIdle_12 : decode cX1_isIdle 12 = .ok (.goto 4, 3) := by decide +kernel
theorem dX1_isIdle_15 : decode cX1_isIdle 15 = .ok (.iconst 0, 1) := by decide +kernel
theorem dX1_isIdle_16 : decode cX1_isIdle 16 = .ok (.ireturn, 1) := by decide +kernel
theorem dX1_disagree_0 : decode cX1_disagree 0 = .ok (.aload_n 0, 1) := by decide +kernel
theorem dX1_disagree_1 : decode cX1_disagree 1 = .ok (.getfield 33, 3) := by decide +kernel
theorem dX1_disagree_4 : decode cX1_disagree 4 = .ok (.iload_n 1, 1) := by decide +kernel
theorem dX1_disagree_5 : decode cX1_disagree 5 = .ok (.iaload, 1) := by decide +kernel
theorem dX1_disagree_6 : decode cX1_disagree 6 = .ok (.aload_n 0, 1) := by decide +kernel
theorem dX1_disagree_7 : decode cX1_disagree 7 = .ok (.getfield 33, 3) := by decide +kernel
theorem dX1_disagree_10 : decode cX1_disagree 10 = .ok (.iload_n 2, 1) := by decide +kernel
theorem dX1_disagree_11 : decode cX1_disagree 11 = .ok (.iaload, 1) := by decide +kernel
theorem dX1_disagree_12 : decode cX1_disagree 12 = .ok (.if_icmp .ne 60, 3) := by decide +kernel
theorem dX1_disagree_15 : decode cX1_disagree 15 = .ok (.aload_n 0, 1) := by decide +kernel
theorem dX1_disagree_16 : decode cX1_disagree 16 = .ok (.iload_n 1, 1) := by decide +kernel
theorem dX1_disagree_17 : decode cX1_disagree 17 = .ok (.invokevirtual 69, 3) := by decide +kernel
theorem dX1_disagree_20 : decode cX1_disagree 20 = .ok (.ifCond .ne 52, 3) := by decide +kernel
theorem dX1_disagree_23 : decode cX1_disagree 23 = .ok (.aload_n 0, 1) := by decide +kernel
theorem dX1_disagree_24 : decode cX1_disagree 24 = .ok (.iload_n 2, 1) := by decide +kernel
theorem dX1_disagree_25 : decode cX1_disagree 25 = .ok (.invokevirtual 69, 3) := by decide +kernel
theorem dX1_disagree_28 : decode cX1_disagree 28 = .ok (.ifCond .ne 44, 3) := by decide +kernel
theorem dX1_disagree_31 : decode cX1_disagree 31 = .ok (.aload_n 0, 1) := by decide +kernel
theorem dX1_disagree_32 : decode cX1_disagree 32 = .ok (.iload_n 1, 1) := by decide +kernel
theorem dX1_disagree_33 : decode cX1_disagree 33 = .ok (.invokevirtual 73, 3) := by decide +kernel
theorem dX1_disagree_36 : decode cX1_disagree 36 = .ok (.ifCond .ne 36, 3) := by decide +kernel
theorem dX1_disagree_39 : decode cX1_disagree 39 = .ok (.aload_n 0, 1) := by decide +kernel
theorem dX1_disagree_40 : decode cX1_disagree 40 = .ok (.iload_n 2, 1) := by decide +kernel
theorem dX1_disagree_41 : decode cX1_disagree 41 = .ok (.invokevirtual 73, 3) := by decide +kernel
theorem dX1_disagree_44 : decode cX1_disagree 44 = .ok (.ifCond .ne 28, 3) := by decide +kernel
theorem dX1_disagree_47 : decode cX1_disagree 47 = .ok (.aload_n 0, 1) := by decide +kernel
theorem dX1_disagree_48 : decode cX1_disagree 48 = .ok (.getfield 30, 3) := by decide +kernel
theorem dX1_disagree_51 : decode cX1_disagree 51 = .ok (.iload_n 1, 1) := by decide +kernel
theorem dX1_disagree_52 : decode cX1_disagree 52 = .ok (.iaload, 1) := by decide +kernel
theorem dX1_disagree_53 : decode cX1_disagree 53 = .ok (.aload_n 0, 1) := by decide +kernel
theorem dX1_disagree_54 : decode cX1_disagree 54 = .ok (.getfield 30, 3) := by decide +kernel
theorem dX1_disagree_57 : decode cX1_disagree 57 = .ok (.iload_n 2, 1) := by decide +kernel
theorem dX1_disagree_58 : decode cX1_disagree 58 = .ok (.iaload, 1) := by decide +kernel
theorem dX1_disagree_59 : decode cX1_disagree 59 = .ok (.isub, 1) := by decide +kernel
theorem dX1_disagree_60 : decode cX1_disagree 60 = .ok (.invokestatic 76, 3) := by decide +kernel
theorem dX1_disagree_63 : decode cX1_disagree 63 = .ok (.bipush 30, 2) := by decide +kernel
theorem dX1_disagree_65 : decode cX1_disagree 65 = .ok (.if_icmp .lt 7, 3) := by decide +kernel
theorem dX1_disagree_68 : decode cX1_disagree 68 = .ok (.iconst 1, 1) := by decide +kernel
theorem dX1_disagree_69 : decode cX1_disagree 69 = .ok (.goto 4, 3) := by decide +kernel
theorem dX1_disagree_72 : decode cX1_disagree 72 = .ok (.iconst 0, 1) := by decide +kernel
theorem dX1_disagree_73 : decode cX1_disagree 73 = .ok (.ireturn, 1) := by decide +kernel
theorem dX1_welling_0 : decode cX1_welling 0 = .ok (.aload_n 0, 1) := by decide +kernel
theorem dX1_welling_1 : decode cX1_welling 1 = .ok (.iload_n 1, 1) := by decide +kernel
theorem dX1_welling_2 : decode cX1_welling 2 = .ok (.invokevirtual 73, 3) := by decide +kernel
theorem dX1_welling_5 : decode cX1_welling 5 = .ok (.ifCond .eq 5, 3) := by decide +kernel
theorem dX1_welling_8 : decode cX1_welling 8 = .ok (.iconst 0, 1) := by decide +kernel
theorem dX1_welling_9 : decode cX1_welling 9 = .ok (.ireturn, 1) := by decide +kernel
theorem dX1_welling_10 : decode cX1_welling 10 = .ok (.aload_n 0, 1) := by decide +kernel
theorem dX1_welling_11 : decode cX1_welling 11 = .ok (.getfield 30, 3) := by decide +kernel
theorem dX1_welling_14 : decode cX1_welling 14 = .ok (.iload_n 1, 1) := by decide +kernel
theorem dX1_welling_15 : decode cX1_welling 15 = .ok (.iaload, 1) := by decide +kernel
theorem dX1_welling_16 : decode cX1_welling 16 = .ok (.bipush 50, 2) := by decide +kernel
theorem dX1_welling_18 : decode cX1_welling 18 = .ok (.if_icmp .lt 12, 3) := by decide +kernel
theorem dX1_welling_21 : decode cX1_welling 21 = .ok (.aload_n 0, 1) := by decide +kernel
theorem dX1_welling_22 : decode cX1_welling 22 = .ok (.getfield 27, 3) := by decide +kernel
theorem dX1_welling_25 : decode cX1_welling 25 = .ok (.iload_n 1, 1) := by decide +kernel
theorem dX1_welling_26 : decode cX1_welling 26 = .ok (.iaload, 1) := by decide +kernel
theorem dX1_welling_27 : decode cX1_welling 27 = .ok (.goto 4, 3) := by decide +kernel
theorem dX1_welling_30 : decode cX1_welling 30 = .ok (.iconst 0, 1) := by decide +kernel
theorem dX1_welling_31 : decode cX1_welling 31 = .ok (.istore_n 2, 1) := by decide +kernel
theorem dX1_welling_32 : decode cX1_welling 32 = .ok (.iload_n 2, 1) := by decide +kernel
theorem dX1_welling_33 : decode cX1_welling 33 = .ok (.ifCond .ne 15, 3) := by decide +kernel
theorem dX1_welling_36 : decode cX1_welling 36 = .ok (.aload_n 0, 1) := by decide +kernel
theorem dX1_welling_37 : decode cX1_welling 37 = .ok (.iload_n 1, 1) := by decide +kernel
theorem dX1_welling_38 : decode cX1_welling 38 = .ok (.invokevirtual 69, 3) := by decide +kernel
theorem dX1_welling_41 : decode cX1_welling 41 = .ok (.ifCond .ne 7, 3) := by decide +kernel
theorem dX1_welling_44 : decode cX1_welling 44 = .ok (.iconst 1, 1) := by decide +kernel
theorem dX1_welling_45 : decode cX1_welling 45 = .ok (.goto 4, 3) := by decide +kernel
theorem dX1_welling_48 : decode cX1_welling 48 = .ok (.iload_n 2, 1) := by decide +kernel
theorem dX1_welling_49 : decode cX1_welling 49 = .ok (.istore_n 3, 1) := by decide +kernel
theorem dX1_welling_50 : decode cX1_welling 50 = .ok (.aload_n 0, 1) := by decide +kernel
theorem dX1_welling_51 : decode cX1_welling 51 = .ok (.getfield 24, 3) := by decide +kernel
theorem dX1_welling_54 : decode cX1_welling 54 = .ok (.iload_n 1, 1) := by decide +kernel
theorem dX1_welling_55 : decode cX1_welling 55 = .ok (.iaload, 1) := by decide +kernel
theorem dX1_welling_56 : decode cX1_welling 56 = .ok (.tableswitch 72 1 5 #[36, 51, 40, 53, 57], 36) := by decide +kernel
theorem dX1_welling_92 : decode cX1_welling 92 = .ok (.iconst 2, 1) := by decide +kernel
theorem dX1_welling_93 : decode cX1_welling 93 = .ok (.iload_n 2, 1) := by decide +kernel
theorem dX1_welling_94 : decode cX1_welling 94 = .ok (.imul, 1) := by decide +kernel
theorem dX1_welling_95 : decode cX1_welling 95 = .ok (.ireturn, 1) := by decide +kernel
theorem dX1_welling_96 : decode cX1_welling 96 = .ok (.iconst 2, 1) := by decide +kernel
theorem dX1_welling_97 : decode cX1_welling 97 = .ok (.iload_n 2, 1) := by decide +kernel
theorem dX1_welling_98 : decode cX1_welling 98 = .ok (.imul, 1) := by decide +kernel
theorem dX1_welling_99 : decode cX1_welling 99 = .ok (.aload_n 0, 1) := by decide +kernel
theorem dX1_welling_100 : decode cX1_welling 100 = .ok (.getfield 9, 3) := by decide +kernel
theorem dX1_welling_103 : decode cX1_welling 103 = .ok (.iconst 0, 1) := by decide +kernel
theorem dX1_welling_104 : decode cX1_welling 104 = .ok (.iaload, 1) := by decide +kernel
theorem dX1_welling_105 : decode cX1_welling 105 = .ok (.iadd, 1) := by decide +kernel
theorem dX1_welling_106 : decode cX1_welling 106 = .ok (.ireturn, 1) := by decide +kernel
theorem dX1_welling_107 : decode cX1_welling 107 = .ok (.iload_n 3, 1) := by decide +kernel
theorem dX1_welling_108 : decode cX1_welling 108 = .ok (.ireturn, 1) := by decide +kernel
theorem dX1_welling_109 : decode cX1_welling 109 = .ok (.iload_n 3, 1) := by decide +kernel
theorem dX1_welling_110 : decode cX1_welling 110 = .ok (.iconst 2, 1) := by decide +kernel
theorem dX1_welling_111 : decode cX1_welling 111 = .ok (.idiv, 1) := by decide +kernel
theorem dX1_welling_112 : decode cX1_welling 112 = .ok (.ireturn, 1) := by decide +kernel
theorem dX1_welling_113 : decode cX1_welling 113 = .ok (.aload_n 0, 1) := by decide +kernel
theorem dX1_welling_114 : decode cX1_welling 114 = .ok (.getfield 46, 3) := by decide +kernel
theorem dX1_welling_117 : decode cX1_welling 117 = .ok (.iconst 2, 1) := by decide +kernel
theorem dX1_welling_118 : decode cX1_welling 118 = .ok (.irem, 1) := by decide +kernel
theorem dX1_welling_119 : decode cX1_welling 119 = .ok (.ifCond .ne 7, 3) := by decide +kernel
theorem dX1_welling_122 : decode cX1_welling 122 = .ok (.iload_n 2, 1) := by decide +kernel
theorem dX1_welling_123 : decode cX1_welling 123 = .ok (.goto 4, 3) := by decide +kernel
theorem dX1_welling_126 : decode cX1_welling 126 = .ok (.iconst 0, 1) := by decide +kernel
theorem dX1_welling_127 : decode cX1_welling 127 = .ok (.ireturn, 1) := by decide +kernel
theorem dX1_welling_128 : decode cX1_welling 128 = .ok (.iload_n 2, 1) := by decide +kernel
theorem dX1_welling_129 : decode cX1_welling 129 = .ok (.ireturn, 1) := by decide +kernel
theorem dX1_losing_0 : decode cX1_losing 0 = .ok (.bipush 10, 2) := by decide +kernel
theorem dX1_losing_2 : decode cX1_losing 2 = .ok (.istore_n 2, 1) := by decide +kernel
theorem dX1_losing_3 : decode cX1_losing 3 = .ok (.aload_n 0, 1) := by decide +kernel
theorem dX1_losing_4 : decode cX1_losing 4 = .ok (.getfield 24, 3) := by decide +kernel
theorem dX1_losing_7 : decode cX1_losing 7 = .ok (.iload_n 1, 1) := by decide +kernel
theorem dX1_losing_8 : decode cX1_losing 8 = .ok (.iaload, 1) := by decide +kernel
theorem dX1_losing_9 : decode cX1_losing 9 = .ok (.tableswitch 66 1 5 #[35, 41, 39, 50, 62], 35) := by decide +kernel
theorem dX1_losing_44 : decode cX1_losing 44 = .ok (.iload_n 2, 1) := by decide +kernel
theorem dX1_losing_45 : decode cX1_losing 45 = .ok (.iconst 2, 1) := by decide +kernel
theorem dX1_losing_46 : decode cX1_losing 46 = .ok (.idiv, 1) := by decide +kernel
theorem dX1_losing_47 : decode cX1_losing 47 = .ok (.ireturn, 1) := by decide +kernel
theorem dX1_losing_48 : decode cX1_losing 48 = .ok (.iconst 0, 1) := by decide +kernel
theorem dX1_losing_49 : decode cX1_losing 49 = .ok (.ireturn, 1) := by decide +kernel
theorem dX1_losing_50 : decode cX1_losing 50 = .ok (.iload_n 2, 1) := by decide +kernel
theorem dX1_losing_51 : decode cX1_losing 51 = .ok (.aload_n 0, 1) := by decide +kernel
theorem dX1_losing_52 : decode cX1_losing 52 = .ok (.getfield 27, 3) := by decide +kernel
theorem dX1_losing_55 : decode cX1_losing 55 = .ok (.iload_n 1, 1) := by decide +kernel
theorem dX1_losing_56 : decode cX1_losing 56 = .ok (.iaload, 1) := by decide +kernel
theorem dX1_losing_57 : decode cX1_losing 57 = .ok (.iadd, 1) := by decide +kernel
theorem dX1_losing_58 : decode cX1_losing 58 = .ok (.ireturn, 1) := by decide +kernel
theorem dX1_losing_59 : decode cX1_losing 59 = .ok (.iload_n 2, 1) := by decide +kernel
theorem dX1_losing_60 : decode cX1_losing 60 = .ok (.aload_n 0, 1) := by decide +kernel
theorem dX1_losing_61 : decode cX1_losing 61 = .ok (.getfield 27, 3) := by decide +kernel
theorem dX1_losing_64 : decode cX1_losing 64 = .ok (.iload_n 1, 1) := by decide +kernel
theorem dX1_losing_65 : decode cX1_losing 65 = .ok (.iaload, 1) := by decide +kernel
theorem dX1_losing_66 : decode cX1_losing 66 = .ok (.iadd, 1) := by decide +kernel
theorem dX1_losing_67 : decode cX1_losing 67 = .ok (.bipush 15, 2) := by decide +kernel
theorem dX1_losing_69 : decode cX1_losing 69 = .ok (.isub, 1) := by decide +kernel
theorem dX1_losing_70 : decode cX1_losing 70 = .ok (.ireturn, 1) := by decide +kernel
theorem dX1_losing_71 : decode cX1_losing 71 = .ok (.iconst 3, 1) := by decide +kernel
theorem dX1_losing_72 : decode cX1_losing 72 = .ok (.iload_n 2, 1) := by decide +kernel
theorem dX1_losing_73 : decode cX1_losing 73 = .ok (.imul, 1) := by decide +kernel
theorem dX1_losing_74 : decode cX1_losing 74 = .ok (.ireturn, 1) := by decide +kernel
theorem dX1_losing_75 : decode cX1_losing 75 = .ok (.iload_n 2, 1) := by decide +kernel
theorem dX1_losing_76 : decode cX1_losing 76 = .ok (.ireturn, 1) := by decide +kernel
theorem dX1_winning_0 : decode cX1_winning 0 = .ok (.iconst 3, 1) := by decide +kernel
theorem dX1_winning_1 : decode cX1_winning 1 = .ok (.istore_n 2, 1) := by decide +kernel
theorem dX1_winning_2 : decode cX1_winning 2 = .ok (.aload_n 0, 1) := by decide +kernel
theorem dX1_winning_3 : decode cX1_winning 3 = .ok (.getfield 24, 3) := by decide +kernel
theorem dX1_winning_6 : decode cX1_winning 6 = .ok (.iload_n 1, 1) := by decide +kernel
theorem dX1_winning_7 : decode cX1_winning 7 = .ok (.iaload, 1) := by decide +kernel
theorem dX1_winning_8 : decode cX1_winning 8 = .ok (.tableswitch 54 1 5 #[36, 44, 40, 48, 52], 36) := by decide +kernel
theorem dX1_winning_44 : decode cX1_winning 44 = .ok (.iload_n 2, 1) := by decide +kernel
theorem dX1_winning_45 : decode cX1_winning 45 = .ok (.iconst 2, 1) := by decide +kernel
theorem dX1_winning_46 : decode cX1_winning 46 = .ok (.iadd, 1) := by decide +kernel
theorem dX1_winning_47 : decode cX1_winning 47 = .ok (.ireturn, 1) := by decide +kernel
theorem dX1_winning_48 : decode cX1_winning 48 = .ok (.iload_n 2, 1) := by decide +kernel
theorem dX1_winning_49 : decode cX1_winning 49 = .ok (.iconst 2, 1) := by decide +kernel
theorem dX1_winning_50 : decode cX1_winning 50 = .ok (.iadd, 1) := by decide +kernel
theorem dX1_winning_51 : decode cX1_winning 51 = .ok (.ireturn, 1) := by decide +kernel
theorem dX1_winning_52 : decode cX1_winning 52 = .ok (.iload_n 2, 1) := by decide +kernel
theorem dX1_winning_53 : decode cX1_winning 53 = .ok (.iconst 2, 1) := by decide +kernel
theorem dX1_winning_54 : decode cX1_winning 54 = .ok (.isub, 1) := by decide +kernel
theorem dX1_winning_55 : decode cX1_winning 55 = .ok (.ireturn, 1) := by decide +kernel
theorem dX1_winning_56 : decode cX1_winning 56 = .ok (.iload_n 2, 1) := by decide +kernel
theorem dX1_winning_57 : decode cX1_winning 57 = .ok (.iconst 2, 1) := by decide +kernel
theorem dX1_winning_58 : decode cX1_winning 58 = .ok (.isub, 1) := by decide +kernel
theorem dX1_winning_59 : decode cX1_winning 59 = .ok (.ireturn, 1) := by decide +kernel
theorem dX1_winning_60 : decode cX1_winning 60 = .ok (.iconst 0, 1) := by decide +kernel
theorem dX1_winning_61 : decode cX1_winning 61 = .ok (.ireturn, 1) := by decide +kernel
theorem dX1_winning_62 : decode cX1_winning 62 = .ok (.iload_n 2, 1) := by decide +kernel
theorem dX1_winning_63 : decode cX1_winning 63 = .ok (.ireturn, 1) := by decide +kernel
theorem dX1_opponents_0 : decode cX1_opponents 0 = .ok (.iconst 0, 1) := by decide +kernel
theorem dX1_opponents_1 : decode cX1_opponents 1 = .ok (.istore_n 2, 1) := by decide +kernel
theorem dX1_opponents_2 : decode cX1_opponents 2 = .ok (.iconst 0, 1) := by decide +kernel
theorem dX1_opponents_3 : decode cX1_opponents 3 = .ok (.istore_n 3, 1) := by decide +kernel
theorem dX1_opponents_4 : decode cX1_opponents 4 = .ok (.iload_n 3, 1) := by decide +kernel
theorem dX1_opponents_5 : decode cX1_opponents 5 = .ok (.aload_n 0, 1) := by decide +kernel
theorem dX1_opponents_6 : decode cX1_opponents 6 = .ok (.getfield 49, 3) := by decide +kernel
theorem dX1_opponents_9 : decode cX1_opponents 9 = .ok (.if_icmp .ge 24, 3) := by decide +kernel
theorem dX1_opponents_12 : decode cX1_opponents 12 = .ok (.aload_n 0, 1) := by decide +kernel
theorem dX1_opponents_13 : decode cX1_opponents 13 = .ok (.iload_n 1, 1) := by decide +kernel
theorem dX1_opponents_14 : decode cX1_opponents 14 = .ok (.iload_n 3, 1) := by decide +kernel
theorem dX1_opponents_15 : decode cX1_opponents 15 = .ok (.invokevirtual 81, 3) := by decide +kernel
theorem dX1_opponents_18 : decode cX1_opponents 18 = .ok (.ifCond .eq 9, 3) := by decide +kernel
theorem dX1_opponents_21 : decode cX1_opponents 21 = .ok (.iload_n 2, 1) := by decide +kernel
theorem dX1_opponents_22 : decode cX1_opponents 22 = .ok (.iconst 1, 1) := by decide +kernel
theorem dX1_opponents_23 : decode cX1_opponents 23 = .ok (.iload_n 3, 1) := by decide +kernel
theorem dX1_opponents_24 : decode cX1_opponents 24 = .ok (.ishl, 1) := by decide +kernel
theorem dX1_opponents_25 : decode cX1_opponents 25 = .ok (.ior, 1) := by decide +kernel
theorem dX1_opponents_26 : decode cX1_opponents 26 = .ok (.istore_n 2, 1) := by decide +kernel
theorem dX1_opponents_27 : decode cX1_opponents 27 = .ok (.iinc 3 1, 3) := by decide +kernel
theorem dX1_opponents_30 : decode cX1_opponents 30 = .ok (.goto (-26), 3) := by decide +kernel
theorem dX1_opponents_33 : decode cX1_opponents 33 = .ok (.iload_n 2, 1) := by decide +kernel
theorem dX1_opponents_34 : decode cX1_opponents 34 = .ok (.ireturn, 1) := by decide +kernel
theorem dX1_peopleAt_0 : decode cX1_peopleAt 0 = .ok (.iconst 0, 1) := by decide +kernel
theorem dX1_peopleAt_1 : decode cX1_peopleAt 1 = .ok (.istore_n 2, 1) := by decide +kernel
theorem dX1_peopleAt_2 : decode cX1_peopleAt 2 = .ok (.iconst 0, 1) := by decide +kernel
theorem dX1_peopleAt_3 : decode cX1_peopleAt 3 = .ok (.istore_n 3, 1) := by decide +kernel
theorem dX1_peopleAt_4 : decode cX1_peopleAt 4 = .ok (.iload_n 3, 1) := by decide +kernel
theorem dX1_peopleAt_5 : decode cX1_peopleAt 5 = .ok (.aload_n 0, 1) := by decide +kernel
theorem dX1_peopleAt_6 : decode cX1_peopleAt 6 = .ok (.getfield 49, 3) := by decide +kernel
theorem dX1_peopleAt_9 : decode cX1_peopleAt 9 = .ok (.if_icmp .ge 25, 3) := by decide +kernel
theorem dX1_peopleAt_12 : decode cX1_peopleAt 12 = .ok (.aload_n 0, 1) := by decide +kernel
theorem dX1_peopleAt_13 : decode cX1_peopleAt 13 = .ok (.getfield 33, 3) := by decide +kernel
theorem dX1_peopleAt_16 : decode cX1_peopleAt 16 = .ok (.iload_n 3, 1) := by decide +kernel
theorem dX1_peopleAt_17 : decode cX1_peopleAt 17 = .ok (.iaload, 1) := by decide +kernel
theorem dX1_peopleAt_18 : decode cX1_peopleAt 18 = .ok (.iload_n 1, 1) := by decide +kernel
theorem dX1_peopleAt_19 : decode cX1_peopleAt 19 = .ok (.if_icmp .ne 9, 3) := by decide +kernel
theorem dX1_peopleAt_22 : decode cX1_peopleAt 22 = .ok (.iload_n 2, 1) := by decide +kernel
theorem dX1_peopleAt_23 : decode cX1_peopleAt 23 = .ok (.iconst 1, 1) := by decide +kernel
theorem dX1_peopleAt_24 : decode cX1_peopleAt 24 = .ok (.iload_n 3, 1) := by decide +kernel
theorem dX1_peopleAt_25 : decode cX1_peopleAt 25 = .ok (.ishl, 1) := by decide +kernel
theorem dX1_peopleAt_26 : decode cX1_peopleAt 26 = .ok (.ior, 1) := by decide +kernel
theorem dX1_peopleAt_27 : decode cX1_peopleAt 27 = .ok (.istore_n 2, 1) := by decide +kernel
theorem dX1_peopleAt_28 : decode cX1_peopleAt 28 = .ok (.iinc 3 1, 3) := by decide +kernel
theorem dX1_peopleAt_31 : decode cX1_peopleAt 31 = .ok (.goto (-27), 3) := by decide +kernel
theorem dX1_peopleAt_34 : decode cX1_peopleAt 34 = .ok (.iload_n 2, 1) := by decide +kernel
theorem dX1_peopleAt_35 : decode cX1_peopleAt 35 = .ok (.ireturn, 1) := by decide +kernel
theorem dX1_wellingAt_0 : decode cX1_wellingAt 0 = .ok (.iconst 0, 1) := by decide +kernel
theorem dX1_wellingAt_1 : decode cX1_wellingAt 1 = .ok (.istore_n 2, 1) := by decide +kernel
theorem dX1_wellingAt_2 : decode cX1_wellingAt 2 = .ok (.iconst 0, 1) := by decide +kernel
theorem dX1_wellingAt_3 : decode cX1_wellingAt 3 = .ok (.istore_n 3, 1) := by decide +kernel
theorem dX1_wellingAt_4 : decode cX1_wellingAt 4 = .ok (.iload_n 3, 1) := by decide +kernel
theorem dX1_wellingAt_5 : decode cX1_wellingAt 5 = .ok (.aload_n 0, 1) := by decide +kernel
theorem dX1_wellingAt_6 : decode cX1_wellingAt 6 = .ok (.getfield 49, 3) := by decide +kernel
theorem dX1_wellingAt_9 : decode cX1_wellingAt 9 = .ok (.if_icmp .ge 27, 3) := by decide +kernel
theorem dX1_wellingAt_12 : decode cX1_wellingAt 12 = .ok (.aload_n 0, 1) := by decide +kernel
theorem dX1_wellingAt_13 : decode cX1_wellingAt 13 = .ok (.getfield 33, 3) := by decide +kernel
theorem dX1_wellingAt_16 : decode cX1_wellingAt 16 = .ok (.iload_n 3, 1) := by decide +kernel
theorem dX1_wellingAt_17 : decode cX1_wellingAt 17 = .ok (.iaload, 1) := by decide +kernel
theorem dX1_wellingAt_18 : decode cX1_wellingAt 18 = .ok (.iload_n 1, 1) := by decide +kernel
theorem dX1_wellingAt_19 : decode cX1_wellingAt 19 = .ok (.if_icmp .ne 11, 3) := by decide +kernel
theorem dX1_wellingAt_22 : decode cX1_wellingAt 22 = .ok (.iload_n 2, 1) := by decide +kernel
theorem dX1_wellingAt_23 : decode cX1_wellingAt 23 = .ok (.aload_n 0, 1) := by decide +kernel
theorem dX1_wellingAt_24 : decode cX1_wellingAt 24 = .ok (.iload_n 3, 1) := by decide +kernel
theorem dX1_wellingAt_25 : decode cX1_wellingAt 25 = .ok (.invokevirtual 85, 3) := by decide +kernel
theorem dX1_wellingAt_28 : decode cX1_wellingAt 28 = .ok (.iadd, 1) := by decide +kernel
theorem dX1_wellingAt_29 : decode cX1_wellingAt 29 = .ok (.istore_n 2, 1) := by decide +kernel
theorem dX1_wellingAt_30 : decode cX1_wellingAt 30 = .ok (.iinc 3 1, 3) := by decide +kernel
theorem dX1_wellingAt_33 : decode cX1_wellingAt 33 = .ok (.goto (-29), 3) := by decide +kernel
theorem dX1_wellingAt_36 : decode cX1_wellingAt 36 = .ok (.iload_n 2, 1) := by decide +kernel
theorem dX1_wellingAt_37 : decode cX1_wellingAt 37 = .ok (.ireturn, 1) := by decide +kernel
theorem dX1_disputesAt_0 : decode cX1_disputesAt 0 = .ok (.iconst 0, 1) := by decide +kernel
theorem dX1_disputesAt_1 : decode cX1_disputesAt 1 = .ok (.istore_n 2, 1) := by decide +kernel
theorem dX1_disputesAt_2 : decode cX1_disputesAt 2 = .ok (.iconst 0, 1) := by decide +kernel
theorem dX1_disputesAt_3 : decode cX1_disputesAt 3 = .ok (.istore_n 3, 1) := by decide +kernel
theorem dX1_disputesAt_4 : decode cX1_disputesAt 4 = .ok (.iload_n 3, 1) := by decide +kernel
theorem dX1_disputesAt_5 : decode cX1_disputesAt 5 = .ok (.aload_n 0, 1) := by decide +kernel
theorem dX1_disputesAt_6 : decode cX1_disputesAt 6 = .ok (.getfield 49, 3) := by decide +kernel
theorem dX1_disputesAt_9 : decode cX1_disputesAt 9 = .ok (.if_icmp .ge 30, 3) := by decide +kernel
theorem dX1_disputesAt_12 : decode cX1_disputesAt 12 = .ok (.aload_n 0, 1) := by decide +kernel
theorem dX1_disputesAt_13 : decode cX1_disputesAt 13 = .ok (.getfield 33, 3) := by decide +kernel
theorem dX1_disputesAt_16 : decode cX1_disputesAt 16 = .ok (.iload_n 3, 1) := by decide +kernel
theorem dX1_disputesAt_17 : decode cX1_disputesAt 17 = .ok (.iaload, 1) := by decide +kernel
theorem dX1_disputesAt_18 : decode cX1_disputesAt 18 = .ok (.iload_n 1, 1) := by decide +kernel
theorem dX1_disputesAt_19 : decode cX1_disputesAt 19 = .ok (.if_icmp .ne 14, 3) := by decide +kernel
theorem dX1_disputesAt_22 : decode cX1_disputesAt 22 = .ok (.iload_n 2, 1) := by decide +kernel
theorem dX1_disputesAt_23 : decode cX1_disputesAt 23 = .ok (.aload_n 0, 1) := by decide +kernel
theorem dX1_disputesAt_24 : decode cX1_disputesAt 24 = .ok (.iload_n 3, 1) := by decide +kernel
theorem dX1_disputesAt_25 : decode cX1_disputesAt 25 = .ok (.invokevirtual 88, 3) := by decide +kernel
theorem dX1_disputesAt_28 : decode cX1_disputesAt 28 = .ok (.invokestatic 91, 3) := by decide +kernel
theorem dX1_disputesAt_31 : decode cX1_disputesAt 31 = .ok (.iadd, 1) := by decide +kernel
theorem dX1_disputesAt_32 : decode cX1_disputesAt 32 = .ok (.istore_n 2, 1) := by decide +kernel
theorem dX1_disputesAt_33 : decode cX1_disputesAt 33 = .ok (.iinc 3 1, 3) := by decide +kernel
theorem dX1_disputesAt_36 : decode cX1_disputesAt 36 = .ok (.goto (-32), 3) := by decide +kernel
theorem dX1_disputesAt_39 : decode cX1_disputesAt 39 = .ok (.iload_n 2, 1) := by decide +kernel
theorem dX1_disputesAt_40 : decode cX1_disputesAt 40 = .ok (.iconst 2, 1) := by decide +kernel
theorem dX1_disputesAt_41 : decode cX1_disputesAt 41 = .ok (.idiv, 1) := by decide +kernel
theorem dX1_disputesAt_42 : decode cX1_disputesAt 42 = .ok (.ireturn, 1) := by decide +kernel
theorem dX1_disputes_0 : decode cX1_disputes 0 = .ok (.iconst 0, 1) := by decide +kernel
theorem dX1_disputes_1 : decode cX1_disputes 1 = .ok (.istore_n 1, 1) := by decide +kernel
theorem dX1_disputes_2 : decode cX1_disputes 2 = .ok (.iconst 0, 1) := by decide +kernel
theorem dX1_disputes_3 : decode cX1_disputes 3 = .ok (.istore_n 2, 1) := by decide +kernel
theorem dX1_disputes_4 : decode cX1_disputes 4 = .ok (.iload_n 2, 1) := by decide +kernel
theorem dX1_disputes_5 : decode cX1_disputes 5 = .ok (.aload_n 0, 1) := by decide +kernel
theorem dX1_disputes_6 : decode cX1_disputes 6 = .ok (.getfield 49, 3) := by decide +kernel
theorem dX1_disputes_9 : decode cX1_disputes 9 = .ok (.if_icmp .ge 20, 3) := by decide +kernel
theorem dX1_disputes_12 : decode cX1_disputes 12 = .ok (.iload_n 1, 1) := by decide +kernel
theorem dX1_disputes_13 : decode cX1_disputes 13 = .ok (.aload_n 0, 1) := by decide +kernel
theorem dX1_disputes_14 : decode cX1_disputes 14 = .ok (.iload_n 2, 1) := by decide +kernel
theorem dX1_disputes_15 : decode cX1_disputes 15 = .ok (.invokevirtual 88, 3) := by decide +kernel
theorem dX1_disputes_18 : decode cX1_disputes 18 = .ok (.invokestatic 91, 3) := by decide +kernel
theorem dX1_disputes_21 : decode cX1_disputes 21 = .ok (.iadd, 1) := by decide +kernel
theorem dX1_disputes_22 : decode cX1_disputes 22 = .ok (.istore_n 1, 1) := by decide +kernel
theorem dX1_disputes_23 : decode cX1_disputes 23 = .ok (.iinc 2 1, 3) := by decide +kernel
theorem dX1_disputes_26 : decode cX1_disputes 26 = .ok (.goto (-22), 3) := by decide +kernel
theorem dX1_disputes_29 : decode cX1_disputes 29 = .ok (.iload_n 1, 1) := by decide +kernel
theorem dX1_disputes_30 : decode cX1_disputes 30 = .ok (.iconst 2, 1) := by decide +kernel
theorem dX1_disputes_31 : decode cX1_disputes 31 = .ok (.idiv, 1) := by decide +kernel
theorem dX1_disputes_32 : decode cX1_disputes 32 = .ok (.ireturn, 1) := by decide +kernel
theorem dX1_lostPeople_0 : decode cX1_lostPeople 0 = .ok (.iconst 0, 1) := by decide +kernel
theorem dX1_lostPeople_1 : decode cX1_lostPeople 1 = .ok (.istore_n 1, 1) := by decide +kernel
theorem dX1_lostPeople_2 : decode cX1_lostPeople 2 = .ok (.iconst 0, 1) := by decide +kernel
theorem dX1_lostPeople_3 : decode cX1_lostPeople 3 = .ok (.istore_n 2, 1) := by decide +kernel
theorem dX1_lostPeople_4 : decode cX1_lostPeople 4 = .ok (.iload_n 2, 1) := by decide +kernel
theorem dX1_lostPeople_5 : decode cX1_lostPeople 5 = .ok (.aload_n 0, 1) := by decide +kernel
theorem dX1_lostPeople_6 : decode cX1_lostPeople 6 = .ok (.getfield 49, 3) := by decide +kernel
theorem dX1_lostPeople_9 : decode cX1_lostPeople 9 = .ok (.if_icmp .ge 23, 3) := by decide +kernel
theorem dX1_lostPeople_12 : decode cX1_lostPeople 12 = .ok (.aload_n 0, 1) := by decide +kernel
theorem dX1_lostPeople_13 : decode cX1_lostPeople 13 = .ok (.iload_n 2, 1) := by decide +kernel
theorem dX1_lostPeople_14 : decode cX1_lostPeople 14 = .ok (.invokevirtual 69, 3) := by decide +kernel
theorem dX1_lostPeople_17 : decode cX1_lostPeople 17 = .ok (.ifCond .eq 9, 3) := by decide +kernel
theorem dX1_lostPeople_20 : decode cX1_lostPeople 20 = .ok (.iload_n 1, 1) := by decide +kernel
theorem dX1_lostPeople_21 : decode cX1_lostPeople 21 = .ok (.iconst 1, 1) := by decide +kernel
theorem dX1_lostPeople_22 : decode cX1_lostPeople 22 = .ok (.iload_n 2, 1) := by decide +kernel
theorem dX1_lostPeople_23 : decode cX1_lostPeople 23 = .ok (.ishl, 1) := by decide +kernel
theorem dX1_lostPeople_24 : decode cX1_lostPeople 24 = .ok (.ior, 1) := by decide +kernel
theorem dX1_lostPeople_25 : decode cX1_lostPeople 25 = .ok (.istore_n 1, 1) := by decide +kernel
theorem dX1_lostPeople_26 : decode cX1_lostPeople 26 = .ok (.iinc 2 1, 3) := by decide +kernel
theorem dX1_lostPeople_29 : decode cX1_lostPeople 29 = .ok (.goto (-25), 3) := by decide +kernel
theorem dX1_lostPeople_32 : decode cX1_lostPeople 32 = .ok (.iload_n 1, 1) := by decide +kernel
theorem dX1_lostPeople_33 : decode cX1_lostPeople 33 = .ok (.ireturn, 1) := by decide +kernel
theorem dX1_allSure_0 : decode cX1_allSure 0 = .ok (.iconst 0, 1) := by decide +kernel
theorem dX1_allSure_1 : decode cX1_allSure 1 = .ok (.istore_n 1, 1) := by decide +kernel
theorem dX1_allSure_2 : decode cX1_allSure 2 = .ok (.iconst 0, 1) := by decide +kernel
theorem dX1_allSure_3 : decode cX1_allSure 3 = .ok (.istore_n 2, 1) := by decide +kernel
theorem dX1_allSure_4 : decode cX1_allSure 4 = .ok (.iload_n 2, 1) := by decide +kernel
theorem dX1_allSure_5 : decode cX1_allSure 5 = .ok (.aload_n 0, 1) := by decide +kernel
theorem dX1_allSure_6 : decode cX1_allSure 6 = .ok (.getfield 49, 3) := by decide +kernel
theorem dX1_allSure_9 : decode cX1_allSure 9 = .ok (.if_icmp .ge 18, 3) := by decide +kernel
theorem dX1_allSure_12 : decode cX1_allSure 12 = .ok (.iload_n 1, 1) := by decide +kernel
theorem dX1_allSure_13 : decode cX1_allSure 13 = .ok (.aload_n 0, 1) := by decide +kernel
theorem dX1_allSure_14 : decode cX1_allSure 14 = .ok (.getfield 30, 3) := by decide +kernel
theorem dX1_allSure_17 : decode cX1_allSure 17 = .ok (.iload_n 2, 1) := by decide +kernel
theorem dX1_allSure_18 : decode cX1_allSure 18 = .ok (.iaload, 1) := by decide +kernel
theorem dX1_allSure_19 : decode cX1_allSure 19 = .ok (.iadd, 1) := by decide +kernel
theorem dX1_allSure_20 : decode cX1_allSure 20 = .ok (.istore_n 1, 1) := by decide +kernel
theorem dX1_allSure_21 : decode cX1_allSure 21 = .ok (.iinc 2 1, 3) := by decide +kernel
theorem dX1_allSure_24 : decode cX1_allSure 24 = .ok (.goto (-20), 3) := by decide +kernel
theorem dX1_allSure_27 : decode cX1_allSure 27 = .ok (.iload_n 1, 1) := by decide +kernel
theorem dX1_allSure_28 : decode cX1_allSure 28 = .ok (.ireturn, 1) := by decide +kernel
theorem dX1_allWater_0 : decode cX1_allWater 0 = .ok (.iconst 0, 1) := by decide +kernel
theorem dX1_allWater_1 : decode cX1_allWater 1 = .ok (.istore_n 1, 1) := by decide +kernel
theorem dX1_allWater_2 : decode cX1_allWater 2 = .ok (.iconst 0, 1) := by decide +kernel
theorem dX1_allWater_3 : decode cX1_allWater 3 = .ok (.istore_n 2, 1) := by decide +kernel
theorem dX1_allWater_4 : decode cX1_allWater 4 = .ok (.iload_n 2, 1) := by decide +kernel
theorem dX1_allWater_5 : decode cX1_allWater 5 = .ok (.bipush 32, 2) := by decide +kernel
theorem dX1_allWater_7 : decode cX1_allWater 7 = .ok (.if_icmp .ge 18, 3) := by decide +kernel
theorem dX1_allWater_10 : decode cX1_allWater 10 = .ok (.iload_n 1, 1) := by decide +kernel
theorem dX1_allWater_11 : decode cX1_allWater 11 = .ok (.aload_n 0, 1) := by decide +kernel
theorem dX1_allWater_12 : decode cX1_allWater 12 = .ok (.getfield 18, 3) := by decide +kernel
theorem dX1_allWater_15 : decode cX1_allWater 15 = .ok (.iload_n 2, 1) := by decide +kernel
theorem dX1_allWater_16 : decode cX1_allWater 16 = .ok (.iaload, 1) := by decide +kernel
theorem dX1_allWater_17 : decode cX1_allWater 17 = .ok (.iadd, 1) := by decide +kernel
theorem dX1_allWater_18 : decode cX1_allWater 18 = .ok (.istore_n 1, 1) := by decide +kernel
theorem dX1_allWater_19 : decode cX1_allWater 19 = .ok (.iinc 2 1, 3) := by decide +kernel
theorem dX1_allWater_22 : decode cX1_allWater 22 = .ok (.goto (-18), 3) := by decide +kernel
theorem dX1_allWater_25 : decode cX1_allWater 25 = .ok (.iload_n 1, 1) := by decide +kernel
theorem dX1_allWater_26 : decode cX1_allWater 26 = .ok (.ireturn, 1) := by decide +kernel
theorem dX1_wetCells_0 : decode cX1_wetCells 0 = .ok (.lconst 0, 1) := by decide +kernel
theorem dX1_wetCells_1 : decode cX1_wetCells 1 = .ok (.lstore_n 1, 1) := by decide +kernel
theorem dX1_wetCells_2 : decode cX1_wetCells 2 = .ok (.iconst 0, 1) := by decide +kernel
theorem dX1_wetCells_3 : decode cX1_wetCells 3 = .ok (.istore_n 3, 1) := by decide +kernel
theorem dX1_wetCells_4 : decode cX1_wetCells 4 = .ok (.iload_n 3, 1) := by decide +kernel
theorem dX1_wetCells_5 : decode cX1_wetCells 5 = .ok (.bipush 32, 2) := by decide +kernel
theorem dX1_wetCells_7 : decode cX1_wetCells 7 = .ok (.if_icmp .ge 23, 3) := by decide +kernel
theorem dX1_wetCells_10 : decode cX1_wetCells 10 = .ok (.aload_n 0, 1) := by decide +kernel
theorem dX1_wetCells_11 : decode cX1_wetCells 11 = .ok (.iload_n 3, 1) := by decide +kernel
theorem dX1_wetCells_12 : decode cX1_wetCells 12 = .ok (.invokevirtual 96, 3) := by decide +kernel
theorem dX1_wetCells_15 : decode cX1_wetCells 15 = .ok (.ifCond .eq 9, 3) := by decide +kernel
theorem dX1_wetCells_18 : decode cX1_wetCells 18 = .ok (.lload_n 1, 1) := by decide +kernel
theorem dX1_wetCells_19 : decode cX1_wetCells 19 = .ok (.lconst 1, 1) := by decide +kernel
theorem dX1_wetCells_20 : decode cX1_wetCells 20 = .ok (.iload_n 3, 1) := by decide +kernel
theorem dX1_wetCells_21 : decode cX1_wetCells 21 = .ok (.lshl, 1) := by decide +kernel
theorem dX1_wetCells_22 : decode cX1_wetCells 22 = .ok (.lor, 1) := by decide +kernel
theorem dX1_wetCells_23 : decode cX1_wetCells 23 = .ok (.lstore_n 1, 1) := by decide +kernel
theorem dX1_wetCells_24 : decode cX1_wetCells 24 = .ok (.iinc 3 1, 3) := by decide +kernel
theorem dX1_wetCells_27 : decode cX1_wetCells 27 = .ok (.goto (-23), 3) := by decide +kernel
theorem dX1_wetCells_30 : decode cX1_wetCells 30 = .ok (.lload_n 1, 1) := by decide +kernel
theorem dX1_wetCells_31 : decode cX1_wetCells 31 = .ok (.lreturn, 1) := by decide +kernel
theorem dX1_trodCells_0 : decode cX1_trodCells 0 = .ok (.lconst 0, 1) := by decide +kernel
theorem dX1_trodCells_1 : decode cX1_trodCells 1 = .ok (.lstore_n 1, 1) := by decide +kernel
theorem dX1_trodCells_2 : decode cX1_trodCells 2 = .ok (.iconst 0, 1) := by decide +kernel
theorem dX1_trodCells_3 : decode cX1_trodCells 3 = .ok (.istore_n 3, 1) := by decide +kernel
theorem dX1_trodCells_4 : decode cX1_trodCells 4 = .ok (.iload_n 3, 1) := by decide +kernel
theorem dX1_trodCells_5 : decode cX1_trodCells 5 = .ok (.aload_n 0, 1) := by decide +kernel
theorem dX1_trodCells_6 : decode cX1_trodCells 6 = .ok (.getfield 49, 3) := by decide +kernel
theorem dX1_trodCells_9 : decode cX1_trodCells 9 = .ok (.if_icmp .ge 20, 3) := by decide +kernel
theorem dX1_trodCells_12 : decode cX1_trodCells 12 = .ok (.lload_n 1, 1) := by decide +kernel
theorem dX1_trodCells_13 : decode cX1_trodCells 13 = .ok (.lconst 1, 1) := by decide +kernel
theorem dX1_trodCells_14 : decode cX1_trodCells 14 = .ok (.aload_n 0, 1) := by decide +kernel
theorem dX1_trodCells_15 : decode cX1_trodCells 15 = .ok (.getfield 33, 3) := by decide +kernel
theorem dX1_trodCells_18 : decode cX1_trodCells 18 = .ok (.iload_n 3, 1) := by decide +kernel
theorem dX1_trodCells_19 : decode cX1_trodCells 19 = .ok (.iaload, 1) := by decide +kernel
theorem dX1_trodCells_20 : decode cX1_trodCells 20 = .ok (.lshl, 1) := by decide +kernel
theorem dX1_trodCells_21 : decode cX1_trodCells 21 = .ok (.lor, 1) := by decide +kernel
theorem dX1_trodCells_22 : decode cX1_trodCells 22 = .ok (.lstore_n 1, 1) := by decide +kernel
theorem dX1_trodCells_23 : decode cX1_trodCells 23 = .ok (.iinc 3 1, 3) := by decide +kernel
theorem dX1_trodCells_26 : decode cX1_trodCells 26 = .ok (.goto (-22), 3) := by decide +kernel
theorem dX1_trodCells_29 : decode cX1_trodCells 29 = .ok (.lload_n 1, 1) := by decide +kernel
theorem dX1_trodCells_30 : decode cX1_trodCells 30 = .ok (.lreturn, 1) := by decide +kernel
theorem dX1_hollows_0 : decode cX1_hollows 0 = .ok (.lconst 0, 1) := by decide +kernel
theorem dX1_hollows_1 : decode cX1_hollows 1 = .ok (.lstore_n 1, 1) := by decide +kernel
theorem dX1_hollows_2 : decode cX1_hollows 2 = .ok (.iconst 0, 1) := by decide +kernel
theorem dX1_hollows_3 : decode cX1_hollows 3 = .ok (.istore_n 3, 1) := by decide +kernel
theorem dX1_hollows_4 : decode cX1_hollows 4 = .ok (.iload_n 3, 1) := by decide +kernel
theorem dX1_hollows_5 : decode cX1_hollows 5 = .ok (.bipush 32, 2) := by decide +kernel
theorem dX1_hollows_7 : decode cX1_hollows 7 = .ok (.if_icmp .ge 24, 3) := by decide +kernel
theorem dX1_hollows_10 : decode cX1_hollows 10 = .ok (.aload_n 0, 1) := by decide +kernel
theorem dX1_hollows_11 : decode cX1_hollows 11 = .ok (.getfield 21, 3) := by decide +kernel
theorem dX1_hollows_14 : decode cX1_hollows 14 = .ok (.iload_n 3, 1) := by decide +kernel
theorem dX1_hollows_15 : decode cX1_hollows 15 = .ok (.iaload, 1) := by decide +kernel
theorem dX1_hollows_16 : decode cX1_hollows 16 = .ok (.ifCond .ge 9, 3) := by decide +kernel
theorem dX1_hollows_19 : decode cX1_hollows 19 = .ok (.lload_n 1, 1) := by decide +kernel
theorem dX1_hollows_20 : decode cX1_hollows 20 = .ok (.lconst 1, 1) := by decide +kernel
theorem dX1_hollows_21 : decode cX1_hollows 21 = .ok (.iload_n 3, 1) := by decide +kernel
theorem dX1_hollows_22 : decode cX1_hollows 22 = .ok (.lshl, 1) := by decide +kernel
theorem dX1_hollows_23 : decode cX1_hollows 23 = .ok (.lor, 1) := by decide +kernel
theorem dX1_hollows_24 : decode cX1_hollows 24 = .ok (.lstore_n 1, 1) := by decide +kernel
theorem dX1_hollows_25 : decode cX1_hollows 25 = .ok (.iinc 3 1, 3) := by decide +kernel
theorem dX1_hollows_28 : decode cX1_hollows 28 = .ok (.goto (-24), 3) := by decide +kernel
theorem dX1_hollows_31 : decode cX1_hollows 31 = .ok (.lload_n 1, 1) := by decide +kernel
theorem dX1_hollows_32 : decode cX1_hollows 32 = .ok (.lreturn, 1) := by decide +kernel
theorem dX1_partOfRow_0 : decode cX1_partOfRow 0 = .ok (.iload_n 2, 1) := by decide +kernel
theorem dX1_partOfRow_1 : decode cX1_partOfRow 1 = .ok (.lookupswitch 46 #[(0, 27), (1, 34)], 27) := by decide +kernel
theorem dX1_partOfRow_28 : decode cX1_partOfRow 28 = .ok (.aload_n 0, 1) := by decide +kernel
theorem dX1_partOfRow_29 : decode cX1_partOfRow 29 = .ok (.getfield 30, 3) := by decide +kernel
theorem dX1_partOfRow_32 : decode cX1_partOfRow 32 = .ok (.iload_n 1, 1) := by decide +kernel
theorem dX1_partOfRow_33 : decode cX1_partOfRow 33 = .ok (.iaload, 1) := by decide +kernel
theorem dX1_partOfRow_34 : decode cX1_partOfRow 34 = .ok (.ireturn, 1) := by decide +kernel
theorem dX1_partOfRow_35 : decode cX1_partOfRow 35 = .ok (.aload_n 0, 1) := by decide +kernel
theorem dX1_partOfRow_36 : decode cX1_partOfRow 36 = .ok (.getfield 18, 3) := by decide +kernel
theorem dX1_partOfRow_39 : decode cX1_partOfRow 39 = .ok (.aload_n 0, 1) := by decide +kernel
theorem dX1_partOfRow_40 : decode cX1_partOfRow 40 = .ok (.getfield 33, 3) := by decide +kernel
theorem dX1_partOfRow_43 : decode cX1_partOfRow 43 = .ok (.iload_n 1, 1) := by decide +kernel
theorem dX1_partOfRow_44 : decode cX1_partOfRow 44 = .ok (.iaload, 1) := by decide +kernel
theorem dX1_partOfRow_45 : decode cX1_partOfRow 45 = .ok (.iaload, 1) := by decide +kernel
theorem dX1_partOfRow_46 : decode cX1_partOfRow 46 = .ok (.ireturn, 1) := by decide +kernel
theorem dX1_partOfRow_47 : decode cX1_partOfRow 47 = .ok (.aload_n 0, 1) := by decide +kernel
theorem dX1_partOfRow_48 : decode cX1_partOfRow 48 = .ok (.invokevirtual 99, 3) := by decide +kernel
theorem dX1_partOfRow_51 : decode cX1_partOfRow 51 = .ok (.ireturn, 1) := by decide +kernel
theorem dX1_passYears_0 : decode cX1_passYears 0 = .ok (.iconst 0, 1) := by decide +kernel
theorem dX1_passYears_1 : decode cX1_passYears 1 = .ok (.istore_n 2, 1) := by decide +kernel
theorem dX1_passYears_2 : decode cX1_passYears 2 = .ok (.iload_n 2, 1) := by decide +kernel
theorem dX1_passYears_3 : decode cX1_passYears 3 = .ok (.iload_n 1, 1) := by decide +kernel
theorem dX1_passYears_4 : decode cX1_passYears 4 = .ok (.if_icmp .ge 13, 3) := by decide +kernel
theorem dX1_passYears_7 : decode cX1_passYears 7 = .ok (.aload_n 0, 1) := by decide +kernel
theorem dX1_passYears_8 : decode cX1_passYears 8 = .ok (.invokevirtual 103, 3) := by decide +kernel
theorem dX1_passYears_11 : decode cX1_passYears 11 = .ok (.iinc 2 1, 3) := by decide +kernel
theorem dX1_passYears_14 : decode cX1_passYears 14 = .ok (.goto (-12), 3) := by decide +kernel
theorem dX1_passYears_17 : decode cX1_passYears 17 = .ok (.return_, 1) := by decide +kernel
theorem dX1_passYear_0 : decode cX1_passYear 0 = .ok (.aload_n 0, 1) := by decide +kernel
theorem dX1_passYear_1 : decode cX1_passYear 1 = .ok (.invokevirtual 106, 3) := by decide +kernel
theorem dX1_passYear_4 : decode cX1_passYear 4 = .ok (.aload_n 0, 1) := by decide +kernel
theorem dX1_passYear_5 : decode cX1_passYear 5 = .ok (.invokevirtual 109, 3) := by decide +kernel
theorem dX1_passYear_8 : decode cX1_passYear 8 = .ok (.aload_n 0, 1) := by decide +kernel
theorem dX1_passYear_9 : decode cX1_passYear 9 = .ok (.invokevirtual 112, 3) := by decide +kernel
theorem dX1_passYear_12 : decode cX1_passYear 12 = .ok (.aload_n 0, 1) := by decide +kernel
theorem dX1_passYear_13 : decode cX1_passYear 13 = .ok (.dup, 1) := by decide +kernel
theorem dX1_passYear_14 : decode cX1_passYear 14 = .ok (.getfield 46, 3) := by decide +kernel
theorem dX1_passYear_17 : decode cX1_passYear 17 = .ok (.iconst 1, 1) := by decide +kernel
theorem dX1_passYear_18 : decode cX1_passYear 18 = .ok (.iadd, 1) := by decide +kernel
theorem dX1_passYear_19 : decode cX1_passYear 19 = .ok (.putfield 46, 3) := by decide +kernel
theorem dX1_passYear_22 : decode cX1_passYear 22 = .ok (.return_, 1) := by decide +kernel
theorem dX1_passYearByDraws_0 : decode cX1_passYearByDraws 0 = .ok (.aload_n 0, 1) := by decide +kernel
theorem dX1_passYearByDraws_1 : decode cX1_passYearByDraws 1 = .ok (.getfield 49, 3) := by decide +kernel
theorem dX1_passYearByDraws_4 : decode cX1_passYearByDraws 4 = .ok (.ifCond .le 39, 3) := by decide +kernel
theorem dX1_passYearByDraws_7 : decode cX1_passYearByDraws 7 = .ok (.aload_n 0, 1) := by decide +kernel
theorem dX1_passYearByDraws_8 : decode cX1_passYearByDraws 8 = .ok (.invokevirtual 115, 3) := by decide +kernel
theorem dX1_passYearByDraws_11 : decode cX1_passYearByDraws 11 = .ok (.aload_n 0, 1) := by decide +kernel
theorem dX1_passYearByDraws_12 : decode cX1_passYearByDraws 12 = .ok (.getfield 49, 3) := by decide +kernel
theorem dX1_passYearByDraws_15 : decode cX1_passYearByDraws 15 = .ok (.irem, 1) := by decide +kernel
theorem dX1_passYearByDraws_16 : decode cX1_passYearByDraws 16 = .ok (.istore_n 1, 1) := by decide +kernel
theorem dX1_passYearByDraws_17 : decode cX1_passYearByDraws 17 = .ok (.aload_n 0, 1) := by decide +kernel
theorem dX1_passYearByDraws_18 : decode cX1_passYearByDraws 18 = .ok (.invokevirtual 115, 3) := by decide +kernel
theorem dX1_passYearByDraws_21 : decode cX1_passYearByDraws 21 = .ok (.bipush 100, 2) := by decide +kernel
theorem dX1_passYearByDraws_23 : decode cX1_passYearByDraws 23 = .ok (.irem, 1) := by decide +kernel
theorem dX1_passYearByDraws_24 : decode cX1_passYearByDraws 24 = .ok (.aload_n 0, 1) := by decide +kernel
theorem dX1_passYearByDraws_25 : decode cX1_passYearByDraws 25 = .ok (.getfield 9, 3) := by decide +kernel
theorem dX1_passYearByDraws_28 : decode cX1_passYearByDraws 28 = .ok (.iconst 3, 1) := by decide +kernel
theorem dX1_passYearByDraws_29 : decode cX1_passYearByDraws 29 = .ok (.iaload, 1) := by decide +kernel
theorem dX1_passYearByDraws_30 : decode cX1_passYearByDraws 30 = .ok (.if_icmp .ge 13, 3) := by decide +kernel
theorem dX1_passYearByDraws_33 : decode cX1_passYearByDraws 33 = .ok (.aload_n 0, 1) := by decide +kernel
theorem dX1_passYearByDraws_34 : decode cX1_passYearByDraws 34 = .ok (.getfield 30, 3) := by decide +kernel
theorem dX1_passYearByDraws_37 : decode cX1_passYearByDraws 37 = .ok (.iload_n 1, 1) := by decide +kernel
theorem dX1_passYearByDraws_38 : decode cX1_passYearByDraws 38 = .ok (.dup2, 1) := by decide +kernel
theorem dX1_passYearByDraws_39 : decode cX1_passYearByDraws 39 = .ok (.iaload, 1) := by decide +kernel
theorem dX1_passYearByDraws_40 : decode cX1_passYearByDraws 40 = .ok (.iconst 2, 1) := by decide +kernel
theorem dX1_passYearByDraws_41 : decode cX1_passYearByDraws 41 = .ok (.idiv, 1) := by decide +kernel
theorem dX1_passYearByDraws_42 : decode cX1_passYearByDraws 42 = .ok (.iastore, 1) := by decide +kernel
theorem dX1_passYearByDraws_43 : decode cX1_passYearByDraws 43 = .ok (.aload_n 0, 1) := by decide +kernel
theorem dX1_passYearByDraws_44 : decode cX1_passYearByDraws 44 = .ok (.invokevirtual 103, 3) := by decide +kernel
theorem dX1_passYearByDraws_47 : decode cX1_passYearByDraws 47 = .ok (.return_, 1) := by decide +kernel
theorem dX1_draw_0 : decode cX1_draw 0 = .ok (.aload_n 0, 1) := by decide +kernel
theorem dX1_draw_1 : decode cX1_draw 1 = .ok (.aload_n 0, 1) := by decide +kernel
theorem dX1_draw_2 : decode cX1_draw 2 = .ok (.getfield 36, 3) := by decide +kernel
theorem dX1_draw_5 : decode cX1_draw 5 = .ok (.ldc 118, 2) := by decide +kernel
theorem dX1_draw_7 : decode cX1_draw 7 = .ok (.imul, 1) := by decide +kernel
theorem dX1_draw_8 : decode cX1_draw 8 = .ok (.sipush 12345, 3) := by decide +kernel
theorem dX1_draw_11 : decode cX1_draw 11 = .ok (.iadd, 1) := by decide +kernel
theorem dX1_draw_12 : decode cX1_draw 12 = .ok (.putfield 36, 3) := by decide +kernel
theorem dX1_draw_15 : decode cX1_draw 15 = .ok (.aload_n 0, 1) := by decide +kernel
theorem dX1_draw_16 : decode cX1_draw 16 = .ok (.getfield 36, 3) := by decide +kernel
theorem dX1_draw_19 : decode cX1_draw 19 = .ok (.bipush 16, 2) := by decide +kernel
theorem dX1_draw_21 : decode cX1_draw 21 = .ok (.iushr, 1) := by decide +kernel
theorem dX1_draw_22 : decode cX1_draw 22 = .ok (.ireturn, 1) := by decide +kernel
theorem dX1_pour_0 : decode cX1_pour 0 = .ok (.aload_n 0, 1) := by decide +kernel
theorem dX1_pour_1 : decode cX1_pour 1 = .ok (.getfield 18, 3) := by decide +kernel
theorem dX1_pour_4 : decode cX1_pour 4 = .ok (.iload_n 1, 1) := by decide +kernel
theorem dX1_pour_5 : decode cX1_pour 5 = .ok (.bipush 99, 2) := by decide +kernel
theorem dX1_pour_7 : decode cX1_pour 7 = .ok (.aload_n 0, 1) := by decide +kernel
theorem dX1_pour_8 : decode cX1_pour 8 = .ok (.getfield 18, 3) := by decide +kernel
theorem dX1_pour_11 : decode cX1_pour 11 = .ok (.iload_n 1, 1) := by decide +kernel
theorem dX1_pour_12 : decode cX1_pour 12 = .ok (.iaload, 1) := by decide +kernel
theorem dX1_pour_13 : decode cX1_pour 13 = .ok (.iload_n 2, 1) := by decide +kernel
theorem dX1_pour_14 : decode cX1_pour 14 = .ok (.iadd, 1) := by decide +kernel
theorem dX1_pour_15 : decode cX1_pour 15 = .ok (.invokestatic 119, 3) := by decide +kernel
theorem dX1_pour_18 : decode cX1_pour 18 = .ok (.iastore, 1) := by decide +kernel
theorem dX1_pour_19 : decode cX1_pour 19 = .ok (.return_, 1) := by decide +kernel
theorem dX1_wellUp_0 : decode cX1_wellUp 0 = .ok (.iconst 0, 1) := by decide +kernel
theorem dX1_wellUp_1 : decode cX1_wellUp 1 = .ok (.istore_n 1, 1) := by decide +kernel
theorem dX1_wellUp_2 : decode cX1_wellUp 2 = .ok (.iload_n 1, 1) := by decide +kernel
theorem dX1_wellUp_3 : decode cX1_wellUp 3 = .ok (.aload_n 0, 1) := by decide +kernel
theorem dX1_wellUp_4 : decode cX1_wellUp 4 = .ok (.getfield 49, 3) := by decide +kernel
theorem dX1_wellUp_7 : decode cX1_wellUp 7 = .ok (.if_icmp .ge 62, 3) := by decide +kernel
theorem dX1_wellUp_10 : decode cX1_wellUp 10 = .ok (.aload_n 0, 1) := by decide +kernel
theorem dX1_wellUp_11 : decode cX1_wellUp 11 = .ok (.aload_n 0, 1) := by decide +kernel
theorem dX1_wellUp_12 : decode cX1_wellUp 12 = .ok (.getfield 33, 3) := by decide +kernel
theorem dX1_wellUp_15 : decode cX1_wellUp 15 = .ok (.iload_n 1, 1) := by decide +kernel
theorem dX1_wellUp_16 : decode cX1_wellUp 16 = .ok (.iaload, 1) := by decide +kernel
theorem dX1_wellUp_17 : decode cX1_wellUp 17 = .ok (.aload_n 0, 1) := by decide +kernel
theorem dX1_wellUp_18 : decode cX1_wellUp 18 = .ok (.iload_n 1, 1) := by decide +kernel
theorem dX1_wellUp_19 : decode cX1_wellUp 19 = .ok (.invokevirtual 85, 3) := by decide +kernel
theorem dX1_wellUp_22 : decode cX1_wellUp 22 = .ok (.invokevirtual 122, 3) := by decide +kernel
theorem dX1_wellUp_25 : decode cX1_wellUp 25 = .ok (.iconst 0, 1) := by decide +kernel
theorem dX1_wellUp_26 : decode cX1_wellUp 26 = .ok (.istore_n 2, 1) := by decide +kernel
theorem dX1_wellUp_27 : decode cX1_wellUp 27 = .ok (.iload_n 2, 1) := by decide +kernel
theorem dX1_wellUp_28 : decode cX1_wellUp 28 = .ok (.iload_n 1, 1) := by decide +kernel
theorem dX1_wellUp_29 : decode cX1_wellUp 29 = .ok (.if_icmp .ge 34, 3) := by decide +kernel
theorem dX1_wellUp_32 : decode cX1_wellUp 32 = .ok (.aload_n 0, 1) := by decide +kernel
theorem dX1_wellUp_33 : decode cX1_wellUp 33 = .ok (.iload_n 1, 1) := by decide +kernel
theorem dX1_wellUp_34 : decode cX1_wellUp 34 = .ok (.iload_n 2, 1) := by decide +kernel
theorem dX1_wellUp_35 : decode cX1_wellUp 35 = .ok (.invokevirtual 81, 3) := by decide +kernel
theorem dX1_wellUp_38 : decode cX1_wellUp 38 = .ok (.ifCond .eq 19, 3) := by decide +kernel
theorem dX1_wellUp_41 : decode cX1_wellUp 41 = .ok (.aload_n 0, 1) := by decide +kernel
theorem dX1_wellUp_42 : decode cX1_wellUp 42 = .ok (.aload_n 0, 1) := by decide +kernel
theorem dX1_wellUp_43 : decode cX1_wellUp 43 = .ok (.getfield 33, 3) := by decide +kernel
theorem dX1_wellUp_46 : decode cX1_wellUp 46 = .ok (.iload_n 1, 1) := by decide +kernel
theorem dX1_wellUp_47 : decode cX1_wellUp 47 = .ok (.iaload, 1) := by decide +kernel
theorem dX1_wellUp_48 : decode cX1_wellUp 48 = .ok (.aload_n 0, 1) := by decide +kernel
theorem dX1_wellUp_49 : decode cX1_wellUp 49 = .ok (.getfield 9, 3) := by decide +kernel
theorem dX1_wellUp_52 : decode cX1_wellUp 52 = .ok (.iconst 1, 1) := by decide +kernel
theorem dX1_wellUp_53 : decode cX1_wellUp 53 = .ok (.iaload, 1) := by decide +kernel
theorem dX1_wellUp_54 : decode cX1_wellUp 54 = .ok (.invokevirtual 122, 3) := by decide +kernel
theorem dX1_wellUp_57 : decode cX1_wellUp 57 = .ok (.iinc 2 1, 3) := by decide +kernel
theorem dX1_wellUp_60 : decode cX1_wellUp 60 = .ok (.goto (-33), 3) := by decide +kernel
theorem dX1_wellUp_63 : decode cX1_wellUp 63 = .ok (.iinc 1 1, 3) := by decide +kernel
theorem dX1_wellUp_66 : decode cX1_wellUp 66 = .ok (.goto (-64), 3) := by decide +kernel
theorem dX1_wellUp_69 : decode cX1_wellUp 69 = .ok (.return_, 1) := by decide +kernel
theorem dX1_runDown_0 : decode cX1_runDown 0 = .ok (.iconst 0, 1) := by decide +kernel
theorem dX1_runDown_1 : decode cX1_runDown 1 = .ok (.istore_n 1, 1) := by decide +kernel
theorem dX1_runDown_2 : decode cX1_runDown 2 = .ok (.iload_n 1, 1) := by decide +kernel
theorem dX1_runDown_3 : decode cX1_runDown 3 = .ok (.bipush 32, 2) := by decide +kernel
theorem dX1_runDown_5 : decode cX1_runDown 5 = .ok (.if_icmp .ge 59, 3) := by decide +kernel
theorem dX1_runDown_8 : decode cX1_runDown 8 = .ok (.aload_n 0, 1) := by decide +kernel
theorem dX1_runDown_9 : decode cX1_runDown 9 = .ok (.getfield 18, 3) := by decide +kernel
theorem dX1_runDown_12 : decode cX1_runDown 12 = .ok (.iload_n 1, 1) := by decide +kernel
theorem dX1_runDown_13 : decode cX1_runDown 13 = .ok (.iaload, 1) := by decide +kernel
theorem dX1_runDown_14 : decode cX1_runDown 14 = .ok (.aload_n 0, 1) := by decide +kernel
theorem dX1_runDown_15 : decode cX1_runDown 15 = .ok (.getfield 9, 3) := by decide +kernel
theorem dX1_runDown_18 : decode cX1_runDown 18 = .ok (.iconst 2, 1) := by decide +kernel
theorem dX1_runDown_19 : decode cX1_runDown 19 = .ok (.iaload, 1) := by decide +kernel
theorem dX1_runDown_20 : decode cX1_runDown 20 = .ok (.isub, 1) := by decide +kernel
theorem dX1_runDown_21 : decode cX1_runDown 21 = .ok (.iconst 2, 1) := by decide +kernel
theorem dX1_runDown_22 : decode cX1_runDown 22 = .ok (.idiv, 1) := by decide +kernel
theorem dX1_runDown_23 : decode cX1_runDown 23 = .ok (.istore_n 2, 1) := by decide +kernel
theorem dX1_runDown_24 : decode cX1_runDown 24 = .ok (.iload_n 2, 1) := by decide +kernel
theorem dX1_runDown_25 : decode cX1_runDown 25 = .ok (.ifCond .le 33, 3) := by decide +kernel
theorem dX1_runDown_28 : decode cX1_runDown 28 = .ok (.aload_n 0, 1) := by decide +kernel
theorem dX1_runDown_29 : decode cX1_runDown 29 = .ok (.getfield 21, 3) := by decide +kernel
theorem dX1_runDown_32 : decode cX1_runDown 32 = .ok (.iload_n 1, 1) := by decide +kernel
theorem dX1_runDown_33 : decode cX1_runDown 33 = .ok (.iaload, 1) := by decide +kernel
theorem dX1_runDown_34 : decode cX1_runDown 34 = .ok (.ifCond .lt 24, 3) := by decide +kernel
theorem dX1_runDown_37 : decode cX1_runDown 37 = .ok (.aload_n 0, 1) := by decide +kernel
theorem dX1_runDown_38 : decode cX1_runDown 38 = .ok (.getfield 18, 3) := by decide +kernel
theorem dX1_runDown_41 : decode cX1_runDown 41 = .ok (.iload_n 1, 1) := by decide +kernel
theorem dX1_runDown_42 : decode cX1_runDown 42 = .ok (.dup2, 1) := by decide +kernel
theorem dX1_runDown_43 : decode cX1_runDown 43 = .ok (.iaload, 1) := by decide +kernel
theorem dX1_runDown_44 : decode cX1_runDown 44 = .ok (.iload_n 2, 1) := by decide +kernel
theorem dX1_runDown_45 : decode cX1_runDown 45 = .ok (.isub, 1) := by decide +kernel
theorem dX1_runDown_46 : decode cX1_runDown 46 = .ok (.iastore, 1) := by decide +kernel
theorem dX1_runDown_47 : decode cX1_runDown 47 = .ok (.aload_n 0, 1) := by decide +kernel
theorem dX1_runDown_48 : decode cX1_runDown 48 = .ok (.aload_n 0, 1) := by decide +kernel
theorem dX1_runDown_49 : decode cX1_runDown 49 = .ok (.getfield 21, 3) := by decide +kernel
theorem dX1_runDown_52 : decode cX1_runDown 52 = .ok (.iload_n 1, 1) := by decide +kernel
theorem dX1_runDown_53 : decode cX1_runDown 53 = .ok (.iaload, 1) := by decide +kernel
theorem dX1_runDown_54 : decode cX1_runDown 54 = .ok (.iload_n 2, 1) := by decide +kernel
theorem dX1_runDown_55 : decode cX1_runDown 55 = .ok (.invokevirtual 122, 3) := by decide +kernel
theorem dX1_runDown_58 : decode cX1_runDown 58 = .ok (.iinc 1 1, 3) := by decide +kernel
theorem dX1_runDown_61 : decode cX1_runDown 61 = .ok (.goto (-59), 3) := by decide +kernel
theorem dX1_runDown_64 : decode cX1_runDown 64 = .ok (.return_, 1) := by decide +kernel
theorem dX1_changeMinds_0 : decode cX1_changeMinds 0 = .ok (.iconst 0, 1) := by decide +kernel
theorem dX1_changeMinds_1 : decode cX1_changeMinds 1 = .ok (.istore_n 1, 1) := by decide +kernel
theorem dX1_changeMinds_2 : decode cX1_changeMinds 2 = .ok (.iload_n 1, 1) := by decide +kernel
theorem dX1_changeMinds_3 : decode cX1_changeMinds 3 = .ok (.aload_n 0, 1) := by decide +kernel
theorem dX1_changeMinds_4 : decode cX1_changeMinds 4 = .ok (.getfield 49, 3) := by decide +kernel
theorem dX1_changeMinds_7 : decode cX1_changeMinds 7 = .ok (.if_icmp .ge 62, 3) := by decide +kernel
theorem dX1_changeMinds_10 : decode cX1_changeMinds 10 = .ok (.aload_n 0, 1) := by decide +kernel
theorem dX1_changeMinds_11 : decode cX1_changeMinds 11 = .ok (.iload_n 1, 1) := by decide +kernel
theorem dX1_changeMinds_12 : decode cX1_changeMinds 12 = .ok (.invokevirtual 69, 3) := by decide +kernel
theorem dX1_changeMinds_15 : decode cX1_changeMinds 15 = .ok (.ifCond .ne 48, 3) := by decide +kernel
theorem dX1_changeMinds_18 : decode cX1_changeMinds 18 = .ok (.aload_n 0, 1) := by decide +kernel
theorem dX1_changeMinds_19 : decode cX1_changeMinds 19 = .ok (.aload_n 0, 1) := by decide +kernel
theorem dX1_changeMinds_20 : decode cX1_changeMinds 20 = .ok (.getfield 33, 3) := by decide +kernel
theorem dX1_changeMinds_23 : decode cX1_changeMinds 23 = .ok (.iload_n 1, 1) := by decide +kernel
theorem dX1_changeMinds_24 : decode cX1_changeMinds 24 = .ok (.iaload, 1) := by decide +kernel
theorem dX1_changeMinds_25 : decode cX1_changeMinds 25 = .ok (.invokevirtual 96, 3) := by decide +kernel
theorem dX1_changeMinds_28 : decode cX1_changeMinds 28 = .ok (.ifCond .eq 12, 3) := by decide +kernel
theorem dX1_changeMinds_31 : decode cX1_changeMinds 31 = .ok (.aload_n 0, 1) := by decide +kernel
theorem dX1_changeMinds_32 : decode cX1_changeMinds 32 = .ok (.iload_n 1, 1) := by decide +kernel
theorem dX1_changeMinds_33 : decode cX1_changeMinds 33 = .ok (.invokevirtual 126, 3) := by decide +kernel
theorem dX1_changeMinds_36 : decode cX1_changeMinds 36 = .ok (.ineg, 1) := by decide +kernel
theorem dX1_changeMinds_37 : decode cX1_changeMinds 37 = .ok (.goto 8, 3) := by decide +kernel
theorem dX1_changeMinds_40 : decode cX1_changeMinds 40 = .ok (.aload_n 0, 1) := by decide +kernel
theorem dX1_changeMinds_41 : decode cX1_changeMinds 41 = .ok (.iload_n 1, 1) := by decide +kernel
theorem dX1_changeMinds_42 : decode cX1_changeMinds 42 = .ok (.invokevirtual 129, 3) := by decide +kernel
theorem dX1_changeMinds_45 : decode cX1_changeMinds 45 = .ok (.istore_n 2, 1) := by decide +kernel
theorem dX1_changeMinds_46 : decode cX1_changeMinds 46 = .ok (.aload_n 0, 1) := by decide +kernel
theorem dX1_changeMinds_47 : decode cX1_changeMinds 47 = .ok (.getfield 30, 3) := by decide +kernel
theorem dX1_changeMinds_50 : decode cX1_changeMinds 50 = .ok (.iload_n 1, 1) := by decide +kernel
theorem dX1_changeMinds_51 : decode cX1_changeMinds 51 = .ok (.aload_n 0, 1) := by decide +kernel
theorem dX1_changeMinds_52 : decode cX1_changeMinds 52 = .ok (.getfield 30, 3) := by decide +kernel
theorem dX1_changeMinds_55 : decode cX1_changeMinds 55 = .ok (.iload_n 1, 1) := by decide +kernel
theorem dX1_changeMinds_56 : decode cX1_changeMinds 56 = .ok (.iaload, 1) := by decide +kernel
theorem dX1_changeMinds_57 : decode cX1_changeMinds 57 = .ok (.iload_n 2, 1) := by decide +kernel
theorem dX1_changeMinds_58 : decode cX1_changeMinds 58 = .ok (.iadd, 1) := by decide +kernel
theorem dX1_changeMinds_59 : decode cX1_changeMinds 59 = .ok (.invokestatic 132, 3) := by decide +kernel
theorem dX1_changeMinds_62 : decode cX1_changeMinds 62 = .ok (.iastore, 1) := by decide +kernel
theorem dX1_changeMinds_63 : decode cX1_changeMinds 63 = .ok (.iinc 1 1, 3) := by decide +kernel
theorem dX1_changeMinds_66 : decode cX1_changeMinds 66 = .ok (.goto (-64), 3) := by decide +kernel
theorem dX1_changeMinds_69 : decode cX1_changeMinds 69 = .ok (.return_, 1) := by decide +kernel
theorem dX2_init_0 : decode cX2_init 0 = .ok (.aload_n 0, 1) := by decide +kernel
theorem dX2_init_1 : decode cX2_init 1 = .ok (.invokespecial 3, 3) := by decide +kernel
theorem dX2_init_4 : decode cX2_init 4 = .ok (.aload_n 0, 1) := by decide +kernel
theorem dX2_init_5 : decode cX2_init 5 = .ok (.sipush 200, 3) := by decide +kernel
theorem dX2_init_8 : decode cX2_init 8 = .ok (.newarray .byte, 2) := by decide +kernel
theorem dX2_init_10 : decode cX2_init 10 = .ok (.putfield 9, 3) := by decide +kernel
theorem dX2_init_13 : decode cX2_init 13 = .ok (.return_, 1) := by decide +kernel
theorem dX2_takes_0 : decode cX2_takes 0 = .ok (.iload_n 3, 1) := by decide +kernel
theorem dX2_takes_1 : decode cX2_takes 1 = .ok (.sipush 200, 3) := by decide +kernel
theorem dX2_takes_4 : decode cX2_takes 4 = .ok (.aload_n 0, 1) := by decide +kernel
theorem dX2_takes_5 : decode cX2_takes 5 = .ok (.getfield 15, 3) := by decide +kernel
theorem dX2_takes_8 : decode cX2_takes 8 = .ok (.isub, 1) := by decide +kernel
theorem dX2_takes_9 : decode cX2_takes 9 = .ok (.if_icmp .le 5, 3) := by decide +kernel
theorem dX2_takes_12 : decode cX2_takes 12 = .ok (.iconst 0, 1) := by decide +kernel
theorem dX2_takes_13 : decode cX2_takes 13 = .ok (.ireturn, 1) := by decide +kernel
theorem dX2_takes_14 : decode cX2_takes 14 = .ok (.iconst 0, 1) := by decide +kernel
theorem dX2_takes_15 : decode cX2_takes 15 = .ok (.istore 4, 2) := by decide +kernel
theorem dX2_takes_17 : decode cX2_takes 17 = .ok (.iload 4, 2) := by decide +kernel
theorem dX2_takes_19 : decode cX2_takes 19 = .ok (.iload_n 3, 1) := by decide +kernel
theorem dX2_takes_20 : decode cX2_takes 20 = .ok (.if_icmp .ge 37, 3) := by decide +kernel
theorem dX2_takes_23 : decode cX2_takes 23 = .ok (.aload_n 0, 1) := by decide +kernel
theorem dX2_takes_24 : decode cX2_takes 24 = .ok (.getfield 9, 3) := by decide +kernel
theorem dX2_takes_27 : decode cX2_takes 27 = .ok (.aload_n 0, 1) := by decide +kernel
theorem dX2_takes_28 : decode cX2_takes 28 = .ok (.getfield 15, 3) := by decide +kernel
theorem dX2_takes_31 : decode cX2_takes 31 = .ok (.lload_n 1, 1) := by decide +kernel
theorem dX2_takes_32 : decode cX2_takes 32 = .ok (.bipush 8, 2) := by decide +kernel
theorem dX2_takes_34 : decode cX2_takes 34 = .ok (.iload 4, 2) := by decide +kernel
theorem dX2_takes_36 : decode cX2_takes 36 = .ok (.imul, 1) := by decide +kernel
theorem dX2_takes_37 : decode cX2_takes 37 = .ok (.lushr, 1) := by decide +kernel
theorem dX2_takes_38 : decode cX2_takes 38 = .ok (.l2i, 1) := by decide +kernel
theorem dX2_takes_39 : decode cX2_takes 39 = .ok (.i2b, 1) := by decide +kernel
theorem dX2_takes_40 : decode cX2_takes 40 = .ok (.bastore, 1) := by decide +kernel
theorem dX2_takes_41 : decode cX2_takes 41 = .ok (.aload_n 0, 1) := by decide +kernel
theorem dX2_takes_42 : decode cX2_takes 42 = .ok (.dup, 1) := by decide +kernel
theorem dX2_takes_43 : decode cX2_takes 43 = .ok (.getfield 15, 3) := by decide +kernel
theorem dX2_takes_46 : decode cX2_takes 46 = .ok (.iconst 1, 1) := by decide +kernel
theorem dX2_takes_47 : decode cX2_takes 47 = .ok (.iadd, 1) := by decide +kernel
theorem dX2_takes_48 : decode cX2_takes 48 = .ok (.putfield 15, 3) := by decide +kernel
theorem dX2_takes_51 : decode cX2_takes 51 = .ok (.iinc 4 1, 3) := by decide +kernel
theorem dX2_takes_54 : decode cX2_takes 54 = .ok (.goto (-37), 3) := by decide +kernel
theorem dX2_takes_57 : decode cX2_takes 57 = .ok (.iconst 1, 1) := by decide +kernel
theorem dX2_takes_58 : decode cX2_takes 58 = .ok (.ireturn, 1) := by decide +kernel
theorem dX2_readInto_0 : decode cX2_readInto 0 = .ok (.aload_n 0, 1) := by decide +kernel
theorem dX2_readInto_1 : decode cX2_readInto 1 = .ok (.iconst 0, 1) := by decide +kernel
theorem dX2_readInto_2 : decode cX2_readInto 2 = .ok (.putfield 19, 3) := by decide +kernel
theorem dX2_readInto_5 : decode cX2_readInto 5 = .ok (.aload_n 0, 1) := by decide +kernel
theorem dX2_readInto_6 : decode cX2_readInto 6 = .ok (.iconst (-1), 1) := by decide +kernel
theorem dX2_readInto_7 : decode cX2_readInto 7 = .ok (.putfield 22, 3) := by decide +kernel
theorem dX2_readInto_10 : decode cX2_readInto 10 = .ok (.aload_n 0, 1) := by decide +kernel
theorem dX2_readInto_11 : decode cX2_readInto 11 = .ok (.invokevirtual 25, 3) := by decide +kernel
theorem dX2_readInto_14 : decode cX2_readInto 14 = .ok (.iconst 0, 1) := by decide +kernel
theorem dX2_readInto_15 : decode cX2_readInto 15 = .ok (.istore_n 2, 1) := by decide +kernel
theorem dX2_readInto_16 : decode cX2_readInto 16 = .ok (.iload_n 2, 1) := by decide +kernel
theorem dX2_readInto_17 : decode cX2_readInto 17 = .ok (.sipush 200, 3) := by decide +kernel
theorem dX2_readInto_20 : decode cX2_readInto 20 = .ok (.if_icmp .ge 42, 3) := by decide +kernel
theorem dX2_readInto_23 : decode cX2_readInto 23 = .ok (.aload_n 0, 1) := by decide +kernel
theorem dX2_readInto_24 : decode cX2_readInto 24 = .ok (.getfield 19, 3) := by decide +kernel
theorem dX2_readInto_27 : decode cX2_readInto 27 = .ok (.aload_n 0, 1) := by decide +kernel
theorem dX2_readInto_28 : decode cX2_readInto 28 = .ok (.getfield 15, 3) := by decide +kernel
theorem dX2_readInto_31 : decode cX2_readInto 31 = .ok (.if_icmp .ge 31, 3) := by decide +kernel
theorem dX2_readInto_34 : decode cX2_readInto 34 = .ok (.aload_n 0, 1) := by decide +kernel
theorem dX2_readInto_35 : decode cX2_readInto 35 = .ok (.getfield 22, 3) := by decide +kernel
theorem dX2_readInto_38 : decode cX2_readInto 38 = .ok (.ifCond .ge 24, 3) := by decide +kernel
theorem dX2_readInto_41 : decode cX2_readInto 41 = .ok (.aload_n 0, 1) := by decide +kernel
theorem dX2_readInto_42 : decode cX2_readInto 42 = .ok (.aload_n 1, 1) := by decide +kernel
theorem dX2_readInto_43 : decode cX2_readInto 43 = .ok (.invokevirtual 28, 3) := by decide +kernel
theorem dX2_readInto_46 : decode cX2_readInto 46 = .ok (.aload_n 0, 1) := by decide +kernel
theorem dX2_readInto_47 : decode cX2_readInto 47 = .ok (.bipush 59, 2) := by decide +kernel
theorem dX2_readInto_49 : decode cX2_readInto 49 = .ok (.invokevirtual 32, 3) := by decide +kernel
theorem dX2_readInto_52 : decode cX2_readInto 52 = .ok (.aload_n 0, 1) := by decide +kernel
theorem dX2_readInto_53 : decode cX2_readInto 53 = .ok (.invokevirtual 25, 3) := by decide +kernel
theorem dX2_readInto_56 : decode cX2_readInto 56 = .ok (.iinc 2 1, 3) := by decide +kernel
theorem dX2_readInto_59 : decode cX2_readInto 59 = .ok (.goto (-43), 3) := by decide +kernel
theorem dX2_readInto_62 : decode cX2_readInto 62 = .ok (.aload_n 0, 1) := by decide +kernel
theorem dX2_readInto_63 : decode cX2_readInto 63 = .ok (.getfield 22, 3) := by decide +kernel
theorem dX2_readInto_66 : decode cX2_readInto 66 = .ok (.ireturn, 1) := by decide +kernel
theorem dX2_readSentence_0 : decode cX2_readSentence 0 = .ok (.aload_n 0, 1) := by decide +kernel
theorem dX2_readSentence_1 : decode cX2_readSentence 1 = .ok (.invokevirtual 36, 3) := by decide +kernel
theorem dX2_readSentence_4 : decode cX2_readSentence 4 = .ok (.istore_n 2, 1) := by decide +kernel
theorem dX2_readSentence_5 : decode cX2_readSentence 5 = .ok (.aload_n 0, 1) := by decide +kernel
theorem dX2_readSentence_6 : decode cX2_readSentence 6 = .ok (.invokevirtual 40, 3) := by decide +kernel
theorem dX2_readSentence_9 : decode cX2_readSentence 9 = .ok (.istore_n 3, 1) := by decide +kernel
theorem dX2_readSentence_10 : decode cX2_readSentence 10 = .ok (.iload_n 2, 1) := by decide +kernel
theorem dX2_readSentence_11 : decode cX2_readSentence 11 = .ok (.ifCond .lt 12, 3) := by decide +kernel
theorem dX2_readSentence_14 : decode cX2_readSentence 14 = .ok (.aload_n 0, 1) := by decide +kernel
theorem dX2_readSentence_15 : decode cX2_readSentence 15 = .ok (.aload_n 1, 1) := by decide +kernel
theorem dX2_readSentence_16 : decode cX2_readSentence 16 = .ok (.iload_n 2, 1) := by decide +kernel
theorem dX2_readSentence_17 : decode cX2_readSentence 17 = .ok (.invokevirtual 43, 3) := by decide +kernel
theorem dX2_readSentence_20 : decode cX2_readSentence 20 = .ok (.goto 114, 3) := by decide +kernel
theorem dX2_readSentence_23 : decode cX2_readSentence 23 = .ok (.aload_n 0, 1) := by decide +kernel
theorem dX2_readSentence_24 : decode cX2_readSentence 24 = .ok (.ldc 47, 2) := by decide +kernel
theorem dX2_readSentence_26 : decode cX2_readSentence 26 = .ok (.invokevirtual 49, 3) := by decide +kernel
theorem dX2_readSentence_29 : decode cX2_readSentence 29 = .ok (.ifCond .eq 30, 3) := by decide +kernel
theorem dX2_readSentence_32 : decode cX2_readSentence 32 = .ok (.aload_n 0, 1) := by decide +kernel
theorem dX2_readSentence_33 : decode cX2_readSentence 33 = .ok (.ldc 47, 2) := by decide +kernel
theorem dX2_readSentence_35 : decode cX2_readSentence 35 = .ok (.invokevirtual 53, 3) := by decide +kernel
theorem dX2_readSentence_38 : decode cX2_readSentence 38 = .ok (.aload_n 0, 1) := by decide +kernel
theorem dX2_readSentence_39 : decode cX2_readSentence 39 = .ok (.invokevirtual 57, 3) := by decide +kernel
theorem dX2_readSentence_42 : decode cX2_readSentence 42 = .ok (.istore 4, 2) := by decide +kernel
theorem dX2_readSentence_44 : decode cX2_readSentence 44 = .ok (.aload_n 1, 1) := by decide +kernel
theorem dX2_readSentence_45 : decode cX2_readSentence 45 = .ok (.iload 4, 2) := by decide +kernel
theorem dX2_readSentence_47 : decode cX2_readSentence 47 = .ok (.aload_n 0, 1) := by decide +kernel
theorem dX2_readSentence_48 : decode cX2_readSentence 48 = .ok (.bipush 9, 2) := by decide +kernel
theorem dX2_readSentence_50 : decode cX2_readSentence 50 = .ok (.invokevirtual 60, 3) := by decide +kernel
theorem dX2_readSentence_53 : decode cX2_readSentence 53 = .ok (.invokevirtual 64, 3) := by decide +kernel
theorem dX2_readSentence_56 : decode cX2_readSentence 56 = .ok (.goto 78, 3) := by decide +kernel
theorem dX2_readSentence_59 : decode cX2_readSentence 59 = .ok (.aload_n 0, 1) := by decide +kernel
theorem dX2_readSentence_60 : decode cX2_readSentence 60 = .ok (.ldc 70, 2) := by decide +kernel
theorem dX2_readSentence_62 : decode cX2_readSentence 62 = .ok (.invokevirtual 49, 3) := by decide +kernel
theorem dX2_readSentence_65 : decode cX2_readSentence 65 = .ok (.ifCond .eq 31, 3) := by decide +kernel
theorem dX2_readSentence_68 : decode cX2_readSentence 68 = .ok (.aload_n 0, 1) := by decide +kernel
theorem dX2_readSentence_69 : decode cX2_readSentence 69 = .ok (.ldc 70, 2) := by decide +kernel
theorem dX2_readSentence_71 : decode cX2_readSentence 71 = .ok (.invokevirtual 53, 3) := by decide +kernel
theorem dX2_readSentence_74 : decode cX2_readSentence 74 = .ok (.aload_n 0, 1) := by decide +kernel
theorem dX2_readSentence_75 : decode cX2_readSentence 75 = .ok (.invokevirtual 57, 3) := by decide +kernel
theorem dX2_readSentence_78 : decode cX2_readSentence 78 = .ok (.istore 4, 2) := by decide +kernel
theorem dX2_readSentence_80 : decode cX2_readSentence 80 = .ok (.aload_n 1, 1) := by decide +kernel
theorem dX2_readSentence_81 : decode cX2_readSentence 81 = .ok (.getfield 72, 3) := by decide +kernel
theorem dX2_readSentence_84 : decode cX2_readSentence 84 = .ok (.iload 4, 2) := by decide +kernel
theorem dX2_readSentence_86 : decode cX2_readSentence 86 = .ok (.aload_n 0, 1) := by decide +kernel
theorem dX2_readSentence_87 : decode cX2_readSentence 87 = .ok (.bipush 99, 2) := by decide +kernel
theorem dX2_readSentence_89 : decode cX2_readSentence 89 = .ok (.invokevirtual 60, 3) := by decide +kernel
theorem dX2_readSentence_92 : decode cX2_readSentence 92 = .ok (.iastore, 1) := by decide +kernel
theorem dX2_readSentence_93 : decode cX2_readSentence 93 = .ok (.goto 41, 3) := by decide +kernel
theorem dX2_readSentence_96 : decode cX2_readSentence 96 = .ok (.iload_n 3, 1) := by decide +kernel
theorem dX2_readSentence_97 : decode cX2_readSentence 97 = .ok (.ifCond .lt 29, 3) := by decide +kernel
theorem dX2_readSentence_100 : decode cX2_readSentence 100 = .ok (.aload_n 0, 1) := by decide +kernel
theorem dX2_readSentence_101 : decode cX2_readSentence 101 = .ok (.iload_n 3, 1) := by decide +kernel
theorem dX2_readSentence_102 : decode cX2_readSentence 102 = .ok (.invokestatic 76, 3) := by decide +kernel
theorem dX2_readSentence_105 : decode cX2_readSentence 105 = .ok (.invokevirtual 53, 3) := by decide +kernel
theorem dX2_readSentence_108 : decode cX2_readSentence 108 = .ok (.aload_n 1, 1) := by decide +kernel
theorem dX2_readSentence_109 : decode cX2_readSentence 109 = .ok (.getfield 80, 3) := by decide +kernel
theorem dX2_readSentence_112 : decode cX2_readSentence 112 = .ok (.iload_n 3, 1) := by decide +kernel
theorem dX2_readSentence_113 : decode cX2_readSentence 113 = .ok (.aload_n 0, 1) := by decide +kernel
theorem dX2_readSentence_114 : decode cX2_readSentence 114 = .ok (.getstatic 83, 3) := by decide +kernel
theorem dX2_readSentence_117 : decode cX2_readSentence 117 = .ok (.iload_n 3, 1) := by decide +kernel
theorem dX2_readSentence_118 : decode cX2_readSentence 118 = .ok (.iaload, 1) := by decide +kernel
theorem dX2_readSentence_119 : decode cX2_readSentence 119 = .ok (.invokevirtual 60, 3) := by decide +kernel
theorem dX2_readSentence_122 : decode cX2_readSentence 122 = .ok (.iastore, 1) := by decide +kernel
theorem dX2_readSentence_123 : decode cX2_readSentence 123 = .ok (.goto 11, 3) := by decide +kernel
theorem dX2_readSentence_126 : decode cX2_readSentence 126 = .ok (.aload_n 0, 1) := by decide +kernel
theorem dX2_readSentence_127 : decode cX2_readSentence 127 = .ok (.aload_n 0, 1) := by decide +kernel
theorem dX2_readSentence_128 : decode cX2_readSentence 128 = .ok (.getfield 19, 3) := by decide +kernel
theorem dX2_readSentence_131 : decode cX2_readSentence 131 = .ok (.invokevirtual 86, 3) := by decide +kernel
theorem dX2_readSentence_134 : decode cX2_readSentence 134 = .ok (.return_, 1) := by decide +kernel
theorem dX2_readPerson_0 : decode cX2_readPerson 0 = .ok (.aload_n 1, 1) := by decide +kernel
theorem dX2_readPerson_1 : decode cX2_readPerson 1 = .ok (.getfield 90, 3) := by decide +kernel
theorem dX2_readPerson_4 : decode cX2_readPerson 4 = .ok (.bipush 8, 2) := by decide +kernel
theorem dX2_readPerson_6 : decode cX2_readPerson 6 = .ok (.if_icmp .lt 11, 3) := by decide +kernel
theorem dX2_readPerson_9 : decode cX2_readPerson 9 = .ok (.aload_n 0, 1) := by decide +kernel
theorem dX2_readPerson_10 : decode cX2_readPerson 10 = .ok (.aload_n 0, 1) := by decide +kernel
theorem dX2_readPerson_11 : decode cX2_readPerson 11 = .ok (.getfield 19, 3) := by decide +kernel
theorem dX2_readPerson_14 : decode cX2_readPerson 14 = .ok (.invokevirtual 86, 3) := by decide +kernel
theorem dX2_readPerson_17 : decode cX2_readPerson 17 = .ok (.aload_n 0, 1) := by decide +kernel
theorem dX2_readPerson_18 : decode cX2_readPerson 18 = .ok (.iload_n 2, 1) := by decide +kernel
theorem dX2_readPerson_19 : decode cX2_readPerson 19 = .ok (.invokestatic 93, 3) := by decide +kernel
theorem dX2_readPerson_22 : decode cX2_readPerson 22 = .ok (.invokevirtual 53, 3) := by decide +kernel
theorem dX2_readPerson_25 : decode cX2_readPerson 25 = .ok (.aload_n 0, 1) := by decide +kernel
theorem dX2_readPerson_26 : decode cX2_readPerson 26 = .ok (.ldc 96, 2) := by decide +kernel
theorem dX2_readPerson_28 : decode cX2_readPerson 28 = .ok (.invokevirtual 53, 3) := by decide +kernel
theorem dX2_readPerson_31 : decode cX2_readPerson 31 = .ok (.aload_n 0, 1) := by decide +kernel
theorem dX2_readPerson_32 : decode cX2_readPerson 32 = .ok (.bipush 31, 2) := by decide +kernel
theorem dX2_readPerson_34 : decode cX2_readPerson 34 = .ok (.invokevirtual 60, 3) := by decide +kernel
theorem dX2_readPerson_37 : decode cX2_readPerson 37 = .ok (.istore_n 3, 1) := by decide +kernel
theorem dX2_readPerson_38 : decode cX2_readPerson 38 = .ok (.bipush 50, 2) := by decide +kernel
theorem dX2_readPerson_40 : decode cX2_readPerson 40 = .ok (.istore 4, 2) := by decide +kernel
theorem dX2_readPerson_42 : decode cX2_readPerson 42 = .ok (.aload_n 0, 1) := by decide +kernel
theorem dX2_readPerson_43 : decode cX2_readPerson 43 = .ok (.ldc 98, 2) := by decide +kernel
theorem dX2_readPerson_45 : decode cX2_readPerson 45 = .ok (.invokevirtual 49, 3) := by decide +kernel
theorem dX2_readPerson_48 : decode cX2_readPerson 48 = .ok (.ifCond .eq 17, 3) := by decide +kernel
theorem dX2_readPerson_51 : decode cX2_readPerson 51 = .ok (.aload_n 0, 1) := by decide +kernel
theorem dX2_readPerson_52 : decode cX2_readPerson 52 = .ok (.ldc 98, 2) := by decide +kernel
theorem dX2_readPerson_54 : decode cX2_readPerson 54 = .ok (.invokevirtual 53, 3) := by decide +kernel
theorem dX2_readPerson_57 : decode cX2_readPerson 57 = .ok (.aload_n 0, 1) := by decide +kernel
theorem dX2_readPerson_58 : decode cX2_readPerson 58 = .ok (.bipush 99, 2) := by decide +kernel
theorem dX2_readPerson_60 : decode cX2_readPerson 60 = .ok (.invokevirtual 60, 3) := by decide +kernel
theorem dX2_readPerson_63 : decode cX2_readPerson 63 = .ok (.istore 4, 2) := by decide +kernel
theorem dX2_readPerson_65 : decode cX2_readPerson 65 = .ok (.iconst 0, 1) := by decide +kernel
theorem dX2_readPerson_66 : decode cX2_readPerson 66 = .ok (.istore 5, 2) := by decide +kernel
theorem dX2_readPerson_68 : decode cX2_readPerson 68 = .ok (.aload_n 0, 1) := by decide +kernel
theorem dX2_readPerson_69 : decode cX2_readPerson 69 = .ok (.ldc 100, 2) := by decide +kernel
theorem dX2_readPerson_71 : decode cX2_readPerson 71 = .ok (.invokevirtual 49, 3) := by decide +kernel
theorem dX2_readPerson_74 : decode cX2_readPerson 74 = .ok (.ifCond .eq 17, 3) := by decide +kernel
theorem dX2_readPerson_77 : decode cX2_readPerson 77 = .ok (.aload_n 0, 1) := by decide +kernel
theorem dX2_readPerson_78 : decode cX2_readPerson 78 = .ok (.ldc 100, 2) := by decide +kernel
theorem dX2_readPerson_80 : decode cX2_readPerson 80 = .ok (.invokevirtual 53, 3) := by decide +kernel
theorem dX2_readPerson_83 : decode cX2_readPerson 83 = .ok (.aload_n 0, 1) := by decide +kernel
theorem dX2_readPerson_84 : decode cX2_readPerson 84 = .ok (.bipush 9, 2) := by decide +kernel
theorem dX2_readPerson_86 : decode cX2_readPerson 86 = .ok (.invokevirtual 60, 3) := by decide +kernel
theorem dX2_readPerson_89 : decode cX2_readPerson 89 = .ok (.istore 5, 2) := by decide +kernel
theorem dX2_readPerson_91 : decode cX2_readPerson 91 = .ok (.aload_n 0, 1) := by decide +kernel
theorem dX2_readPerson_92 : decode cX2_readPerson 92 = .ok (.getfield 22, 3) := by decide +kernel
theorem dX2_readPerson_95 : decode cX2_readPerson 95 = .ok (.ifCond .ge 14, 3) := by decide +kernel
theorem dX2_readPerson_98 : decode cX2_readPerson 98 = .ok (.aload_n 1, 1) := by decide +kernel
theorem dX2_readPerson_99 : decode cX2_readPerson 99 = .ok (.iload_n 2, 1) := by decide +kernel
theorem dX2_readPerson_100 : decode cX2_readPerson 100 = .ok (.iload 5, 2) := by decide +kernel
theorem dX2_readPerson_102 : decode cX2_readPerson 102 = .ok (.iload 4, 2) := by decide +kernel
theorem dX2_readPerson_104 : decode cX2_readPerson 104 = .ok (.iload_n 3, 1) := by decide +kernel
theorem dX2_readPerson_105 : decode cX2_readPerson 105 = .ok (.invokevirtual 102, 3) := by decide +kernel
theorem dX2_readPerson_108 : decode cX2_readPerson 108 = .ok (.pop, 1) := by decide +kernel
theorem dX2_readPerson_109 : decode cX2_readPerson 109 = .ok (.return_, 1) := by decide +kernel
theorem dX2_readCell_0 : decode cX2_readCell 0 = .ok (.aload_n 0, 1) := by decide +kernel
theorem dX2_readCell_1 : decode cX2_readCell 1 = .ok (.bipush 31, 2) := by decide +kernel
theorem dX2_readCell_3 : decode cX2_readCell 3 = .ok (.invokevirtual 60, 3) := by decide +kernel
theorem dX2_readCell_6 : decode cX2_readCell 6 = .ok (.istore_n 1, 1) := by decide +kernel
theorem dX2_readCell_7 : decode cX2_readCell 7 = .ok (.aload_n 0, 1) := by decide +kernel
theorem dX2_readCell_8 : decode cX2_readCell 8 = .ok (.ldc 106, 2) := by decide +kernel
theorem dX2_readCell_10 : decode cX2_readCell 10 = .ok (.invokevirtual 53, 3) := by decide +kernel
theorem dX2_readCell_13 : decode cX2_readCell 13 = .ok (.iload_n 1, 1) := by decide +kernel
theorem dX2_readCell_14 : decode cX2_readCell 14 = .ok (.ireturn, 1) := by decide +kernel
theorem dX2_readNumber_0 : decode cX2_readNumber 0 = .ok (.aload_n 0, 1) := by decide +kernel
theorem dX2_readNumber_1 : decode cX2_readNumber 1 = .ok (.invokevirtual 25, 3) := by decide +kernel
theorem dX2_readNumber_4 : decode cX2_readNumber 4 = .ok (.aload_n 0, 1) := by decide +kernel
theorem dX2_readNumber_5 : decode cX2_readNumber 5 = .ok (.getfield 19, 3) := by decide +kernel
theorem dX2_readNumber_8 : decode cX2_readNumber 8 = .ok (.istore_n 2, 1) := by decide +kernel
theorem dX2_readNumber_9 : decode cX2_readNumber 9 = .ok (.iconst 0, 1) := by decide +kernel
theorem dX2_readNumber_10 : decode cX2_readNumber 10 = .ok (.istore_n 3, 1) := by decide +kernel
theorem dX2_readNumber_11 : decode cX2_readNumber 11 = .ok (.iconst 0, 1) := by decide +kernel
theorem dX2_readNumber_12 : decode cX2_readNumber 12 = .ok (.istore 4, 2) := by decide +kernel
theorem dX2_readNumber_14 : decode cX2_readNumber 14 = .ok (.iload 4, 2) := by decide +kernel
theorem dX2_readNumber_16 : decode cX2_readNumber 16 = .ok (.sipush 200, 3) := by decide +kernel
theorem dX2_readNumber_19 : decode cX2_readNumber 19 = .ok (.if_icmp .ge 54, 3) := by decide +kernel
theorem dX2_readNumber_22 : decode cX2_readNumber 22 = .ok (.aload_n 0, 1) := by decide +kernel
theorem dX2_readNumber_23 : decode cX2_readNumber 23 = .ok (.aload_n 0, 1) := by decide +kernel
theorem dX2_readNumber_24 : decode cX2_readNumber 24 = .ok (.getfield 19, 3) := by decide +kernel
theorem dX2_readNumber_27 : decode cX2_readNumber 27 = .ok (.invokevirtual 108, 3) := by decide +kernel
theorem dX2_readNumber_30 : decode cX2_readNumber 30 = .ok (.ifCond .eq 43, 3) := by decide +kernel
theorem dX2_readNumber_33 : decode cX2_readNumber 33 = .ok (.sipush 1000, 3) := by decide +kernel
theorem dX2_readNumber_36 : decode cX2_readNumber 36 = .ok (.iload_n 3, 1) := by decide +kernel
theorem dX2_readNumber_37 : decode cX2_readNumber 37 = .ok (.bipush 10, 2) := by decide +kernel
theorem dX2_readNumber_39 : decode cX2_readNumber 39 = .ok (.imul, 1) := by decide +kernel
theorem dX2_readNumber_40 : decode cX2_readNumber 40 = .ok (.aload_n 0, 1) := by decide +kernel
theorem dX2_readNumber_41 : decode cX2_readNumber 41 = .ok (.getfield 9, 3) := by decide +kernel
theorem dX2_readNumber_44 : decode cX2_readNumber 44 = .ok (.aload_n 0, 1) := by decide +kernel
theorem dX2_readNumber_45 : decode cX2_readNumber 45 = .ok (.getfield 19, 3) := by decide +kernel
theorem dX2_readNumber_48 : decode cX2_readNumber 48 = .ok (.baload, 1) := by decide +kernel
theorem dX2_readNumber_49 : decode cX2_readNumber 49 = .ok (.iadd, 1) := by decide +kernel
theorem dX2_readNumber_50 : decode cX2_readNumber 50 = .ok (.bipush 48, 2) := by decide +kernel
theorem dX2_readNumber_52 : decode cX2_readNumber 52 = .ok (.isub, 1) := by decide +kernel
theorem dX2_readNumber_53 : decode cX2_readNumber 53 = .ok (.invokestatic 112, 3) := by decide +kernel
theorem dX2_readNumber_56 : decode cX2_readNumber 56 = .ok (.istore_n 3, 1) := by decide +kernel
theorem dX2_readNumber_57 : decode cX2_readNumber 57 = .ok (.aload_n 0, 1) := by decide +kernel
theorem dX2_readNumber_58 : decode cX2_readNumber 58 = .ok (.dup, 1) := by decide +kernel
theorem dX2_readNumber_59 : decode cX2_readNumber 59 = .ok (.getfield 19, 3) := by decide +kernel
theorem dX2_readNumber_62 : decode cX2_readNumber 62 = .ok (.iconst 1, 1) := by decide +kernel
theorem dX2_readNumber_63 : decode cX2_readNumber 63 = .ok (.iadd, 1) := by decide +kernel
theorem dX2_readNumber_64 : decode cX2_readNumber 64 = .ok (.putfield 19, 3) := by decide +kernel
theorem dX2_readNumber_67 : decode cX2_readNumber 67 = .ok (.iinc 4 1, 3) := by decide +kernel
theorem dX2_readNumber_70 : decode cX2_readNumber 70 = .ok (.goto (-56), 3) := by decide +kernel
theorem dX2_readNumber_73 : decode cX2_readNumber 73 = .ok (.aload_n 0, 1) := by decide +kernel
theorem dX2_readNumber_74 : decode cX2_readNumber 74 = .ok (.getfield 19, 3) := by decide +kernel
theorem dX2_readNumber_77 : decode cX2_readNumber 77 = .ok (.iload_n 2, 1) := by decide +kernel
theorem dX2_readNumber_78 : decode cX2_readNumber 78 = .ok (.if_icmp .eq 18, 3) := by decide +kernel
theorem dX2_readNumber_81 : decode cX2_readNumber 81 = .ok (.aload_n 0, 1) := by decide +kernel
theorem dX2_readNumber_82 : decode cX2_readNumber 82 = .ok (.getfield 19, 3) := by decide +kernel
theorem dX2_readNumber_85 : decode cX2_readNumber 85 = .ok (.iload_n 2, 1) := by decide +kernel
theorem dX2_readNumber_86 : decode cX2_readNumber 86 = .ok (.isub, 1) := by decide +kernel
theorem dX2_readNumber_87 : decode cX2_readNumber 87 = .ok (.iconst 3, 1) := by decide +kernel
theorem dX2_readNumber_88 : decode cX2_readNumber 88 = .ok (.if_icmp .gt 8, 3) := by decide +kernel
theorem dX2_readNumber_91 : decode cX2_readNumber 91 = .ok (.iload_n 3, 1) := by decide +kernel
theorem dX2_readNumber_92 : decode cX2_readNumber 92 = .ok (.iload_n 1, 1) := by decide +kernel
theorem dX2_readNumber_93 : decode cX2_readNumber 93 = .ok (.if_icmp .le 8, 3) := by decide +kernel
theorem dX2_readNumber_96 : decode cX2_readNumber 96 = .ok (.aload_n 0, 1) := by decide +kernel
theorem dX2_readNumber_97 : decode cX2_readNumber 97 = .ok (.iload_n 2, 1) := by decide +kernel
theorem dX2_readNumber_98 : decode cX2_readNumber 98 = .ok (.invokevirtual 86, 3) := by decide +kernel
theorem dX2_readNumber_101 : decode cX2_readNumber 101 = .ok (.aload_n 0, 1) := by decide +kernel
theorem dX2_readNumber_102 : decode cX2_readNumber 102 = .ok (.getfield 22, 3) := by decide +kernel
theorem dX2_readNumber_105 : decode cX2_readNumber 105 = .ok (.ifCond .ge 7, 3) := by decide +kernel
theorem dX2_readNumber_108 : decode cX2_readNumber 108 = .ok (.iload_n 3, 1) := by decide +kernel
theorem dX2_readNumber_109 : decode cX2_readNumber 109 = .ok (.goto 4, 3) := by decide +kernel
theorem dX2_readNumber_112 : decode cX2_readNumber 112 = .ok (.iconst 0, 1) := by decide +kernel
theorem dX2_readNumber_113 : decode cX2_readNumber 113 = .ok (.ireturn, 1) := by decide +kernel
theorem dX2_readName_0 : decode cX2_readName 0 = .ok (.aload_n 0, 1) := by decide +kernel
theorem dX2_readName_1 : decode cX2_readName 1 = .ok (.aload_n 1, 1) := by decide +kernel
theorem dX2_readName_2 : decode cX2_readName 2 = .ok (.invokevirtual 49, 3) := by decide +kernel
theorem dX2_readName_5 : decode cX2_readName 5 = .ok (.ifCond .eq 19, 3) := by decide +kernel
theorem dX2_readName_8 : decode cX2_readName 8 = .ok (.aload_n 0, 1) := by decide +kernel
theorem dX2_readName_9 : decode cX2_readName 9 = .ok (.dup, 1) := by decide +kernel
theorem dX2_readName_10 : decode cX2_readName 10 = .ok (.getfield 19, 3) := by decide +kernel
theorem dX2_readName_13 : decode cX2_readName 13 = .ok (.aload_n 1, 1) := by decide +kernel
theorem dX2_readName_14 : decode cX2_readName 14 = .ok (.invokevirtual 118, 3) := by decide +kernel
theorem dX2_readName_17 : decode cX2_readName 17 = .ok (.iadd, 1) := by decide +kernel
theorem dX2_readName_18 : decode cX2_readName 18 = .ok (.putfield 19, 3) := by decide +kernel
theorem dX2_readName_21 : decode cX2_readName 21 = .ok (.goto 11, 3) := by decide +kernel
theorem dX2_readName_24 : decode cX2_readName 24 = .ok (.aload_n 0, 1) := by decide +kernel
theorem dX2_readName_25 : decode cX2_readName 25 = .ok (.aload_n 0, 1) := by decide +kernel
theorem dX2_readName_26 : decode cX2_readName 26 = .ok (.getfield 19, 3) := by decide +kernel
theorem dX2_readName_29 : decode cX2_readName 29 = .ok (.invokevirtual 86, 3) := by decide +kernel
theorem dX2_readName_32 : decode cX2_readName 32 = .ok (.return_, 1) := by decide +kernel
theorem dX2_readSign_0 : decode cX2_readSign 0 = .ok (.aload_n 0, 1) := by decide +kernel
theorem dX2_readSign_1 : decode cX2_readSign 1 = .ok (.invokevirtual 25, 3) := by decide +kernel
theorem dX2_readSign_4 : decode cX2_readSign 4 = .ok (.aload_n 0, 1) := by decide +kernel
theorem dX2_readSign_5 : decode cX2_readSign 5 = .ok (.getfield 19, 3) := by decide +kernel
theorem dX2_readSign_8 : decode cX2_readSign 8 = .ok (.aload_n 0, 1) := by decide +kernel
theorem dX2_readSign_9 : decode cX2_readSign 9 = .ok (.getfield 15, 3) := by decide +kernel
theorem dX2_readSign_12 : decode cX2_readSign 12 = .ok (.if_icmp .ge 29, 3) := by decide +kernel
theorem dX2_readSign_15 : decode cX2_readSign 15 = .ok (.aload_n 0, 1) := by decide +kernel
theorem dX2_readSign_16 : decode cX2_readSign 16 = .ok (.getfield 9, 3) := by decide +kernel
theorem dX2_readSign_19 : decode cX2_readSign 19 = .ok (.aload_n 0, 1) := by decide +kernel
theorem dX2_readSign_20 : decode cX2_readSign 20 = .ok (.getfield 19, 3) := by decide +kernel
theorem dX2_readSign_23 : decode cX2_readSign 23 = .ok (.baload, 1) := by decide +kernel
theorem dX2_readSign_24 : decode cX2_readSign 24 = .ok (.iload_n 1, 1) := by decide +kernel
theorem dX2_readSign_25 : decode cX2_readSign 25 = .ok (.if_icmp .ne 16, 3) := by decide +kernel
theorem dX2_readSign_28 : decode cX2_readSign 28 = .ok (.aload_n 0, 1) := by decide +kernel
theorem dX2_readSign_29 : decode cX2_readSign 29 = .ok (.dup, 1) := by decide +kernel
theorem dX2_readSign_30 : decode cX2_readSign 30 = .ok (.getfield 19, 3) := by decide +kernel
theorem dX2_readSign_33 : decode cX2_readSign 33 = .ok (.iconst 1, 1) := by decide +kernel
theorem dX2_readSign_34 : decode cX2_readSign 34 = .ok (.iadd, 1) := by decide +kernel
theorem dX2_readSign_35 : decode cX2_readSign 35 = .ok (.putfield 19, 3) := by decide +kernel
theorem dX2_readSign_38 : decode cX2_readSign 38 = .ok (.goto 11, 3) := by decide +kernel
theorem dX2_readSign_41 : decode cX2_readSign 41 = .ok (.aload_n 0, 1) := by decide +kernel
theorem dX2_readSign_42 : decode cX2_readSign 42 = .ok (.aload_n 0, 1) := by decide +kernel
theorem dX2_readSign_43 : decode cX2_readSign 43 = .ok (.getfield 19, 3) := by decide +kernel
theorem dX2_readSign_46 : decode cX2_readSign 46 = .ok (.invokevirtual 86, 3) := by decide +kernel
theorem dX2_readSign_49 : decode cX2_readSign 49 = .ok (.return_, 1) := by decide +kernel
theorem dX2_skipBlanks_0 : decode cX2_skipBlanks 0 = .ok (.iconst 0, 1) := by decide +kernel
theorem dX2_skipBlanks_1 : decode cX2_skipBlanks 1 = .ok (.istore_n 1, 1) := by decide +kernel
theorem dX2_skipBlanks_2 : decode cX2_skipBlanks 2 = .ok (.iload_n 1, 1) := by decide +kernel
theorem dX2_skipBlanks_3 : decode cX2_skipBlanks 3 = .ok (.sipush 200, 3) := by decide +kernel
theorem dX2_skipBlanks_6 : decode cX2_skipBlanks 6 = .ok (.if_icmp .ge 44, 3) := by decide +kernel
theorem dX2_skipBlanks_9 : decode cX2_skipBlanks 9 = .ok (.aload_n 0, 1) := by decide +kernel
theorem dX2_skipBlanks_10 : decode cX2_skipBlanks 10 = .ok (.getfield 19, 3) := by decide +kernel
theorem dX2_skipBlanks_13 : decode cX2_skipBlanks 13 = .ok (.aload_n 0, 1) := by decide +kernel
theorem dX2_skipBlanks_14 : decode cX2_skipBlanks 14 = .ok (.getfield 15, 3) := by decide +kernel
theorem dX2_skipBlanks_17 : decode cX2_skipBlanks 17 = .ok (.if_icmp .ge 33, 3) := by decide +kernel
theorem dX2_skipBlanks_20 : decode cX2_skipBlanks 20 = .ok (.aload_n 0, 1) := by decide +kernel
theorem dX2_skipBlanks_21 : decode cX2_skipBlanks 21 = .ok (.getfield 9, 3) := by decide +kernel
theorem dX2_skipBlanks_24 : decode cX2_skipBlanks 24 = .ok (.aload_n 0, 1) := by decide +kernel
theorem dX2_skipBlanks_25 : decode cX2_skipBlanks 25 = .ok (.getfield 19, 3) := by decide +kernel
theorem dX2_skipBlanks_28 : decode cX2_skipBlanks 28 = .ok (.baload, 1) := by decide +kernel
theorem dX2_skipBlanks_29 : decode cX2_skipBlanks 29 = .ok (.bipush 32, 2) := by decide +kernel
theorem dX2_skipBlanks_31 : decode cX2_skipBlanks 31 = .ok (.if_icmp .ne 19, 3) := by decide +kernel
theorem dX2_skipBlanks_34 : decode cX2_skipBlanks 34 = .ok (.aload_n 0, 1) := by decide +kernel
theorem dX2_skipBlanks_35 : decode cX2_skipBlanks 35 = .ok (.dup, 1) := by decide +kernel
theorem dX2_skipBlanks_36 : decode cX2_skipBlanks 36 = .ok (.getfield 19, 3) := by decide +kernel
theorem dX2_skipBlanks_39 : decode cX2_skipBlanks 39 = .ok (.iconst 1, 1) := by decide +kernel
theorem dX2_skipBlanks_40 : decode cX2_skipBlanks 40 = .ok (.iadd, 1) := by decide +kernel
theorem dX2_skipBlanks_41 : decode cX2_skipBlanks 41 = .ok (.putfield 19, 3) := by decide +kernel
theorem dX2_skipBlanks_44 : decode cX2_skipBlanks 44 = .ok (.iinc 1 1, 3) := by decide +kernel
theorem dX2_skipBlanks_47 : decode cX2_skipBlanks 47 = .ok (.goto (-45), 3) := by decide +kernel
theorem dX2_skipBlanks_50 : decode cX2_skipBlanks 50 = .ok (.return_, 1) := by decide +kernel
theorem dX2_refuse_0 : decode cX2_refuse 0 = .ok (.aload_n 0, 1) := by decide +kernel
theorem dX2_refuse_1 : decode cX2_refuse 1 = .ok (.getfield 22, 3) := by decide +kernel
theorem dX2_refuse_4 : decode cX2_refuse 4 = .ok (.ifCond .ge 8, 3) := by decide +kernel
theorem dX2_refuse_7 : decode cX2_refuse 7 = .ok (.aload_n 0, 1) := by decide +kernel
theorem dX2_refuse_8 : decode cX2_refuse 8 = .ok (.iload_n 1, 1) := by decide +kernel
theorem dX2_refuse_9 : decode cX2_refuse 9 = .ok (.putfield 22, 3) := by decide +kernel
theorem dX2_refuse_12 : decode cX2_refuse 12 = .ok (.return_, 1) := by decide +kernel
theorem dX2_isHere_0 : decode cX2_isHere 0 = .ok (.aload_n 0, 1) := by decide +kernel
theorem dX2_isHere_1 : decode cX2_isHere 1 = .ok (.invokevirtual 25, 3) := by decide +kernel
theorem dX2_isHere_4 : decode cX2_isHere 4 = .ok (.aload_n 0, 1) := by decide +kernel
theorem dX2_isHere_5 : decode cX2_isHere 5 = .ok (.getfield 19, 3) := by decide +kernel
theorem dX2_isHere_8 : decode cX2_isHere 8 = .ok (.aload_n 1, 1) := by decide +kernel
theorem dX2_isHere_9 : decode cX2_isHere 9 = .ok (.invokevirtual 118, 3) := by decide +kernel
theorem dX2_isHere_12 : decode cX2_isHere 12 = .ok (.iadd, 1) := by decide +kernel
theorem dX2_isHere_13 : decode cX2_isHere 13 = .ok (.istore_n 2, 1) := by decide +kernel
theorem dX2_isHere_14 : decode cX2_isHere 14 = .ok (.iload_n 2, 1) := by decide +kernel
theorem dX2_isHere_15 : decode cX2_isHere 15 = .ok (.aload_n 0, 1) := by decide +kernel
theorem dX2_isHere_16 : decode cX2_isHere 16 = .ok (.getfield 15, 3) := by decide +kernel
theorem dX2_isHere_19 : decode cX2_isHere 19 = .ok (.if_icmp .gt 11, 3) := by decide +kernel
theorem dX2_isHere_22 : decode cX2_isHere 22 = .ok (.aload_n 0, 1) := by decide +kernel
theorem dX2_isHere_23 : decode cX2_isHere 23 = .ok (.iload_n 2, 1) := by decide +kernel
theorem dX2_isHere_24 : decode cX2_isHere 24 = .ok (.invokevirtual 122, 3) := by decide +kernel
theorem dX2_isHere_27 : decode cX2_isHere 27 = .ok (.ifCond .eq 5, 3) := by decide +kernel
theorem dX2_isHere_30 : decode cX2_isHere 30 = .ok (.iconst 0, 1) := by decide +kernel
theorem dX2_isHere_31 : decode cX2_isHere 31 = .ok (.ireturn, 1) := by decide +kernel
theorem dX2_isHere_32 : decode cX2_isHere 32 = .ok (.iconst 0, 1) := by decide +kernel
theorem dX2_isHere_33 : decode cX2_isHere 33 = .ok (.istore_n 3, 1) := by decide +kernel
theorem dX2_isHere_34 : decode cX2_isHere 34 = .ok (.iload_n 3, 1) := by decide +kernel
theorem dX2_isHere_35 : decode cX2_isHere 35 = .ok (.aload_n 1, 1) := by decide +kernel
theorem dX2_isHere_36 : decode cX2_isHere 36 = .ok (.invokevirtual 118, 3) := by decide +kernel
theorem dX2_isHere_39 : decode cX2_isHere 39 = .ok (.if_icmp .ge 30, 3) := by decide +kernel
theorem dX2_isHere_42 : decode cX2_isHere 42 = .ok (.aload_n 0, 1) := by decide +kernel
theorem dX2_isHere_43 : decode cX2_isHere 43 = .ok (.getfield 9, 3) := by decide +kernel
theorem dX2_isHere_46 : decode cX2_isHere 46 = .ok (.aload_n 0, 1) := by decide +kernel
theorem dX2_isHere_47 : decode cX2_isHere 47 = .ok (.getfield 19, 3) := by decide +kernel
theorem dX2_isHere_50 : decode cX2_isHere 50 = .ok (.iload_n 3, 1) := by decide +kernel
theorem dX2_isHere_51 : decode cX2_isHere 51 = .ok (.iadd, 1) := by decide +kernel
theorem dX2_isHere_52 : decode cX2_isHere 52 = .ok (.baload, 1) := by decide +kernel
theorem dX2_isHere_53 : decode cX2_isHere 53 = .ok (.aload_n 1, 1) := by decide +kernel
theorem dX2_isHere_54 : decode cX2_isHere 54 = .ok (.iload_n 3, 1) := by decide +kernel
theorem dX2_isHere_55 : decode cX2_isHere 55 = .ok (.invokevirtual 125, 3) := by decide +kernel
theorem dX2_isHere_58 : decode cX2_isHere 58 = .ok (.if_icmp .eq 5, 3) := by decide +kernel
theorem dX2_isHere_61 : decode cX2_isHere 61 = .ok (.iconst 0, 1) := by decide +kernel
theorem dX2_isHere_62 : decode cX2_isHere 62 = .ok (.ireturn, 1) := by decide +kernel
theorem dX2_isHere_63 : decode cX2_isHere 63 = .ok (.iinc 3 1, 3) := by decide +kernel
theorem dX2_isHere_66 : decode cX2_isHere 66 = .ok (.goto (-32), 3) := by decide +kernel
theorem dX2_isHere_69 : decode cX2_isHere 69 = .ok (.iconst 1, 1) := by decide +kernel
theorem dX2_isHere_70 : decode cX2_isHere 70 = .ok (.ireturn, 1) := by decide +kernel
theorem dX2_kindHere_0 : decode cX2_kindHere 0 = .ok (.iconst 0, 1) := by decide +kernel
theorem dX2_kindHere_1 : decode cX2_kindHere 1 = .ok (.istore_n 1, 1) := by decide +kernel
theorem dX2_kindHere_2 : decode cX2_kindHere 2 = .ok (.iload_n 1, 1) := by decide +kernel
theorem dX2_kindHere_3 : decode cX2_kindHere 3 = .ok (.bipush 6, 2) := by decide +kernel
theorem dX2_kindHere_5 : decode cX2_kindHere 5 = .ok (.if_icmp .ge 22, 3) := by decide +kernel
theorem dX2_kindHere_8 : decode cX2_kindHere 8 = .ok (.aload_n 0, 1) := by decide +kernel
theorem dX2_kindHere_9 : decode cX2_kindHere 9 = .ok (.iload_n 1, 1) := by decide +kernel
theorem dX2_kindHere_10 : decode cX2_kindHere 10 = .ok (.invokestatic 93, 3) := by decide +kernel
theorem dX2_kindHere_13 : decode cX2_kindHere 13 = .ok (.invokevirtual 49, 3) := by decide +kernel
theorem dX2_kindHere_16 : decode cX2_kindHere 16 = .ok (.ifCond .eq 5, 3) := by decide +kernel
theorem dX2_kindHere_19 : decode cX2_kindHere 19 = .ok (.iload_n 1, 1) := by decide +kernel
theorem dX2_kindHere_20 : decode cX2_kindHere 20 = .ok (.ireturn, 1) := by decide +kernel
theorem dX2_kindHere_21 : decode cX2_kindHere 21 = .ok (.iinc 1 1, 3) := by decide +kernel
theorem dX2_kindHere_24 : decode cX2_kindHere 24 = .ok (.goto (-22), 3) := by decide +kernel
theorem dX2_kindHere_27 : decode cX2_kindHere 27 = .ok (.iconst (-1), 1) := by decide +kernel
theorem dX2_kindHere_28 : decode cX2_kindHere 28 = .ok (.ireturn, 1) := by decide +kernel
theorem dX2_lawHere_0 : decode cX2_lawHere 0 = .ok (.iconst 0, 1) := by decide +kernel
theorem dX2_lawHere_1 : decode cX2_lawHere 1 = .ok (.istore_n 1, 1) := by decide +kernel
theorem dX2_lawHere_2 : decode cX2_lawHere 2 = .ok (.iload_n 1, 1) := by decide +kernel
theorem dX2_lawHere_3 : decode cX2_lawHere 3 = .ok (.iconst 4, 1) := by decide +kernel
theorem dX2_lawHere_4 : decode cX2_lawHere 4 = .ok (.if_icmp .ge 22, 3) := by decide +kernel
theorem dX2_lawHere_7 : decode cX2_lawHere 7 = .ok (.aload_n 0, 1) := by decide +kernel
theorem dX2_lawHere_8 : decode cX2_lawHere 8 = .ok (.iload_n 1, 1) := by decide +kernel
theorem dX2_lawHere_9 : decode cX2_lawHere 9 = .ok (.invokestatic 76, 3) := by decide +kernel
theorem dX2_lawHere_12 : decode cX2_lawHere 12 = .ok (.invokevirtual 49, 3) := by decide +kernel
theorem dX2_lawHere_15 : decode cX2_lawHere 15 = .ok (.ifCond .eq 5, 3) := by decide +kernel
theorem dX2_lawHere_18 : decode cX2_lawHere 18 = .ok (.iload_n 1, 1) := by decide +kernel
theorem dX2_lawHere_19 : decode cX2_lawHere 19 = .ok (.ireturn, 1) := by decide +kernel
theorem dX2_lawHere_20 : decode cX2_lawHere 20 = .ok (.iinc 1 1, 3) := by decide +kernel
theorem dX2_lawHere_23 : decode cX2_lawHere 23 = .ok (.goto (-21), 3) := by decide +kernel
theorem dX2_lawHere_26 : decode cX2_lawHere 26 = .ok (.iconst (-1), 1) := by decide +kernel
theorem dX2_lawHere_27 : decode cX2_lawHere 27 = .ok (.ireturn, 1) := by decide +kernel
theorem dX2_isLetter_0 : decode cX2_isLetter 0 = .ok (.iload_n 1, 1) := by decide +kernel
theorem dX2_isLetter_1 : decode cX2_isLetter 1 = .ok (.aload_n 0, 1) := by decide +kernel
theorem dX2_isLetter_2 : decode cX2_isLetter 2 = .ok (.getfield 15, 3) := by decide +kernel
theorem dX2_isLetter_5 : decode cX2_isLetter 5 = .ok (.if_icmp .ge 29, 3) := by decide +kernel
theorem dX2_isLetter_8 : decode cX2_isLetter 8 = .ok (.aload_n 0, 1) := by decide +kernel
theorem dX2_isLetter_9 : decode cX2_isLetter 9 = .ok (.getfield 9, 3) := by decide +kernel
theorem dX2_isLetter_12 : decode cX2_isLetter 12 = .ok (.iload_n 1, 1) := by decide +kernel
theorem dX2_isLetter_13 : decode cX2_isLetter 13 = .ok (.baload, 1) := by decide +kernel
theorem dX2_isLetter_14 : decode cX2_isLetter 14 = .ok (.bipush 97, 2) := by decide +kernel
theorem dX2_isLetter_16 : decode cX2_isLetter 16 = .ok (.if_icmp .lt 18, 3) := by decide +kernel
theorem dX2_isLetter_19 : decode cX2_isLetter 19 = .ok (.aload_n 0, 1) := by decide +kernel
theorem dX2_isLetter_20 : decode cX2_isLetter 20 = .ok (.getfield 9, 3) := by decide +kernel
theorem dX2_isLetter_23 : decode cX2_isLetter 23 = .ok (.iload_n 1, 1) := by decide +kernel
theorem dX2_isLetter_24 : decode cX2_isLetter 24 = .ok (.baload, 1) := by decide +kernel
theorem dX2_isLetter_25 : decode cX2_isLetter 25 = .ok (.bipush 122, 2) := by decide +kernel
theorem dX2_isLetter_27 : decode cX2_isLetter 27 = .ok (.if_icmp .gt 7, 3) := by decide +kernel
theorem dX2_isLetter_30 : decode cX2_isLetter 30 = .ok (.iconst 1, 1) := by decide +kernel
theorem dX2_isLetter_31 : decode cX2_isLetter 31 = .ok (.goto 4, 3) := by decide +kernel
theorem dX2_isLetter_34 : decode cX2_isLetter 34 = .ok (.iconst 0, 1) := by decide +kernel
theorem dX2_isLetter_35 : decode cX2_isLetter 35 = .ok (.ireturn, 1) := by decide +kernel
theorem dX2_isDigit_0 : decode cX2_isDigit 0 = .ok (.iload_n 1, 1) := by decide +kernel
theorem dX2_isDigit_1 : decode cX2_isDigit 1 = .ok (.aload_n 0, 1) := by decide +kernel
theorem dX2_isDigit_2 : decode cX2_isDigit 2 = .ok (.getfield 15, 3) := by decide +kernel
theorem dX2_isDigit_5 : decode cX2_isDigit 5 = .ok (.if_icmp .ge 29, 3) := by decide +kernel
theorem dX2_isDigit_8 : decode cX2_isDigit 8 = .ok (.aload_n 0, 1) := by decide +kernel
theorem dX2_isDigit_9 : decode cX2_isDigit 9 = .ok (.getfield 9, 3) := by decide +kernel
theorem dX2_isDigit_12 : decode cX2_isDigit 12 = .ok (.iload_n 1, 1) := by decide +kernel
theorem dX2_isDigit_13 : decode cX2_isDigit 13 = .ok (.baload, 1) := by decide +kernel
theorem dX2_isDigit_14 : decode cX2_isDigit 14 = .ok (.bipush 48, 2) := by decide +kernel
theorem dX2_isDigit_16 : decode cX2_isDigit 16 = .ok (.if_icmp .lt 18, 3) := by decide +kernel
theorem dX2_isDigit_19 : decode cX2_isDigit 19 = .ok (.aload_n 0, 1) := by decide +kernel
theorem dX2_isDigit_20 : decode cX2_isDigit 20 = .ok (.getfield 9, 3) := by decide +kernel
theorem dX2_isDigit_23 : decode cX2_isDigit 23 = .ok (.iload_n 1, 1) := by decide +kernel
theorem dX2_isDigit_24 : decode cX2_isDigit 24 = .ok (.baload, 1) := by decide +kernel
theorem dX2_isDigit_25 : decode cX2_isDigit 25 = .ok (.bipush 57, 2) := by decide +kernel
theorem dX2_isDigit_27 : decode cX2_isDigit 27 = .ok (.if_icmp .gt 7, 3) := by decide +kernel
theorem dX2_isDigit_30 : decode cX2_isDigit 30 = .ok (.iconst 1, 1) := by decide +kernel
theorem dX2_isDigit_31 : decode cX2_isDigit 31 = .ok (.goto 4, 3) := by decide +kernel
theorem dX2_isDigit_34 : decode cX2_isDigit 34 = .ok (.iconst 0, 1) := by decide +kernel
theorem dX2_isDigit_35 : decode cX2_isDigit 35 = .ok (.ireturn, 1) := by decide +kernel
theorem dX2_kindName_0 : decode cX2_kindName 0 = .ok (.iload_n 0, 1) := by decide +kernel
theorem dX2_kindName_1 : decode cX2_kindName 1 = .ok (.tableswitch 50 1 5 #[35, 38, 41, 44, 47], 35) := by decide +kernel
theorem dX2_kindName_36 : decode cX2_kindName 36 = .ok (.ldc 129, 2) := by decide +kernel
theorem dX2_kindName_38 : decode cX2_kindName 38 = .ok (.areturn, 1) := by decide +kernel
theorem dX2_kindName_39 : decode cX2_kindName 39 = .ok (.ldc 131, 2) := by decide +kernel
theorem dX2_kindName_41 : decode cX2_kindName 41 = .ok (.areturn, 1) := by decide +kernel
theorem dX2_kindName_42 : decode cX2_kindName 42 = .ok (.ldc 133, 2) := by decide +kernel
theorem dX2_kindName_44 : decode cX2_kindName 44 = .ok (.areturn, 1) := by decide +kernel
theorem dX2_kindName_45 : decode cX2_kindName 45 = .ok (.ldc 135, 2) := by decide +kernel
theorem dX2_kindName_47 : decode cX2_kindName 47 = .ok (.areturn, 1) := by decide +kernel
theorem dX2_kindName_48 : decode cX2_kindName 48 = .ok (.ldc 137, 2) := by decide +kernel
theorem dX2_kindName_50 : decode cX2_kindName 50 = .ok (.areturn, 1) := by decide +kernel
theorem dX2_kindName_51 : decode cX2_kindName 51 = .ok (.ldc 139, 2) := by decide +kernel
theorem dX2_kindName_53 : decode cX2_kindName 53 = .ok (.areturn, 1) := by decide +kernel
theorem dX2_lawName_0 : decode cX2_lawName 0 = .ok (.iload_n 0, 1) := by decide +kernel
theorem dX2_lawName_1 : decode cX2_lawName 1 = .ok (.tableswitch 36 1 3 #[27, 30, 33], 27) := by decide +kernel
theorem dX2_lawName_28 : decode cX2_lawName 28 = .ok (.ldc 141, 2) := by decide +kernel
theorem dX2_lawName_30 : decode cX2_lawName 30 = .ok (.areturn, 1) := by decide +kernel
theorem dX2_lawName_31 : decode cX2_lawName 31 = .ok (.ldc 143, 2) := by decide +kernel
theorem dX2_lawName_33 : decode cX2_lawName 33 = .ok (.areturn, 1) := by decide +kernel
theorem dX2_lawName_34 : decode cX2_lawName 34 = .ok (.ldc 145, 2) := by decide +kernel
theorem dX2_lawName_36 : decode cX2_lawName 36 = .ok (.areturn, 1) := by decide +kernel
theorem dX2_lawName_37 : decode cX2_lawName 37 = .ok (.ldc 147, 2) := by decide +kernel
theorem dX2_lawName_39 : decode cX2_lawName 39 = .ok (.areturn, 1) := by decide +kernel
theorem dX3_init_0 : decode cX3_init 0 = .ok (.aload_n 0, 1) := by decide +kernel
theorem dX3_init_1 : decode cX3_init 1 = .ok (.invokespecial 1, 3) := by decide +kernel
theorem dX3_init_4 : decode cX3_init 4 = .ok (.aload_n 0, 1) := by decide +kernel
theorem dX3_init_5 : decode cX3_init 5 = .ok (.new 7, 3) := by decide +kernel
theorem dX3_init_8 : decode cX3_init 8 = .ok (.dup, 1) := by decide +kernel
theorem dX3_init_9 : decode cX3_init 9 = .ok (.invokespecial 9, 3) := by decide +kernel
theorem dX3_init_12 : decode cX3_init 12 = .ok (.putfield 10, 3) := by decide +kernel
theorem dX3_init_15 : decode cX3_init 15 = .ok (.aload_n 0, 1) := by decide +kernel
theorem dX3_init_16 : decode cX3_init 16 = .ok (.new 7, 3) := by decide +kernel
theorem dX3_init_19 : decode cX3_init 19 = .ok (.dup, 1) := by decide +kernel
theorem dX3_init_20 : decode cX3_init 20 = .ok (.invokespecial 9, 3) := by decide +kernel
theorem dX3_init_23 : decode cX3_init 23 = .ok (.putfield 16, 3) := by decide +kernel
theorem dX3_init_26 : decode cX3_init 26 = .ok (.aload_n 0, 1) := by decide +kernel
theorem dX3_init_27 : decode cX3_init 27 = .ok (.new 7, 3) := by decide +kernel
theorem dX3_init_30 : decode cX3_init 30 = .ok (.dup, 1) := by decide +kernel
theorem dX3_init_31 : decode cX3_init 31 = .ok (.invokespecial 9, 3) := by decide +kernel
theorem dX3_init_34 : decode cX3_init 34 = .ok (.putfield 19, 3) := by decide +kernel
theorem dX3_init_37 : decode cX3_init 37 = .ok (.aload_n 0, 1) := by decide +kernel
theorem dX3_init_38 : decode cX3_init 38 = .ok (.new 22, 3) := by decide +kernel
theorem dX3_init_41 : decode cX3_init 41 = .ok (.dup, 1) := by decide +kernel
theorem dX3_init_42 : decode cX3_init 42 = .ok (.invokespecial 24, 3) := by decide +kernel
theorem dX3_init_45 : decode cX3_init 45 = .ok (.putfield 25, 3) := by decide +kernel
theorem dX3_init_48 : decode cX3_init 48 = .ok (.aload_n 0, 1) := by decide +kernel
theorem dX3_init_49 : decode cX3_init 49 = .ok (.bipush 10, 2) := by decide +kernel
theorem dX3_init_51 : decode cX3_init 51 = .ok (.iconst 3, 1) := by decide +kernel
theorem dX3_init_52 : decode cX3_init 52 = .ok (.multianewarray 29 2, 4) := by decide +kernel
theorem dX3_init_56 : decode cX3_init 56 = .ok (.putfield 31, 3) := by decide +kernel
theorem dX3_init_59 : decode cX3_init 59 = .ok (.aload_n 0, 1) := by decide +kernel
theorem dX3_init_60 : decode cX3_init 60 = .ok (.iconst 4, 1) := by decide +kernel
theorem dX3_init_61 : decode cX3_init 61 = .ok (.newarray .int, 2) := by decide +kernel
theorem dX3_init_63 : decode cX3_init 63 = .ok (.putfield 34, 3) := by decide +kernel
theorem dX3_init_66 : decode cX3_init 66 = .ok (.aload_n 0, 1) := by decide +kernel
theorem dX3_init_67 : decode cX3_init 67 = .ok (.iconst 4, 1) := by decide +kernel
theorem dX3_init_68 : decode cX3_init 68 = .ok (.newarray .int, 2) := by decide +kernel
theorem dX3_init_70 : decode cX3_init 70 = .ok (.putfield 38, 3) := by decide +kernel
theorem dX3_init_73 : decode cX3_init 73 = .ok (.aload_n 0, 1) := by decide +kernel
theorem dX3_init_74 : decode cX3_init 74 = .ok (.iconst 4, 1) := by decide +kernel
theorem dX3_init_75 : decode cX3_init 75 = .ok (.bipush 40, 2) := by decide +kernel
theorem dX3_init_77 : decode cX3_init 77 = .ok (.multianewarray 41 2, 4) := by decide +kernel
theorem dX3_init_81 : decode cX3_init 81 = .ok (.putfield 43, 3) := by decide +kernel
theorem dX3_init_84 : decode cX3_init 84 = .ok (.aload_n 0, 1) := by decide +kernel
theorem dX3_init_85 : decode cX3_init 85 = .ok (.iconst 4, 1) := by decide +kernel
theorem dX3_init_86 : decode cX3_init 86 = .ok (.newarray .int, 2) := by decide +kernel
theorem dX3_init_88 : decode cX3_init 88 = .ok (.putfield 46, 3) := by decide +kernel
theorem dX3_init_91 : decode cX3_init 91 = .ok (.aload_n 0, 1) := by decide +kernel
theorem dX3_init_92 : decode cX3_init 92 = .ok (.iconst 4, 1) := by decide +kernel
theorem dX3_init_93 : decode cX3_init 93 = .ok (.newarray .int, 2) := by decide +kernel
theorem dX3_init_95 : decode cX3_init 95 = .ok (.putfield 49, 3) := by decide +kernel
theorem dX3_init_98 : decode cX3_init 98 = .ok (.aload_n 0, 1) := by decide +kernel
theorem dX3_init_99 : decode cX3_init 99 = .ok (.iconst 4, 1) := by decide +kernel
theorem dX3_init_100 : decode cX3_init 100 = .ok (.newarray .int, 2) := by decide +kernel
theorem dX3_init_102 : decode cX3_init 102 = .ok (.putfield 52, 3) := by decide +kernel
theorem dX3_init_105 : decode cX3_init 105 = .ok (.aload_n 0, 1) := by decide +kernel
theorem dX3_init_106 : decode cX3_init 106 = .ok (.new 55, 3) := by decide +kernel
theorem dX3_init_109 : decode cX3_init 109 = .ok (.dup, 1) := by decide +kernel
theorem dX3_init_110 : decode cX3_init 110 = .ok (.invokespecial 57, 3) := by decide +kernel
theorem dX3_init_113 : decode cX3_init 113 = .ok (.putfield 58, 3) := by decide +kernel
theorem dX3_init_116 : decode cX3_init 116 = .ok (.iconst 0, 1) := by decide +kernel
theorem dX3_init_117 : decode cX3_init 117 = .ok (.istore_n 1, 1) := by decide +kernel
theorem dX3_init_118 : decode cX3_init 118 = .ok (.iload_n 1, 1) := by decide +kernel
theorem dX3_init_119 : decode cX3_init 119 = .ok (.iconst 4, 1) := by decide +kernel
theorem dX3_init_120 : decode cX3_init 120 = .ok (.if_icmp .ge 16, 3) := by decide +kernel
theorem dX3_init_123 : decode cX3_init 123 = .ok (.aload_n 0, 1) := by decide +kernel
theorem dX3_init_124 : decode cX3_init 124 = .ok (.getfield 34, 3) := by decide +kernel
theorem dX3_init_127 : decode cX3_init 127 = .ok (.iload_n 1, 1) := by decide +kernel
theorem dX3_init_128 : decode cX3_init 128 = .ok (.iconst (-1), 1) := by decide +kernel
theorem dX3_init_129 : decode cX3_init 129 = .ok (.iastore, 1) := by decide +kernel
theorem dX3_init_130 : decode cX3_init 130 = .ok (.iinc 1 1, 3) := by decide +kernel
theorem dX3_init_133 : decode cX3_init 133 = .ok (.goto (-15), 3) := by decide +kernel
theorem dX3_init_136 : decode cX3_init 136 = .ok (.iconst 0, 1) := by decide +kernel
theorem dX3_init_137 : decode cX3_init 137 = .ok (.istore_n 1, 1) := by decide +kernel
theorem dX3_init_138 : decode cX3_init 138 = .ok (.iload_n 1, 1) := by decide +kernel
theorem dX3_init_139 : decode cX3_init 139 = .ok (.iconst 4, 1) := by decide +kernel
theorem dX3_init_140 : decode cX3_init 140 = .ok (.if_icmp .ge 16, 3) := by decide +kernel
theorem dX3_init_143 : decode cX3_init 143 = .ok (.aload_n 0, 1) := by decide +kernel
theorem dX3_init_144 : decode cX3_init 144 = .ok (.getfield 46, 3) := by decide +kernel
theorem dX3_init_147 : decode cX3_init 147 = .ok (.iload_n 1, 1) := by decide +kernel
theorem dX3_init_148 : decode cX3_init 148 = .ok (.iconst 2, 1) := by decide +kernel
theorem dX3_init_149 : decode cX3_init 149 = .ok (.iastore, 1) := by decide +kernel
theorem dX3_init_150 : decode cX3_init 150 = .ok (.iinc 1 1, 3) := by decide +kernel
theorem dX3_init_153 : decode cX3_init 153 = .ok (.goto (-15), 3) := by decide +kernel
theorem dX3_init_156 : decode cX3_init 156 = .ok (.return_, 1) := by decide +kernel
theorem dX3_feed_0 : decode cX3_feed 0 = .ok (.iload_n 3, 1) := by decide +kernel
theorem dX3_feed_1 : decode cX3_feed 1 = .ok (.iconst 1, 1) := by decide +kernel
theorem dX3_feed_2 : decode cX3_feed 2 = .ok (.if_icmp .lt 9, 3) := by decide +kernel
theorem dX3_feed_5 : decode cX3_feed 5 = .ok (.iload_n 3, 1) := by decide +kernel
theorem dX3_feed_6 : decode cX3_feed 6 = .ok (.bipush 8, 2) := by decide +kernel
theorem dX3_feed_8 : decode cX3_feed 8 = .ok (.if_icmp .le 5, 3) := by decide +kernel
theorem dX3_feed_11 : decode cX3_feed 11 = .ok (.iconst (-1), 1) := by decide +kernel
theorem dX3_feed_12 : decode cX3_feed 12 = .ok (.ireturn, 1) := by decide +kernel
theorem dX3_feed_13 : decode cX3_feed 13 = .ok (.aload_n 0, 1) := by decide +kernel
theorem dX3_feed_14 : decode cX3_feed 14 = .ok (.getfield 25, 3) := by decide +kernel
theorem dX3_feed_17 : decode cX3_feed 17 = .ok (.lload_n 1, 1) := by decide +kernel
theorem dX3_feed_18 : decode cX3_feed 18 = .ok (.iload_n 3, 1) := by decide +kernel
theorem dX3_feed_19 : decode cX3_feed 19 = .ok (.invokevirtual 62, 3) := by decide +kernel
theorem dX3_feed_22 : decode cX3_feed 22 = .ok (.ifCond .eq 13, 3) := by decide +kernel
theorem dX3_feed_25 : decode cX3_feed 25 = .ok (.aload_n 0, 1) := by decide +kernel
theorem dX3_feed_26 : decode cX3_feed 26 = .ok (.getfield 25, 3) := by decide +kernel
theorem dX3_feed_29 : decode cX3_feed 29 = .ok (.getfield 66, 3) := by decide +kernel
theorem dX3_feed_32 : decode cX3_feed 32 = .ok (.goto 5, 3) := by decide +kernel
theorem dX3_feed_35 : decode cX3_feed 35 = .ok (.bipush (-2), 2) := by decide +kernel
theorem dX3_feed_37 : decode cX3_feed 37 = .ok (.ireturn, 1) := by decide +kernel
theorem dX3_moor_0 : decode cX3_moor 0 = .ok (.aload_n 0, 1) := by decide +kernel
theorem dX3_moor_1 : decode cX3_moor 1 = .ok (.getfield 16, 3) := by decide +kernel
theorem dX3_moor_4 : decode cX3_moor 4 = .ok (.invokevirtual 70, 3) := by decide +kernel
theorem dX3_moor_7 : decode cX3_moor 7 = .ok (.aload_n 0, 1) := by decide +kernel
theorem dX3_moor_8 : decode cX3_moor 8 = .ok (.getfield 25, 3) := by decide +kernel
theorem dX3_moor_11 : decode cX3_moor 11 = .ok (.aload_n 0, 1) := by decide +kernel
theorem dX3_moor_12 : decode cX3_moor 12 = .ok (.getfield 16, 3) := by decide +kernel
theorem dX3_moor_15 : decode cX3_moor 15 = .ok (.invokevirtual 73, 3) := by decide +kernel
theorem dX3_moor_18 : decode cX3_moor 18 = .ok (.istore_n 1, 1) := by decide +kernel
theorem dX3_moor_19 : decode cX3_moor 19 = .ok (.aload_n 0, 1) := by decide +kernel
theorem dX3_moor_20 : decode cX3_moor 20 = .ok (.getfield 25, 3) := by decide +kernel
theorem dX3_moor_23 : decode cX3_moor 23 = .ok (.iconst 0, 1) := by decide +kernel
theorem dX3_moor_24 : decode cX3_moor 24 = .ok (.putfield 66, 3) := by decide +kernel
theorem dX3_moor_27 : decode cX3_moor 27 = .ok (.iload_n 1, 1) := by decide +kernel
theorem dX3_moor_28 : decode cX3_moor 28 = .ok (.ifCond .lt 8, 3) := by decide +kernel
theorem dX3_moor_31 : decode cX3_moor 31 = .ok (.bipush (-100), 2) := by decide +kernel
theorem dX3_moor_33 : decode cX3_moor 33 = .ok (.iload_n 1, 1) := by decide +kernel
theorem dX3_moor_34 : decode cX3_moor 34 = .ok (.isub, 1) := by decide +kernel
theorem dX3_moor_35 : decode cX3_moor 35 = .ok (.ireturn, 1) := by decide +kernel
theorem dX3_moor_36 : decode cX3_moor 36 = .ok (.aload_n 0, 1) := by decide +kernel
theorem dX3_moor_37 : decode cX3_moor 37 = .ok (.getfield 16, 3) := by decide +kernel
theorem dX3_moor_40 : decode cX3_moor 40 = .ok (.aload_n 0, 1) := by decide +kernel
theorem dX3_moor_41 : decode cX3_moor 41 = .ok (.getfield 10, 3) := by decide +kernel
theorem dX3_moor_44 : decode cX3_moor 44 = .ok (.getfield 77, 3) := by decide +kernel
theorem dX3_moor_47 : decode cX3_moor 47 = .ok (.putfield 77, 3) := by decide +kernel
theorem dX3_moor_50 : decode cX3_moor 50 = .ok (.aload_n 0, 1) := by decide +kernel
theorem dX3_moor_51 : decode cX3_moor 51 = .ok (.getfield 10, 3) := by decide +kernel
theorem dX3_moor_54 : decode cX3_moor 54 = .ok (.aload_n 0, 1) := by decide +kernel
theorem dX3_moor_55 : decode cX3_moor 55 = .ok (.getfield 16, 3) := by decide +kernel
theorem dX3_moor_58 : decode cX3_moor 58 = .ok (.invokevirtual 80, 3) := by decide +kernel
theorem dX3_moor_61 : decode cX3_moor 61 = .ok (.aload_n 0, 1) := by decide +kernel
theorem dX3_moor_62 : decode cX3_moor 62 = .ok (.iconst 0, 1) := by decide +kernel
theorem dX3_moor_63 : decode cX3_moor 63 = .ok (.putfield 84, 3) := by decide +kernel
theorem dX3_moor_66 : decode cX3_moor 66 = .ok (.aload_n 0, 1) := by decide +kernel
theorem dX3_moor_67 : decode cX3_moor 67 = .ok (.getfield 10, 3) := by decide +kernel
theorem dX3_moor_70 : decode cX3_moor 70 = .ok (.getfield 87, 3) := by decide +kernel
theorem dX3_moor_73 : decode cX3_moor 73 = .ok (.ireturn, 1) := by decide +kernel
theorem dX3_set_0 : decode cX3_set 0 = .ok (.iload_n 1, 1) := by decide +kernel
theorem dX3_set_1 : decode cX3_set 1 = .ok (.invokestatic 90, 3) := by decide +kernel
theorem dX3_set_4 : decode cX3_set 4 = .ok (.ifCond .eq 15, 3) := by decide +kernel
theorem dX3_set_7 : decode cX3_set 7 = .ok (.iload_n 2, 1) := by decide +kernel
theorem dX3_set_8 : decode cX3_set 8 = .ok (.getstatic 94, 3) := by decide +kernel
theorem dX3_set_11 : decode cX3_set 11 = .ok (.iload_n 1, 1) := by decide +kernel
theorem dX3_set_12 : decode cX3_set 12 = .ok (.iaload, 1) := by decide +kernel
theorem dX3_set_13 : decode cX3_set 13 = .ok (.invokestatic 97, 3) := by decide +kernel
theorem dX3_set_16 : decode cX3_set 16 = .ok (.ifCond .ne 5, 3) := by decide +kernel
theorem dX3_set_19 : decode cX3_set 19 = .ok (.iconst (-1), 1) := by decide +kernel
theorem dX3_set_20 : decode cX3_set 20 = .ok (.ireturn, 1) := by decide +kernel
theorem dX3_set_21 : decode cX3_set 21 = .ok (.aload_n 0, 1) := by decide +kernel
theorem dX3_set_22 : decode cX3_set 22 = .ok (.getfield 10, 3) := by decide +kernel
theorem dX3_set_25 : decode cX3_set 25 = .ok (.getfield 101, 3) := by decide +kernel
theorem dX3_set_28 : decode cX3_set 28 = .ok (.iload_n 1, 1) := by decide +kernel
theorem dX3_set_29 : decode cX3_set 29 = .ok (.iaload, 1) := by decide +kernel
theorem dX3_set_30 : decode cX3_set 30 = .ok (.istore_n 3, 1) := by decide +kernel
theorem dX3_set_31 : decode cX3_set 31 = .ok (.aload_n 0, 1) := by decide +kernel
theorem dX3_set_32 : decode cX3_set 32 = .ok (.getfield 10, 3) := by decide +kernel
theorem dX3_set_35 : decode cX3_set 35 = .ok (.getfield 101, 3) := by decide +kernel
theorem dX3_set_38 : decode cX3_set 38 = .ok (.iload_n 1, 1) := by decide +kernel
theorem dX3_set_39 : decode cX3_set 39 = .ok (.iload_n 2, 1) := by decide +kernel
theorem dX3_set_40 : decode cX3_set 40 = .ok (.iastore, 1) := by decide +kernel
theorem dX3_set_41 : decode cX3_set 41 = .ok (.iload_n 3, 1) := by decide +kernel
theorem dX3_set_42 : decode cX3_set 42 = .ok (.ireturn, 1) := by decide +kernel
theorem dX3_lawOf_0 : decode cX3_lawOf 0 = .ok (.iload_n 1, 1) := by decide +kernel
theorem dX3_lawOf_1 : decode cX3_lawOf 1 = .ok (.invokestatic 90, 3) := by decide +kernel
theorem dX3_lawOf_4 : decode cX3_lawOf 4 = .ok (.ifCond .eq 15, 3) := by decide +kernel
theorem dX3_lawOf_7 : decode cX3_lawOf 7 = .ok (.aload_n 0, 1) := by decide +kernel
theorem dX3_lawOf_8 : decode cX3_lawOf 8 = .ok (.getfield 10, 3) := by decide +kernel
theorem dX3_lawOf_11 : decode cX3_lawOf 11 = .ok (.getfield 101, 3) := by decide +kernel
theorem dX3_lawOf_14 : decode cX3_lawOf 14 = .ok (.iload_n 1, 1) := by decide +kernel
theorem dX3_lawOf_15 : decode cX3_lawOf 15 = .ok (.iaload, 1) := by decide +kernel
theorem dX3_lawOf_16 : decode cX3_lawOf 16 = .ok (.goto 4, 3) := by decide +kernel
theorem dX3_lawOf_19 : decode cX3_lawOf 19 = .ok (.iconst (-1), 1) := by decide +kernel
theorem dX3_lawOf_20 : decode cX3_lawOf 20 = .ok (.ireturn, 1) := by decide +kernel
theorem dX3_person_0 : decode cX3_person 0 = .ok (.iload_n 1, 1) := by decide +kernel
theorem dX3_person_1 : decode cX3_person 1 = .ok (.invokestatic 104, 3) := by decide +kernel
theorem dX3_person_4 : decode cX3_person 4 = .ok (.ifCond .eq 29, 3) := by decide +kernel
theorem dX3_person_7 : decode cX3_person 7 = .ok (.iload_n 2, 1) := by decide +kernel
theorem dX3_person_8 : decode cX3_person 8 = .ok (.bipush 9, 2) := by decide +kernel
theorem dX3_person_10 : decode cX3_person 10 = .ok (.invokestatic 97, 3) := by decide +kernel
theorem dX3_person_13 : decode cX3_person 13 = .ok (.ifCond .eq 20, 3) := by decide +kernel
theorem dX3_person_16 : decode cX3_person 16 = .ok (.iload_n 3, 1) := by decide +kernel
theorem dX3_person_17 : decode cX3_person 17 = .ok (.bipush 99, 2) := by decide +kernel
theorem dX3_person_19 : decode cX3_person 19 = .ok (.invokestatic 97, 3) := by decide +kernel
theorem dX3_person_22 : decode cX3_person 22 = .ok (.ifCond .eq 11, 3) := by decide +kernel
theorem dX3_person_25 : decode cX3_person 25 = .ok (.iload 4, 2) := by decide +kernel
theorem dX3_person_27 : decode cX3_person 27 = .ok (.invokestatic 107, 3) := by decide +kernel
theorem dX3_person_30 : decode cX3_person 30 = .ok (.ifCond .ne 5, 3) := by decide +kernel
theorem dX3_person_33 : decode cX3_person 33 = .ok (.iconst (-1), 1) := by decide +kernel
theorem dX3_person_34 : decode cX3_person 34 = .ok (.ireturn, 1) := by decide +kernel
theorem dX3_person_35 : decode cX3_person 35 = .ok (.aload_n 0, 1) := by decide +kernel
theorem dX3_person_36 : decode cX3_person 36 = .ok (.getfield 10, 3) := by decide +kernel
theorem dX3_person_39 : decode cX3_person 39 = .ok (.getfield 87, 3) := by decide +kernel
theorem dX3_person_42 : decode cX3_person 42 = .ok (.bipush 8, 2) := by decide +kernel
theorem dX3_person_44 : decode cX3_person 44 = .ok (.if_icmp .lt 6, 3) := by decide +kernel
theorem dX3_person_47 : decode cX3_person 47 = .ok (.bipush (-2), 2) := by decide +kernel
theorem dX3_person_49 : decode cX3_person 49 = .ok (.ireturn, 1) := by decide +kernel
theorem dX3_person_50 : decode cX3_person 50 = .ok (.aload_n 0, 1) := by decide +kernel
theorem dX3_person_51 : decode cX3_person 51 = .ok (.getfield 10, 3) := by decide +kernel
theorem dX3_person_54 : decode cX3_person 54 = .ok (.iload_n 1, 1) := by decide +kernel
theorem dX3_person_55 : decode cX3_person 55 = .ok (.iload_n 2, 1) := by decide +kernel
theorem dX3_person_56 : decode cX3_person 56 = .ok (.iload_n 3, 1) := by decide +kernel
theorem dX3_person_57 : decode cX3_person 57 = .ok (.iload 4, 2) := by decide +kernel
theorem dX3_person_59 : decode cX3_person 59 = .ok (.invokevirtual 110, 3) := by decide +kernel
theorem dX3_person_62 : decode cX3_person 62 = .ok (.ireturn, 1) := by decide +kernel
theorem dX3_of_0 : decode cX3_of 0 = .ok (.aload_n 0, 1) := by decide +kernel
theorem dX3_of_1 : decode cX3_of 1 = .ok (.iload_n 1, 1) := by decide +kernel
theorem dX3_of_2 : decode cX3_of 2 = .ok (.invokevirtual 114, 3) := by decide +kernel
theorem dX3_of_5 : decode cX3_of 5 = .ok (.ifCond .ne 5, 3) := by decide +kernel
theorem dX3_of_8 : decode cX3_of 8 = .ok (.iconst (-1), 1) := by decide +kernel
theorem dX3_of_9 : decode cX3_of 9 = .ok (.ireturn, 1) := by decide +kernel
theorem dX3_of_10 : decode cX3_of 10 = .ok (.iload_n 2, 1) := by decide +kernel
theorem dX3_of_11 : decode cX3_of 11 = .ok (.tableswitch 129 0 7 #[45, 55, 65, 75, 85, 94, 103, 120], 45) := by decide +kernel
theorem dX3_of_56 : decode cX3_of 56 = .ok (.aload_n 0, 1) := by decide +kernel
theorem dX3_of_57 : decode cX3_of 57 = .ok (.getfield 10, 3) := by decide +kernel
theorem dX3_of_60 : decode cX3_of 60 = .ok (.getfield 117, 3) := by decide +kernel
theorem dX3_of_63 : decode cX3_of 63 = .ok (.iload_n 1, 1) := by decide +kernel
theorem dX3_of_64 : decode cX3_of 64 = .ok (.iaload, 1) := by decide +kernel
theorem dX3_of_65 : decode cX3_of 65 = .ok (.ireturn, 1) := by decide +kernel
theorem dX3_of_66 : decode cX3_of 66 = .ok (.aload_n 0, 1) := by decide +kernel
theorem dX3_of_67 : decode cX3_of 67 = .ok (.getfield 10, 3) := by decide +kernel
theorem dX3_of_70 : decode cX3_of 70 = .ok (.getfield 120, 3) := by decide +kernel
theorem dX3_of_73 : decode cX3_of 73 = .ok (.iload_n 1, 1) := by decide +kernel
theorem dX3_of_74 : decode cX3_of 74 = .ok (.iaload, 1) := by decide +kernel
theorem dX3_of_75 : decode cX3_of 75 = .ok (.ireturn, 1) := by decide +kernel
theorem dX3_of_76 : decode cX3_of 76 = .ok (.aload_n 0, 1) := by decide +kernel
theorem dX3_of_77 : decode cX3_of 77 = .ok (.getfield 10, 3) := by decide +kernel
theorem dX3_of_80 : decode cX3_of 80 = .ok (.getfield 123, 3) := by decide +kernel
theorem dX3_of_83 : decode cX3_of 83 = .ok (.iload_n 1, 1) := by decide +kernel
theorem dX3_of_84 : decode cX3_of 84 = .ok (.iaload, 1) := by decide +kernel
theorem dX3_of_85 : decode cX3_of 85 = .ok (.ireturn, 1) := by decide +kernel
theorem dX3_of_86 : decode cX3_of 86 = .ok (.aload_n 0, 1) := by decide +kernel
theorem dX3_of_87 : decode cX3_of 87 = .ok (.getfield 10, 3) := by decide +kernel
theorem dX3_of_90 : decode cX3_of 90 = .ok (.getfield 126, 3) := by decide +kernel
theorem dX3_of_93 : decode cX3_of 93 = .ok (.iload_n 1, 1) := by decide +kernel
theorem dX3_of_94 : decode cX3_of 94 = .ok (.iaload, 1) := by decide +kernel
theorem dX3_of_95 : decode cX3_of 95 = .ok (.ireturn, 1) := by decide +kernel
theorem dX3_of_96 : decode cX3_of 96 = .ok (.aload_n 0, 1) := by decide +kernel
theorem dX3_of_97 : decode cX3_of 97 = .ok (.getfield 10, 3) := by decide +kernel
theorem dX3_of_100 : decode cX3_of 100 = .ok (.iload_n 1, 1) := by decide +kernel
theorem dX3_of_101 : decode cX3_of 101 = .ok (.invokevirtual 129, 3) := by decide +kernel
theorem dX3_of_104 : decode cX3_of 104 = .ok (.ireturn, 1) := by decide +kernel
theorem dX3_of_105 : decode cX3_of 105 = .ok (.aload_n 0, 1) := by decide +kernel
theorem dX3_of_106 : decode cX3_of 106 = .ok (.getfield 10, 3) := by decide +kernel
theorem dX3_of_109 : decode cX3_of 109 = .ok (.iload_n 1, 1) := by decide +kernel
theorem dX3_of_110 : decode cX3_of 110 = .ok (.invokevirtual 133, 3) := by decide +kernel
theorem dX3_of_113 : decode cX3_of 113 = .ok (.ireturn, 1) := by decide +kernel
theorem dX3_of_114 : decode cX3_of 114 = .ok (.aload_n 0, 1) := by decide +kernel
theorem dX3_of_115 : decode cX3_of 115 = .ok (.getfield 10, 3) := by decide +kernel
theorem dX3_of_118 : decode cX3_of 118 = .ok (.iload_n 1, 1) := by decide +kernel
theorem dX3_of_119 : decode cX3_of 119 = .ok (.invokevirtual 136, 3) := by decide +kernel
theorem dX3_of_122 : decode cX3_of 122 = .ok (.ifCond .eq 7, 3) := by decide +kernel
theorem dX3_of_125 : decode cX3_of 125 = .ok (.iconst 1, 1) := by decide +kernel
theorem dX3_of_126 : decode cX3_of 126 = .ok (.goto 4, 3) := by decide +kernel
theorem dX3_of_129 : decode cX3_of 129 = .ok (.iconst 0, 1) := by decide +kernel
theorem dX3_of_130 : decode cX3_of 130 = .ok (.ireturn, 1) := by decide +kernel
theorem dX3_of_131 : decode cX3_of 131 = .ok (.aload_n 0, 1) := by decide +kernel
theorem dX3_of_132 : decode cX3_of 132 = .ok (.getfield 10, 3) := by decide +kernel
theorem dX3_of_135 : decode cX3_of 135 = .ok (.iload_n 1, 1) := by decide +kernel
theorem dX3_of_136 : decode cX3_of 136 = .ok (.invokevirtual 139, 3) := by decide +kernel
theorem dX3_of_139 : decode cX3_of 139 = .ok (.ireturn, 1) := by decide +kernel
theorem dX3_of_140 : decode cX3_of 140 = .ok (.iconst (-1), 1) := by decide +kernel
theorem dX3_of_141 : decode cX3_of 141 = .ok (.ireturn, 1) := by decide +kernel
theorem dX3_loses_0 : decode cX3_loses 0 = .ok (.aload_n 0, 1) := by decide +kernel
theorem dX3_loses_1 : decode cX3_loses 1 = .ok (.iload_n 1, 1) := by decide +kernel
theorem dX3_loses_2 : decode cX3_loses 2 = .ok (.invokevirtual 114, 3) := by decide +kernel
theorem dX3_loses_5 : decode cX3_loses 5 = .ok (.ifCond .eq 18, 3) := by decide +kernel
theorem dX3_loses_8 : decode cX3_loses 8 = .ok (.sipush 1000, 3) := by decide +kernel
theorem dX3_loses_11 : decode cX3_loses 11 = .ok (.aload_n 0, 1) := by decide +kernel
theorem dX3_loses_12 : decode cX3_loses 12 = .ok (.getfield 10, 3) := by decide +kernel
theorem dX3_loses_15 : decode cX3_loses 15 = .ok (.iload_n 1, 1) := by decide +kernel
theorem dX3_loses_16 : decode cX3_loses 16 = .ok (.invokevirtual 142, 3) := by decide +kernel
theorem dX3_loses_19 : decode cX3_loses 19 = .ok (.iadd, 1) := by decide +kernel
theorem dX3_loses_20 : decode cX3_loses 20 = .ok (.goto 4, 3) := by decide +kernel
theorem dX3_loses_23 : decode cX3_loses 23 = .ok (.iconst (-1), 1) := by decide +kernel
theorem dX3_loses_24 : decode cX3_loses 24 = .ok (.ireturn, 1) := by decide +kernel
theorem dX3_mind_0 : decode cX3_mind 0 = .ok (.aload_n 0, 1) := by decide +kernel
theorem dX3_mind_1 : decode cX3_mind 1 = .ok (.iload_n 1, 1) := by decide +kernel
theorem dX3_mind_2 : decode cX3_mind 2 = .ok (.invokevirtual 114, 3) := by decide +kernel
theorem dX3_mind_5 : decode cX3_mind 5 = .ok (.ifCond .eq 19, 3) := by decide +kernel
theorem dX3_mind_8 : decode cX3_mind 8 = .ok (.iload_n 2, 1) := by decide +kernel
theorem dX3_mind_9 : decode cX3_mind 9 = .ok (.invokestatic 104, 3) := by decide +kernel
theorem dX3_mind_12 : decode cX3_mind 12 = .ok (.ifCond .eq 12, 3) := by decide +kernel
theorem dX3_mind_15 : decode cX3_mind 15 = .ok (.iload_n 3, 1) := by decide +kernel
theorem dX3_mind_16 : decode cX3_mind 16 = .ok (.bipush 9, 2) := by decide +kernel
theorem dX3_mind_18 : decode cX3_mind 18 = .ok (.invokestatic 97, 3) := by decide +kernel
theorem dX3_mind_21 : decode cX3_mind 21 = .ok (.ifCond .ne 5, 3) := by decide +kernel
theorem dX3_mind_24 : decode cX3_mind 24 = .ok (.iconst (-1), 1) := by decide +kernel
theorem dX3_mind_25 : decode cX3_mind 25 = .ok (.ireturn, 1) := by decide +kernel
theorem dX3_mind_26 : decode cX3_mind 26 = .ok (.aload_n 0, 1) := by decide +kernel
theorem dX3_mind_27 : decode cX3_mind 27 = .ok (.getfield 10, 3) := by decide +kernel
theorem dX3_mind_30 : decode cX3_mind 30 = .ok (.getfield 117, 3) := by decide +kernel
theorem dX3_mind_33 : decode cX3_mind 33 = .ok (.iload_n 1, 1) := by decide +kernel
theorem dX3_mind_34 : decode cX3_mind 34 = .ok (.iaload, 1) := by decide +kernel
theorem dX3_mind_35 : decode cX3_mind 35 = .ok (.istore 4, 2) := by decide +kernel
theorem dX3_mind_37 : decode cX3_mind 37 = .ok (.aload_n 0, 1) := by decide +kernel
theorem dX3_mind_38 : decode cX3_mind 38 = .ok (.getfield 10, 3) := by decide +kernel
theorem dX3_mind_41 : decode cX3_mind 41 = .ok (.getfield 117, 3) := by decide +kernel
theorem dX3_mind_44 : decode cX3_mind 44 = .ok (.iload_n 1, 1) := by decide +kernel
theorem dX3_mind_45 : decode cX3_mind 45 = .ok (.iload_n 2, 1) := by decide +kernel
theorem dX3_mind_46 : decode cX3_mind 46 = .ok (.iastore, 1) := by decide +kernel
theorem dX3_mind_47 : decode cX3_mind 47 = .ok (.aload_n 0, 1) := by decide +kernel
theorem dX3_mind_48 : decode cX3_mind 48 = .ok (.getfield 10, 3) := by decide +kernel
theorem dX3_mind_51 : decode cX3_mind 51 = .ok (.getfield 120, 3) := by decide +kernel
theorem dX3_mind_54 : decode cX3_mind 54 = .ok (.iload_n 1, 1) := by decide +kernel
theorem dX3_mind_55 : decode cX3_mind 55 = .ok (.iload_n 3, 1) := by decide +kernel
theorem dX3_mind_56 : decode cX3_mind 56 = .ok (.iastore, 1) := by decide +kernel
theorem dX3_mind_57 : decode cX3_mind 57 = .ok (.iload 4, 2) := by decide +kernel
theorem dX3_mind_59 : decode cX3_mind 59 = .ok (.ireturn, 1) := by decide +kernel
theorem dX3_sure_0 : decode cX3_sure 0 = .ok (.aload_n 0, 1) := by decide +kernel
theorem dX3_sure_1 : decode cX3_sure 1 = .ok (.iload_n 1, 1) := by decide +kernel
theorem dX3_sure_2 : decode cX3_sure 2 = .ok (.invokevirtual 114, 3) := by decide +kernel
theorem dX3_sure_5 : decode cX3_sure 5 = .ok (.ifCond .eq 12, 3) := by decide +kernel
theorem dX3_sure_8 : decode cX3_sure 8 = .ok (.iload_n 2, 1) := by decide +kernel
theorem dX3_sure_9 : decode cX3_sure 9 = .ok (.bipush 99, 2) := by decide +kernel
theorem dX3_sure_11 : decode cX3_sure 11 = .ok (.invokestatic 97, 3) := by decide +kernel
theorem dX3_sure_14 : decode cX3_sure 14 = .ok (.ifCond .ne 5, 3) := by decide +kernel
theorem dX3_sure_17 : decode cX3_sure 17 = .ok (.iconst (-1), 1) := by decide +kernel
theorem dX3_sure_18 : decode cX3_sure 18 = .ok (.ireturn, 1) := by decide +kernel
theorem dX3_sure_19 : decode cX3_sure 19 = .ok (.aload_n 0, 1) := by decide +kernel
theorem dX3_sure_20 : decode cX3_sure 20 = .ok (.getfield 10, 3) := by decide +kernel
theorem dX3_sure_23 : decode cX3_sure 23 = .ok (.getfield 123, 3) := by decide +kernel
theorem dX3_sure_26 : decode cX3_sure 26 = .ok (.iload_n 1, 1) := by decide +kernel
theorem dX3_sure_27 : decode cX3_sure 27 = .ok (.iaload, 1) := by decide +kernel
theorem dX3_sure_28 : decode cX3_sure 28 = .ok (.istore_n 3, 1) := by decide +kernel
theorem dX3_sure_29 : decode cX3_sure 29 = .ok (.aload_n 0, 1) := by decide +kernel
theorem dX3_sure_30 : decode cX3_sure 30 = .ok (.getfield 10, 3) := by decide +kernel
theorem dX3_sure_33 : decode cX3_sure 33 = .ok (.getfield 123, 3) := by decide +kernel
theorem dX3_sure_36 : decode cX3_sure 36 = .ok (.iload_n 1, 1) := by decide +kernel
theorem dX3_sure_37 : decode cX3_sure 37 = .ok (.iload_n 2, 1) := by decide +kernel
theorem dX3_sure_38 : decode cX3_sure 38 = .ok (.iastore, 1) := by decide +kernel
theorem dX3_sure_39 : decode cX3_sure 39 = .ok (.iload_n 3, 1) := by decide +kernel
theorem dX3_sure_40 : decode cX3_sure 40 = .ok (.ireturn, 1) := by decide +kernel
theorem dX3_bring_0 : decode cX3_bring 0 = .ok (.aload_n 0, 1) := by decide +kernel
theorem dX3_bring_1 : decode cX3_bring 1 = .ok (.iload_n 1, 1) := by decide +kernel
theorem dX3_bring_2 : decode cX3_bring 2 = .ok (.invokevirtual 114, 3) := by decide +kernel
theorem dX3_bring_5 : decode cX3_bring 5 = .ok (.ifCond .eq 10, 3) := by decide +kernel
theorem dX3_bring_8 : decode cX3_bring 8 = .ok (.iload_n 2, 1) := by decide +kernel
theorem dX3_bring_9 : decode cX3_bring 9 = .ok (.invokestatic 107, 3) := by decide +kernel
theorem dX3_bring_12 : decode cX3_bring 12 = .ok (.ifCond .ne 5, 3) := by decide +kernel
theorem dX3_bring_15 : decode cX3_bring 15 = .ok (.iconst (-1), 1) := by decide +kernel
theorem dX3_bring_16 : decode cX3_bring 16 = .ok (.ireturn, 1) := by decide +kernel
theorem dX3_bring_17 : decode cX3_bring 17 = .ok (.aload_n 0, 1) := by decide +kernel
theorem dX3_bring_18 : decode cX3_bring 18 = .ok (.getfield 10, 3) := by decide +kernel
theorem dX3_bring_21 : decode cX3_bring 21 = .ok (.getfield 126, 3) := by decide +kernel
theorem dX3_bring_24 : decode cX3_bring 24 = .ok (.iload_n 1, 1) := by decide +kernel
theorem dX3_bring_25 : decode cX3_bring 25 = .ok (.iaload, 1) := by decide +kernel
theorem dX3_bring_26 : decode cX3_bring 26 = .ok (.istore_n 3, 1) := by decide +kernel
theorem dX3_bring_27 : decode cX3_bring 27 = .ok (.aload_n 0, 1) := by decide +kernel
theorem dX3_bring_28 : decode cX3_bring 28 = .ok (.getfield 10, 3) := by decide +kernel
theorem dX3_bring_31 : decode cX3_bring 31 = .ok (.getfield 126, 3) := by decide +kernel
theorem dX3_bring_34 : decode cX3_bring 34 = .ok (.iload_n 1, 1) := by decide +kernel
theorem dX3_bring_35 : decode cX3_bring 35 = .ok (.iload_n 2, 1) := by decide +kernel
theorem dX3_bring_36 : decode cX3_bring 36 = .ok (.iastore, 1) := by decide +kernel
theorem dX3_bring_37 : decode cX3_bring 37 = .ok (.iload_n 3, 1) := by decide +kernel
theorem dX3_bring_38 : decode cX3_bring 38 = .ok (.ireturn, 1) := by decide +kernel
theorem dX3_cell_0 : decode cX3_cell 0 = .ok (.iload_n 1, 1) := by decide +kernel
theorem dX3_cell_1 : decode cX3_cell 1 = .ok (.invokestatic 107, 3) := by decide +kernel
theorem dX3_cell_4 : decode cX3_cell 4 = .ok (.ifCond .ne 5, 3) := by decide +kernel
theorem dX3_cell_7 : decode cX3_cell 7 = .ok (.iconst (-1), 1) := by decide +kernel
theorem dX3_cell_8 : decode cX3_cell 8 = .ok (.ireturn, 1) := by decide +kernel
theorem dX3_cell_9 : decode cX3_cell 9 = .ok (.iload_n 2, 1) := by decide +kernel
theorem dX3_cell_10 : decode cX3_cell 10 = .ok (.tableswitch 81 0 4 #[34, 44, 54, 63, 72], 34) := by decide +kernel
theorem dX3_cell_44 : decode cX3_cell 44 = .ok (.aload_n 0, 1) := by decide +kernel
theorem dX3_cell_45 : decode cX3_cell 45 = .ok (.getfield 10, 3) := by decide +kernel
theorem dX3_cell_48 : decode cX3_cell 48 = .ok (.getfield 145, 3) := by decide +kernel
theorem dX3_cell_51 : decode cX3_cell 51 = .ok (.iload_n 1, 1) := by decide +kernel
theorem dX3_cell_52 : decode cX3_cell 52 = .ok (.iaload, 1) := by decide +kernel
theorem dX3_cell_53 : decode cX3_cell 53 = .ok (.ireturn, 1) := by decide +kernel
theorem dX3_cell_54 : decode cX3_cell 54 = .ok (.aload_n 0, 1) := by decide +kernel
theorem dX3_cell_55 : decode cX3_cell 55 = .ok (.getfield 10, 3) := by decide +kernel
theorem dX3_cell_58 : decode cX3_cell 58 = .ok (.getfield 148, 3) := by decide +kernel
theorem dX3_cell_61 : decode cX3_cell 61 = .ok (.iload_n 1, 1) := by decide +kernel
theorem dX3_cell_62 : decode cX3_cell 62 = .ok (.iaload, 1) := by decide +kernel
theorem dX3_cell_63 : decode cX3_cell 63 = .ok (.ireturn, 1) := by decide +kernel
theorem dX3_cell_64 : decode cX3_cell 64 = .ok (.aload_n 0, 1) := by decide +kernel
theorem dX3_cell_65 : decode cX3_cell 65 = .ok (.getfield 10, 3) := by decide +kernel
theorem dX3_cell_68 : decode cX3_cell 68 = .ok (.iload_n 1, 1) := by decide +kernel
theorem dX3_cell_69 : decode cX3_cell 69 = .ok (.invokevirtual 151, 3) := by decide +kernel
theorem dX3_cell_72 : decode cX3_cell 72 = .ok (.ireturn, 1) := by decide +kernel
theorem dX3_cell_73 : decode cX3_cell 73 = .ok (.aload_n 0, 1) := by decide +kernel
theorem dX3_cell_74 : decode cX3_cell 74 = .ok (.getfield 10, 3) := by decide +kernel
theorem dX3_cell_77 : decode cX3_cell 77 = .ok (.iload_n 1, 1) := by decide +kernel
theorem dX3_cell_78 : decode cX3_cell 78 = .ok (.invokevirtual 154, 3) := by decide +kernel
theorem dX3_cell_81 : decode cX3_cell 81 = .ok (.ireturn, 1) := by decide +kernel
theorem dX3_cell_82 : decode cX3_cell 82 = .ok (.aload_n 0, 1) := by decide +kernel
theorem dX3_cell_83 : decode cX3_cell 83 = .ok (.getfield 10, 3) := by decide +kernel
theorem dX3_cell_86 : decode cX3_cell 86 = .ok (.iload_n 1, 1) := by decide +kernel
theorem dX3_cell_87 : decode cX3_cell 87 = .ok (.invokevirtual 157, 3) := by decide +kernel
theorem dX3_cell_90 : decode cX3_cell 90 = .ok (.ireturn, 1) := by decide +kernel
theorem dX3_cell_91 : decode cX3_cell 91 = .ok (.iconst (-1), 1) := by decide +kernel
theorem dX3_cell_92 : decode cX3_cell 92 = .ok (.ireturn, 1) := by decide +kernel
theorem dX3_lowest_0 : decode cX3_lowest 0 = .ok (.iload_n 1, 1) := by decide +kernel
theorem dX3_lowest_1 : decode cX3_lowest 1 = .ok (.invokestatic 107, 3) := by decide +kernel
theorem dX3_lowest_4 : decode cX3_lowest 4 = .ok (.ifCond .ne 5, 3) := by decide +kernel
theorem dX3_lowest_7 : decode cX3_lowest 7 = .ok (.iconst (-1), 1) := by decide +kernel
theorem dX3_lowest_8 : decode cX3_lowest 8 = .ok (.ireturn, 1) := by decide +kernel
theorem dX3_lowest_9 : decode cX3_lowest 9 = .ok (.aload_n 0, 1) := by decide +kernel
theorem dX3_lowest_10 : decode cX3_lowest 10 = .ok (.getfield 10, 3) := by decide +kernel
theorem dX3_lowest_13 : decode cX3_lowest 13 = .ok (.getfield 160, 3) := by decide +kernel
theorem dX3_lowest_16 : decode cX3_lowest 16 = .ok (.iload_n 1, 1) := by decide +kernel
theorem dX3_lowest_17 : decode cX3_lowest 17 = .ok (.iaload, 1) := by decide +kernel
theorem dX3_lowest_18 : decode cX3_lowest 18 = .ok (.ifCond .ge 8, 3) := by decide +kernel
theorem dX3_lowest_21 : decode cX3_lowest 21 = .ok (.bipush (-3), 2) := by decide +kernel
theorem dX3_lowest_23 : decode cX3_lowest 23 = .ok (.goto 12, 3) := by decide +kernel
theorem dX3_lowest_26 : decode cX3_lowest 26 = .ok (.aload_n 0, 1) := by decide +kernel
theorem dX3_lowest_27 : decode cX3_lowest 27 = .ok (.getfield 10, 3) := by decide +kernel
theorem dX3_lowest_30 : decode cX3_lowest 30 = .ok (.getfield 160, 3) := by decide +kernel
theorem dX3_lowest_33 : decode cX3_lowest 33 = .ok (.iload_n 1, 1) := by decide +kernel
theorem dX3_lowest_34 : decode cX3_lowest 34 = .ok (.iaload, 1) := by decide +kernel
theorem dX3_lowest_35 : decode cX3_lowest 35 = .ok (.ireturn, 1) := by decide +kernel
theorem dX3_water_0 : decode cX3_water 0 = .ok (.iload_n 1, 1) := by decide +kernel
theorem dX3_water_1 : decode cX3_water 1 = .ok (.invokestatic 107, 3) := by decide +kernel
theorem dX3_water_4 : decode cX3_water 4 = .ok (.ifCond .eq 12, 3) := by decide +kernel
theorem dX3_water_7 : decode cX3_water 7 = .ok (.iload_n 2, 1) := by decide +kernel
theorem dX3_water_8 : decode cX3_water 8 = .ok (.bipush 99, 2) := by decide +kernel
theorem dX3_water_10 : decode cX3_water 10 = .ok (.invokestatic 97, 3) := by decide +kernel
theorem dX3_water_13 : decode cX3_water 13 = .ok (.ifCond .ne 5, 3) := by decide +kernel
theorem dX3_water_16 : decode cX3_water 16 = .ok (.iconst (-1), 1) := by decide +kernel
theorem dX3_water_17 : decode cX3_water 17 = .ok (.ireturn, 1) := by decide +kernel
theorem dX3_water_18 : decode cX3_water 18 = .ok (.aload_n 0, 1) := by decide +kernel
theorem dX3_water_19 : decode cX3_water 19 = .ok (.getfield 10, 3) := by decide +kernel
theorem dX3_water_22 : decode cX3_water 22 = .ok (.getfield 145, 3) := by decide +kernel
theorem dX3_water_25 : decode cX3_water 25 = .ok (.iload_n 1, 1) := by decide +kernel
theorem dX3_water_26 : decode cX3_water 26 = .ok (.iaload, 1) := by decide +kernel
theorem dX3_water_27 : decode cX3_water 27 = .ok (.istore_n 3, 1) := by decide +kernel
theorem dX3_water_28 : decode cX3_water 28 = .ok (.aload_n 0, 1) := by decide +kernel
theorem dX3_water_29 : decode cX3_water 29 = .ok (.getfield 10, 3) := by decide +kernel
theorem dX3_water_32 : decode cX3_water 32 = .ok (.getfield 145, 3) := by decide +kernel
theorem dX3_water_35 : decode cX3_water 35 = .ok (.iload_n 1, 1) := by decide +kernel
theorem dX3_water_36 : decode cX3_water 36 = .ok (.iload_n 2, 1) := by decide +kernel
theorem dX3_water_37 : decode cX3_water 37 = .ok (.iastore, 1) := by decide +kernel
theorem dX3_water_38 : decode cX3_water 38 = .ok (.iload_n 3, 1) := by decide +kernel
theorem dX3_water_39 : decode cX3_water 39 = .ok (.ireturn, 1) := by decide +kernel
theorem dX3_height_0 : decode cX3_height 0 = .ok (.iload_n 1, 1) := by decide +kernel
theorem dX3_height_1 : decode cX3_height 1 = .ok (.invokestatic 107, 3) := by decide +kernel
theorem dX3_height_4 : decode cX3_height 4 = .ok (.ifCond .eq 12, 3) := by decide +kernel
theorem dX3_height_7 : decode cX3_height 7 = .ok (.iload_n 2, 1) := by decide +kernel
theorem dX3_height_8 : decode cX3_height 8 = .ok (.bipush 9, 2) := by decide +kernel
theorem dX3_height_10 : decode cX3_height 10 = .ok (.invokestatic 97, 3) := by decide +kernel
theorem dX3_height_13 : decode cX3_height 13 = .ok (.ifCond .ne 5, 3) := by decide +kernel
theorem dX3_height_16 : decode cX3_height 16 = .ok (.iconst (-1), 1) := by decide +kernel
theorem dX3_height_17 : decode cX3_height 17 = .ok (.ireturn, 1) := by decide +kernel
theorem dX3_height_18 : decode cX3_height 18 = .ok (.aload_n 0, 1) := by decide +kernel
theorem dX3_height_19 : decode cX3_height 19 = .ok (.getfield 10, 3) := by decide +kernel
theorem dX3_height_22 : decode cX3_height 22 = .ok (.getfield 148, 3) := by decide +kernel
theorem dX3_height_25 : decode cX3_height 25 = .ok (.iload_n 1, 1) := by decide +kernel
theorem dX3_height_26 : decode cX3_height 26 = .ok (.iaload, 1) := by decide +kernel
theorem dX3_height_27 : decode cX3_height 27 = .ok (.istore_n 3, 1) := by decide +kernel
theorem dX3_height_28 : decode cX3_height 28 = .ok (.aload_n 0, 1) := by decide +kernel
theorem dX3_height_29 : decode cX3_height 29 = .ok (.getfield 10, 3) := by decide +kernel
theorem dX3_height_32 : decode cX3_height 32 = .ok (.iload_n 1, 1) := by decide +kernel
theorem dX3_height_33 : decode cX3_height 33 = .ok (.iload_n 2, 1) := by decide +kernel
theorem dX3_height_34 : decode cX3_height 34 = .ok (.invokevirtual 163, 3) := by decide +kernel
theorem dX3_height_37 : decode cX3_height 37 = .ok (.iload_n 3, 1) := by decide +kernel
theorem dX3_height_38 : decode cX3_height 38 = .ok (.ireturn, 1) := by decide +kernel
theorem dX3_wets_0 : decode cX3_wets 0 = .ok (.iload_n 1, 1) := by decide +kernel
theorem dX3_wets_1 : decode cX3_wets 1 = .ok (.tableswitch 51 0 2 #[27, 35, 43], 27) := by decide +kernel
theorem dX3_wets_28 : decode cX3_wets 28 = .ok (.aload_n 0, 1) := by decide +kernel
theorem dX3_wets_29 : decode cX3_wets 29 = .ok (.getfield 10, 3) := by decide +kernel
theorem dX3_wets_32 : decode cX3_wets 32 = .ok (.invokevirtual 167, 3) := by decide +kernel
theorem dX3_wets_35 : decode cX3_wets 35 = .ok (.lreturn, 1) := by decide +kernel
theorem dX3_wets_36 : decode cX3_wets 36 = .ok (.aload_n 0, 1) := by decide +kernel
theorem dX3_wets_37 : decode cX3_wets 37 = .ok (.getfield 10, 3) := by decide +kernel
theorem dX3_wets_40 : decode cX3_wets 40 = .ok (.invokevirtual 171, 3) := by decide +kernel
theorem dX3_wets_43 : decode cX3_wets 43 = .ok (.lreturn, 1) := by decide +kernel
theorem dX3_wets_44 : decode cX3_wets 44 = .ok (.aload_n 0, 1) := by decide +kernel
theorem dX3_wets_45 : decode cX3_wets 45 = .ok (.getfield 10, 3) := by decide +kernel
theorem dX3_wets_48 : decode cX3_wets 48 = .ok (.invokevirtual 174, 3) := by decide +kernel
theorem dX3_wets_51 : decode cX3_wets 51 = .ok (.lreturn, 1) := by decide +kernel
theorem dX3_wets_52 : decode cX3_wets 52 = .ok (.ldc2_w 177, 3) := by decide +kernel
theorem dX3_wets_55 : decode cX3_wets 55 = .ok (.lreturn, 1) := by decide +kernel
theorem dX3_years_0 : decode cX3_years 0 = .ok (.iload_n 1, 1) := by decide +kernel
theorem dX3_years_1 : decode cX3_years 1 = .ok (.iconst 1, 1) := by decide +kernel
theorem dX3_years_2 : decode cX3_years 2 = .ok (.if_icmp .lt 9, 3) := by decide +kernel
theorem dX3_years_5 : decode cX3_years 5 = .ok (.iload_n 1, 1) := by decide +kernel
theorem dX3_years_6 : decode cX3_years 6 = .ok (.bipush 60, 2) := by decide +kernel
theorem dX3_years_8 : decode cX3_years 8 = .ok (.if_icmp .le 5, 3) := by decide +kernel
theorem dX3_years_11 : decode cX3_years 11 = .ok (.iconst (-1), 1) := by decide +kernel
theorem dX3_years_12 : decode cX3_years 12 = .ok (.ireturn, 1) := by decide +kernel
theorem dX3_years_13 : decode cX3_years 13 = .ok (.aload_n 0, 1) := by decide +kernel
theorem dX3_years_14 : decode cX3_years 14 = .ok (.getfield 10, 3) := by decide +kernel
theorem dX3_years_17 : decode cX3_years 17 = .ok (.iload_n 1, 1) := by decide +kernel
theorem dX3_years_18 : decode cX3_years 18 = .ok (.invokevirtual 179, 3) := by decide +kernel
theorem dX3_years_21 : decode cX3_years 21 = .ok (.aload_n 0, 1) := by decide +kernel
theorem dX3_years_22 : decode cX3_years 22 = .ok (.getfield 10, 3) := by decide +kernel
theorem dX3_years_25 : decode cX3_years 25 = .ok (.invokevirtual 167, 3) := by decide +kernel
theorem dX3_years_28 : decode cX3_years 28 = .ok (.invokestatic 183, 3) := by decide +kernel
theorem dX3_years_31 : decode cX3_years 31 = .ok (.ireturn, 1) := by decide +kernel
theorem dX3_seed_0 : decode cX3_seed 0 = .ok (.aload_n 0, 1) := by decide +kernel
theorem dX3_seed_1 : decode cX3_seed 1 = .ok (.getfield 10, 3) := by decide +kernel
theorem dX3_seed_4 : decode cX3_seed 4 = .ok (.getfield 77, 3) := by decide +kernel
theorem dX3_seed_7 : decode cX3_seed 7 = .ok (.istore_n 2, 1) := by decide +kernel
theorem dX3_seed_8 : decode cX3_seed 8 = .ok (.aload_n 0, 1) := by decide +kernel
theorem dX3_seed_9 : decode cX3_seed 9 = .ok (.getfield 10, 3) := by decide +kernel
theorem dX3_seed_12 : decode cX3_seed 12 = .ok (.iload_n 1, 1) := by decide +kernel
theorem dX3_seed_13 : decode cX3_seed 13 = .ok (.putfield 77, 3) := by decide +kernel
theorem dX3_seed_16 : decode cX3_seed 16 = .ok (.iload_n 2, 1) := by decide +kernel
theorem dX3_seed_17 : decode cX3_seed 17 = .ok (.ireturn, 1) := by decide +kernel
theorem dX3_year_0 : decode cX3_year 0 = .ok (.aload_n 0, 1) := by decide +kernel
theorem dX3_year_1 : decode cX3_year 1 = .ok (.getfield 10, 3) := by decide +kernel
theorem dX3_year_4 : decode cX3_year 4 = .ok (.invokevirtual 189, 3) := by decide +kernel
theorem dX3_year_7 : decode cX3_year 7 = .ok (.aload_n 0, 1) := by decide +kernel
theorem dX3_year_8 : decode cX3_year 8 = .ok (.getfield 10, 3) := by decide +kernel
theorem dX3_year_11 : decode cX3_year 11 = .ok (.invokevirtual 192, 3) := by decide +kernel
theorem dX3_year_14 : decode cX3_year 14 = .ok (.invokestatic 196, 3) := by decide +kernel
theorem dX3_year_17 : decode cX3_year 17 = .ok (.ireturn, 1) := by decide +kernel
theorem dX3_revel_0 : decode cX3_revel 0 = .ok (.iload_n 1, 1) := by decide +kernel
theorem dX3_revel_1 : decode cX3_revel 1 = .ok (.iconst 1, 1) := by decide +kernel
theorem dX3_revel_2 : decode cX3_revel 2 = .ok (.if_icmp .lt 9, 3) := by decide +kernel
theorem dX3_revel_5 : decode cX3_revel 5 = .ok (.iload_n 1, 1) := by decide +kernel
theorem dX3_revel_6 : decode cX3_revel 6 = .ok (.bipush 30, 2) := by decide +kernel
theorem dX3_revel_8 : decode cX3_revel 8 = .ok (.if_icmp .le 5, 3) := by decide +kernel
theorem dX3_revel_11 : decode cX3_revel 11 = .ok (.iconst (-1), 1) := by decide +kernel
theorem dX3_revel_12 : decode cX3_revel 12 = .ok (.ireturn, 1) := by decide +kernel
theorem dX3_revel_13 : decode cX3_revel 13 = .ok (.aload_n 0, 1) := by decide +kernel
theorem dX3_revel_14 : decode cX3_revel 14 = .ok (.getfield 10, 3) := by decide +kernel
theorem dX3_revel_17 : decode cX3_revel 17 = .ok (.invokevirtual 192, 3) := by decide +kernel
theorem dX3_revel_20 : decode cX3_revel 20 = .ok (.invokestatic 196, 3) := by decide +kernel
theorem dX3_revel_23 : decode cX3_revel 23 = .ok (.istore_n 2, 1) := by decide +kernel
theorem dX3_revel_24 : decode cX3_revel 24 = .ok (.aload_n 0, 1) := by decide +kernel
theorem dX3_revel_25 : decode cX3_revel 25 = .ok (.getfield 10, 3) := by decide +kernel
theorem dX3_revel_28 : decode cX3_revel 28 = .ok (.getfield 77, 3) := by decide +kernel
theorem dX3_revel_31 : decode cX3_revel 31 = .ok (.istore_n 3, 1) := by decide +kernel
theorem dX3_revel_32 : decode cX3_revel 32 = .ok (.iconst 0, 1) := by decide +kernel
theorem dX3_revel_33 : decode cX3_revel 33 = .ok (.istore 4, 2) := by decide +kernel
theorem dX3_revel_35 : decode cX3_revel 35 = .ok (.iconst 0, 1) := by decide +kernel
theorem dX3_revel_36 : decode cX3_revel 36 = .ok (.istore 5, 2) := by decide +kernel
theorem dX3_revel_38 : decode cX3_revel 38 = .ok (.iload 5, 2) := by decide +kernel
theorem dX3_revel_40 : decode cX3_revel 40 = .ok (.iload_n 1, 1) := by decide +kernel
theorem dX3_revel_41 : decode cX3_revel 41 = .ok (.if_icmp .ge 60, 3) := by decide +kernel
theorem dX3_revel_44 : decode cX3_revel 44 = .ok (.aload_n 0, 1) := by decide +kernel
theorem dX3_revel_45 : decode cX3_revel 45 = .ok (.getfield 16, 3) := by decide +kernel
theorem dX3_revel_48 : decode cX3_revel 48 = .ok (.aload_n 0, 1) := by decide +kernel
theorem dX3_revel_49 : decode cX3_revel 49 = .ok (.getfield 10, 3) := by decide +kernel
theorem dX3_revel_52 : decode cX3_revel 52 = .ok (.invokevirtual 80, 3) := by decide +kernel
theorem dX3_revel_55 : decode cX3_revel 55 = .ok (.aload_n 0, 1) := by decide +kernel
theorem dX3_revel_56 : decode cX3_revel 56 = .ok (.getfield 16, 3) := by decide +kernel
theorem dX3_revel_59 : decode cX3_revel 59 = .ok (.iload_n 3, 1) := by decide +kernel
theorem dX3_revel_60 : decode cX3_revel 60 = .ok (.putfield 77, 3) := by decide +kernel
theorem dX3_revel_63 : decode cX3_revel 63 = .ok (.aload_n 0, 1) := by decide +kernel
theorem dX3_revel_64 : decode cX3_revel 64 = .ok (.getfield 16, 3) := by decide +kernel
theorem dX3_revel_67 : decode cX3_revel 67 = .ok (.invokevirtual 189, 3) := by decide +kernel
theorem dX3_revel_70 : decode cX3_revel 70 = .ok (.aload_n 0, 1) := by decide +kernel
theorem dX3_revel_71 : decode cX3_revel 71 = .ok (.getfield 16, 3) := by decide +kernel
theorem dX3_revel_74 : decode cX3_revel 74 = .ok (.getfield 77, 3) := by decide +kernel
theorem dX3_revel_77 : decode cX3_revel 77 = .ok (.istore_n 3, 1) := by decide +kernel
theorem dX3_revel_78 : decode cX3_revel 78 = .ok (.aload_n 0, 1) := by decide +kernel
theorem dX3_revel_79 : decode cX3_revel 79 = .ok (.getfield 16, 3) := by decide +kernel
theorem dX3_revel_82 : decode cX3_revel 82 = .ok (.invokevirtual 192, 3) := by decide +kernel
theorem dX3_revel_85 : decode cX3_revel 85 = .ok (.invokestatic 196, 3) := by decide +kernel
theorem dX3_revel_88 : decode cX3_revel 88 = .ok (.iload_n 2, 1) := by decide +kernel
theorem dX3_revel_89 : decode cX3_revel 89 = .ok (.if_icmp .le 6, 3) := by decide +kernel
theorem dX3_revel_92 : decode cX3_revel 92 = .ok (.iinc 4 1, 3) := by decide +kernel
theorem dX3_revel_95 : decode cX3_revel 95 = .ok (.iinc 5 1, 3) := by decide +kernel
theorem dX3_revel_98 : decode cX3_revel 98 = .ok (.goto (-60), 3) := by decide +kernel
theorem dX3_revel_101 : decode cX3_revel 101 = .ok (.iload 4, 2) := by decide +kernel
theorem dX3_revel_103 : decode cX3_revel 103 = .ok (.ireturn, 1) := by decide +kernel
theorem dX3_state_0 : decode cX3_state 0 = .ok (.iload_n 1, 1) := by decide +kernel
theorem dX3_state_1 : decode cX3_state 1 = .ok (.tableswitch 75 0 4 #[35, 43, 51, 59, 67], 35) := by decide +kernel
theorem dX3_state_36 : decode cX3_state 36 = .ok (.aload_n 0, 1) := by decide +kernel
theorem dX3_state_37 : decode cX3_state 37 = .ok (.getfield 10, 3) := by decide +kernel
theorem dX3_state_40 : decode cX3_state 40 = .ok (.getfield 200, 3) := by decide +kernel
theorem dX3_state_43 : decode cX3_state 43 = .ok (.ireturn, 1) := by decide +kernel
theorem dX3_state_44 : decode cX3_state 44 = .ok (.aload_n 0, 1) := by decide +kernel
theorem dX3_state_45 : decode cX3_state 45 = .ok (.getfield 10, 3) := by decide +kernel
theorem dX3_state_48 : decode cX3_state 48 = .ok (.invokevirtual 203, 3) := by decide +kernel
theorem dX3_state_51 : decode cX3_state 51 = .ok (.ireturn, 1) := by decide +kernel
theorem dX3_state_52 : decode cX3_state 52 = .ok (.aload_n 0, 1) := by decide +kernel
theorem dX3_state_53 : decode cX3_state 53 = .ok (.getfield 10, 3) := by decide +kernel
theorem dX3_state_56 : decode cX3_state 56 = .ok (.invokevirtual 192, 3) := by decide +kernel
theorem dX3_state_59 : decode cX3_state 59 = .ok (.ireturn, 1) := by decide +kernel
theorem dX3_state_60 : decode cX3_state 60 = .ok (.aload_n 0, 1) := by decide +kernel
theorem dX3_state_61 : decode cX3_state 61 = .ok (.getfield 10, 3) := by decide +kernel
theorem dX3_state_64 : decode cX3_state 64 = .ok (.invokevirtual 206, 3) := by decide +kernel
theorem dX3_state_67 : decode cX3_state 67 = .ok (.ireturn, 1) := by decide +kernel
theorem dX3_state_68 : decode cX3_state 68 = .ok (.aload_n 0, 1) := by decide +kernel
theorem dX3_state_69 : decode cX3_state 69 = .ok (.getfield 10, 3) := by decide +kernel
theorem dX3_state_72 : decode cX3_state 72 = .ok (.invokevirtual 209, 3) := by decide +kernel
theorem dX3_state_75 : decode cX3_state 75 = .ok (.ireturn, 1) := by decide +kernel
theorem dX3_state_76 : decode cX3_state 76 = .ok (.iconst (-1), 1) := by decide +kernel
theorem dX3_state_77 : decode cX3_state 77 = .ok (.ireturn, 1) := by decide +kernel
theorem dX3_level_0 : decode cX3_level 0 = .ok (.iload_n 1, 1) := by decide +kernel
theorem dX3_level_1 : decode cX3_level 1 = .ok (.invokestatic 107, 3) := by decide +kernel
theorem dX3_level_4 : decode cX3_level 4 = .ok (.ifCond .eq 12, 3) := by decide +kernel
theorem dX3_level_7 : decode cX3_level 7 = .ok (.iload_n 2, 1) := by decide +kernel
theorem dX3_level_8 : decode cX3_level 8 = .ok (.bipush 60, 2) := by decide +kernel
theorem dX3_level_10 : decode cX3_level 10 = .ok (.invokestatic 97, 3) := by decide +kernel
theorem dX3_level_13 : decode cX3_level 13 = .ok (.ifCond .ne 5, 3) := by decide +kernel
theorem dX3_level_16 : decode cX3_level 16 = .ok (.iconst (-1), 1) := by decide +kernel
theorem dX3_level_17 : decode cX3_level 17 = .ok (.ireturn, 1) := by decide +kernel
theorem dX3_level_18 : decode cX3_level 18 = .ok (.aload_n 0, 1) := by decide +kernel
theorem dX3_level_19 : decode cX3_level 19 = .ok (.getfield 16, 3) := by decide +kernel
theorem dX3_level_22 : decode cX3_level 22 = .ok (.aload_n 0, 1) := by decide +kernel
theorem dX3_level_23 : decode cX3_level 23 = .ok (.getfield 10, 3) := by decide +kernel
theorem dX3_level_26 : decode cX3_level 26 = .ok (.invokevirtual 80, 3) := by decide +kernel
theorem dX3_level_29 : decode cX3_level 29 = .ok (.aload_n 0, 1) := by decide +kernel
theorem dX3_level_30 : decode cX3_level 30 = .ok (.getfield 16, 3) := by decide +kernel
theorem dX3_level_33 : decode cX3_level 33 = .ok (.iload_n 2, 1) := by decide +kernel
theorem dX3_level_34 : decode cX3_level 34 = .ok (.invokevirtual 179, 3) := by decide +kernel
theorem dX3_level_37 : decode cX3_level 37 = .ok (.aload_n 0, 1) := by decide +kernel
theorem dX3_level_38 : decode cX3_level 38 = .ok (.getfield 16, 3) := by decide +kernel
theorem dX3_level_41 : decode cX3_level 41 = .ok (.getfield 145, 3) := by decide +kernel
theorem dX3_level_44 : decode cX3_level 44 = .ok (.iload_n 1, 1) := by decide +kernel
theorem dX3_level_45 : decode cX3_level 45 = .ok (.iaload, 1) := by decide +kernel
theorem dX3_level_46 : decode cX3_level 46 = .ok (.ireturn, 1) := by decide +kernel
theorem dX3_damp_0 : decode cX3_damp 0 = .ok (.iload_n 1, 1) := by decide +kernel
theorem dX3_damp_1 : decode cX3_damp 1 = .ok (.invokestatic 107, 3) := by decide +kernel
theorem dX3_damp_4 : decode cX3_damp 4 = .ok (.ifCond .ne 5, 3) := by decide +kernel
theorem dX3_damp_7 : decode cX3_damp 7 = .ok (.iconst (-1), 1) := by decide +kernel
theorem dX3_damp_8 : decode cX3_damp 8 = .ok (.ireturn, 1) := by decide +kernel
theorem dX3_damp_9 : decode cX3_damp 9 = .ok (.aload_n 0, 1) := by decide +kernel
theorem dX3_damp_10 : decode cX3_damp 10 = .ok (.getfield 16, 3) := by decide +kernel
theorem dX3_damp_13 : decode cX3_damp 13 = .ok (.aload_n 0, 1) := by decide +kernel
theorem dX3_damp_14 : decode cX3_damp 14 = .ok (.getfield 10, 3) := by decide +kernel
theorem dX3_damp_17 : decode cX3_damp 17 = .ok (.invokevirtual 80, 3) := by decide +kernel
theorem dX3_damp_20 : decode cX3_damp 20 = .ok (.iconst 0, 1) := by decide +kernel
theorem dX3_damp_21 : decode cX3_damp 21 = .ok (.istore_n 2, 1) := by decide +kernel
theorem dX3_damp_22 : decode cX3_damp 22 = .ok (.iload_n 2, 1) := by decide +kernel
theorem dX3_damp_23 : decode cX3_damp 23 = .ok (.bipush 60, 2) := by decide +kernel
theorem dX3_damp_25 : decode cX3_damp 25 = .ok (.if_icmp .gt 29, 3) := by decide +kernel
theorem dX3_damp_28 : decode cX3_damp 28 = .ok (.aload_n 0, 1) := by decide +kernel
theorem dX3_damp_29 : decode cX3_damp 29 = .ok (.getfield 16, 3) := by decide +kernel
theorem dX3_damp_32 : decode cX3_damp 32 = .ok (.iload_n 1, 1) := by decide +kernel
theorem dX3_damp_33 : decode cX3_damp 33 = .ok (.invokevirtual 212, 3) := by decide +kernel
theorem dX3_damp_36 : decode cX3_damp 36 = .ok (.ifCond .eq 5, 3) := by decide +kernel
theorem dX3_damp_39 : decode cX3_damp 39 = .ok (.iload_n 2, 1) := by decide +kernel
theorem dX3_damp_40 : decode cX3_damp 40 = .ok (.ireturn, 1) := by decide +kernel
theorem dX3_damp_41 : decode cX3_damp 41 = .ok (.aload_n 0, 1) := by decide +kernel
theorem dX3_damp_42 : decode cX3_damp 42 = .ok (.getfield 16, 3) := by decide +kernel
theorem dX3_damp_45 : decode cX3_damp 45 = .ok (.invokevirtual 215, 3) := by decide +kernel
theorem dX3_damp_48 : decode cX3_damp 48 = .ok (.iinc 2 1, 3) := by decide +kernel
theorem dX3_damp_51 : decode cX3_damp 51 = .ok (.goto (-29), 3) := by decide +kernel
theorem dX3_damp_54 : decode cX3_damp 54 = .ok (.bipush (-3), 2) := by decide +kernel
theorem dX3_damp_56 : decode cX3_damp 56 = .ok (.ireturn, 1) := by decide +kernel
theorem dX3_loss_0 : decode cX3_loss 0 = .ok (.aload_n 0, 1) := by decide +kernel
theorem dX3_loss_1 : decode cX3_loss 1 = .ok (.iload_n 1, 1) := by decide +kernel
theorem dX3_loss_2 : decode cX3_loss 2 = .ok (.invokevirtual 114, 3) := by decide +kernel
theorem dX3_loss_5 : decode cX3_loss 5 = .ok (.ifCond .ne 5, 3) := by decide +kernel
theorem dX3_loss_8 : decode cX3_loss 8 = .ok (.iconst (-1), 1) := by decide +kernel
theorem dX3_loss_9 : decode cX3_loss 9 = .ok (.ireturn, 1) := by decide +kernel
theorem dX3_loss_10 : decode cX3_loss 10 = .ok (.aload_n 0, 1) := by decide +kernel
theorem dX3_loss_11 : decode cX3_loss 11 = .ok (.getfield 16, 3) := by decide +kernel
theorem dX3_loss_14 : decode cX3_loss 14 = .ok (.aload_n 0, 1) := by decide +kernel
theorem dX3_loss_15 : decode cX3_loss 15 = .ok (.getfield 10, 3) := by decide +kernel
theorem dX3_loss_18 : decode cX3_loss 18 = .ok (.invokevirtual 80, 3) := by decide +kernel
theorem dX3_loss_21 : decode cX3_loss 21 = .ok (.iconst 0, 1) := by decide +kernel
theorem dX3_loss_22 : decode cX3_loss 22 = .ok (.istore_n 2, 1) := by decide +kernel
theorem dX3_loss_23 : decode cX3_loss 23 = .ok (.iload_n 2, 1) := by decide +kernel
theorem dX3_loss_24 : decode cX3_loss 24 = .ok (.bipush 60, 2) := by decide +kernel
theorem dX3_loss_26 : decode cX3_loss 26 = .ok (.if_icmp .gt 29, 3) := by decide +kernel
theorem dX3_loss_29 : decode cX3_loss 29 = .ok (.aload_n 0, 1) := by decide +kernel
theorem dX3_loss_30 : decode cX3_loss 30 = .ok (.getfield 16, 3) := by decide +kernel
theorem dX3_loss_33 : decode cX3_loss 33 = .ok (.iload_n 1, 1) := by decide +kernel
theorem dX3_loss_34 : decode cX3_loss 34 = .ok (.invokevirtual 136, 3) := by decide +kernel
theorem dX3_loss_37 : decode cX3_loss 37 = .ok (.ifCond .eq 5, 3) := by decide +kernel
theorem dX3_loss_40 : decode cX3_loss 40 = .ok (.iload_n 2, 1) := by decide +kernel
theorem dX3_loss_41 : decode cX3_loss 41 = .ok (.ireturn, 1) := by decide +kernel
theorem dX3_loss_42 : decode cX3_loss 42 = .ok (.aload_n 0, 1) := by decide +kernel
theorem dX3_loss_43 : decode cX3_loss 43 = .ok (.getfield 16, 3) := by decide +kernel
theorem dX3_loss_46 : decode cX3_loss 46 = .ok (.invokevirtual 215, 3) := by decide +kernel
theorem dX3_loss_49 : decode cX3_loss 49 = .ok (.iinc 2 1, 3) := by decide +kernel
theorem dX3_loss_52 : decode cX3_loss 52 = .ok (.goto (-29), 3) := by decide +kernel
theorem dX3_loss_55 : decode cX3_loss 55 = .ok (.bipush (-3), 2) := by decide +kernel
theorem dX3_loss_57 : decode cX3_loss 57 = .ok (.ireturn, 1) := by decide +kernel
theorem dX3_drowned_0 : decode cX3_drowned 0 = .ok (.aload_n 0, 1) := by decide +kernel
theorem dX3_drowned_1 : decode cX3_drowned 1 = .ok (.getfield 16, 3) := by decide +kernel
theorem dX3_drowned_4 : decode cX3_drowned 4 = .ok (.aload_n 0, 1) := by decide +kernel
theorem dX3_drowned_5 : decode cX3_drowned 5 = .ok (.getfield 10, 3) := by decide +kernel
theorem dX3_drowned_8 : decode cX3_drowned 8 = .ok (.invokevirtual 80, 3) := by decide +kernel
theorem dX3_drowned_11 : decode cX3_drowned 11 = .ok (.iconst 0, 1) := by decide +kernel
theorem dX3_drowned_12 : decode cX3_drowned 12 = .ok (.istore_n 1, 1) := by decide +kernel
theorem dX3_drowned_13 : decode cX3_drowned 13 = .ok (.iload_n 1, 1) := by decide +kernel
theorem dX3_drowned_14 : decode cX3_drowned 14 = .ok (.bipush 60, 2) := by decide +kernel
theorem dX3_drowned_16 : decode cX3_drowned 16 = .ok (.if_icmp .gt 42, 3) := by decide +kernel
theorem dX3_drowned_19 : decode cX3_drowned 19 = .ok (.aload_n 0, 1) := by decide +kernel
theorem dX3_drowned_20 : decode cX3_drowned 20 = .ok (.getfield 16, 3) := by decide +kernel
theorem dX3_drowned_23 : decode cX3_drowned 23 = .ok (.invokevirtual 171, 3) := by decide +kernel
theorem dX3_drowned_26 : decode cX3_drowned 26 = .ok (.aload_n 0, 1) := by decide +kernel
theorem dX3_drowned_27 : decode cX3_drowned 27 = .ok (.getfield 16, 3) := by decide +kernel
theorem dX3_drowned_30 : decode cX3_drowned 30 = .ok (.invokevirtual 167, 3) := by decide +kernel
theorem dX3_drowned_33 : decode cX3_drowned 33 = .ok (.ldc2_w 177, 3) := by decide +kernel
theorem dX3_drowned_36 : decode cX3_drowned 36 = .ok (.lxor, 1) := by decide +kernel
theorem dX3_drowned_37 : decode cX3_drowned 37 = .ok (.land, 1) := by decide +kernel
theorem dX3_drowned_38 : decode cX3_drowned 38 = .ok (.lconst 0, 1) := by decide +kernel
theorem dX3_drowned_39 : decode cX3_drowned 39 = .ok (.lcmp, 1) := by decide +kernel
theorem dX3_drowned_40 : decode cX3_drowned 40 = .ok (.ifCond .ne 5, 3) := by decide +kernel
theorem dX3_drowned_43 : decode cX3_drowned 43 = .ok (.iload_n 1, 1) := by decide +kernel
theorem dX3_drowned_44 : decode cX3_drowned 44 = .ok (.ireturn, 1) := by decide +kernel
theorem dX3_drowned_45 : decode cX3_drowned 45 = .ok (.aload_n 0, 1) := by decide +kernel
theorem dX3_drowned_46 : decode cX3_drowned 46 = .ok (.getfield 16, 3) := by decide +kernel
theorem dX3_drowned_49 : decode cX3_drowned 49 = .ok (.invokevirtual 215, 3) := by decide +kernel
theorem dX3_drowned_52 : decode cX3_drowned 52 = .ok (.iinc 1 1, 3) := by decide +kernel
theorem dX3_drowned_55 : decode cX3_drowned 55 = .ok (.goto (-42), 3) := by decide +kernel
theorem dX3_drowned_58 : decode cX3_drowned 58 = .ok (.bipush (-3), 2) := by decide +kernel
theorem dX3_drowned_60 : decode cX3_drowned 60 = .ok (.ireturn, 1) := by decide +kernel
theorem dX3_whereFor_0 : decode cX3_whereFor 0 = .ok (.aload_n 0, 1) := by decide +kernel
theorem dX3_whereFor_1 : decode cX3_whereFor 1 = .ok (.iload_n 1, 1) := by decide +kernel
theorem dX3_whereFor_2 : decode cX3_whereFor 2 = .ok (.invokevirtual 114, 3) := by decide +kernel
theorem dX3_whereFor_5 : decode cX3_whereFor 5 = .ok (.ifCond .eq 17, 3) := by decide +kernel
theorem dX3_whereFor_8 : decode cX3_whereFor 8 = .ok (.iload_n 2, 1) := by decide +kernel
theorem dX3_whereFor_9 : decode cX3_whereFor 9 = .ok (.invokestatic 107, 3) := by decide +kernel
theorem dX3_whereFor_12 : decode cX3_whereFor 12 = .ok (.ifCond .eq 10, 3) := by decide +kernel
theorem dX3_whereFor_15 : decode cX3_whereFor 15 = .ok (.iload_n 3, 1) := by decide +kernel
theorem dX3_whereFor_16 : decode cX3_whereFor 16 = .ok (.invokestatic 218, 3) := by decide +kernel
theorem dX3_whereFor_19 : decode cX3_whereFor 19 = .ok (.ifCond .ne 5, 3) := by decide +kernel
theorem dX3_whereFor_22 : decode cX3_whereFor 22 = .ok (.iconst (-1), 1) := by decide +kernel
theorem dX3_whereFor_23 : decode cX3_whereFor 23 = .ok (.ireturn, 1) := by decide +kernel
theorem dX3_whereFor_24 : decode cX3_whereFor 24 = .ok (.iconst 0, 1) := by decide +kernel
theorem dX3_whereFor_25 : decode cX3_whereFor 25 = .ok (.istore 4, 2) := by decide +kernel
theorem dX3_whereFor_27 : decode cX3_whereFor 27 = .ok (.iconst (-1), 1) := by decide +kernel
theorem dX3_whereFor_28 : decode cX3_whereFor 28 = .ok (.istore 5, 2) := by decide +kernel
theorem dX3_whereFor_30 : decode cX3_whereFor 30 = .ok (.iconst 0, 1) := by decide +kernel
theorem dX3_whereFor_31 : decode cX3_whereFor 31 = .ok (.istore 6, 2) := by decide +kernel
theorem dX3_whereFor_33 : decode cX3_whereFor 33 = .ok (.iload 6, 2) := by decide +kernel
theorem dX3_whereFor_35 : decode cX3_whereFor 35 = .ok (.bipush 32, 2) := by decide +kernel
theorem dX3_whereFor_37 : decode cX3_whereFor 37 = .ok (.if_icmp .ge 68, 3) := by decide +kernel
theorem dX3_whereFor_40 : decode cX3_whereFor 40 = .ok (.aload_n 0, 1) := by decide +kernel
theorem dX3_whereFor_41 : decode cX3_whereFor 41 = .ok (.getfield 16, 3) := by decide +kernel
theorem dX3_whereFor_44 : decode cX3_whereFor 44 = .ok (.aload_n 0, 1) := by decide +kernel
theorem dX3_whereFor_45 : decode cX3_whereFor 45 = .ok (.getfield 10, 3) := by decide +kernel
theorem dX3_whereFor_48 : decode cX3_whereFor 48 = .ok (.invokevirtual 80, 3) := by decide +kernel
theorem dX3_whereFor_51 : decode cX3_whereFor 51 = .ok (.aload_n 0, 1) := by decide +kernel
theorem dX3_whereFor_52 : decode cX3_whereFor 52 = .ok (.getfield 16, 3) := by decide +kernel
theorem dX3_whereFor_55 : decode cX3_whereFor 55 = .ok (.getfield 126, 3) := by decide +kernel
theorem dX3_whereFor_58 : decode cX3_whereFor 58 = .ok (.iload_n 1, 1) := by decide +kernel
theorem dX3_whereFor_59 : decode cX3_whereFor 59 = .ok (.iload 6, 2) := by decide +kernel
theorem dX3_whereFor_61 : decode cX3_whereFor 61 = .ok (.iastore, 1) := by decide +kernel
theorem dX3_whereFor_62 : decode cX3_whereFor 62 = .ok (.aload_n 0, 1) := by decide +kernel
theorem dX3_whereFor_63 : decode cX3_whereFor 63 = .ok (.getfield 16, 3) := by decide +kernel
theorem dX3_whereFor_66 : decode cX3_whereFor 66 = .ok (.iload_n 3, 1) := by decide +kernel
theorem dX3_whereFor_67 : decode cX3_whereFor 67 = .ok (.invokevirtual 179, 3) := by decide +kernel
theorem dX3_whereFor_70 : decode cX3_whereFor 70 = .ok (.aload_n 0, 1) := by decide +kernel
theorem dX3_whereFor_71 : decode cX3_whereFor 71 = .ok (.getfield 16, 3) := by decide +kernel
theorem dX3_whereFor_74 : decode cX3_whereFor 74 = .ok (.getfield 145, 3) := by decide +kernel
theorem dX3_whereFor_77 : decode cX3_whereFor 77 = .ok (.iload_n 2, 1) := by decide +kernel
theorem dX3_whereFor_78 : decode cX3_whereFor 78 = .ok (.iaload, 1) := by decide +kernel
theorem dX3_whereFor_79 : decode cX3_whereFor 79 = .ok (.iload 5, 2) := by decide +kernel
theorem dX3_whereFor_81 : decode cX3_whereFor 81 = .ok (.if_icmp .le 18, 3) := by decide +kernel
theorem dX3_whereFor_84 : decode cX3_whereFor 84 = .ok (.aload_n 0, 1) := by decide +kernel
theorem dX3_whereFor_85 : decode cX3_whereFor 85 = .ok (.getfield 16, 3) := by decide +kernel
theorem dX3_whereFor_88 : decode cX3_whereFor 88 = .ok (.getfield 145, 3) := by decide +kernel
theorem dX3_whereFor_91 : decode cX3_whereFor 91 = .ok (.iload_n 2, 1) := by decide +kernel
theorem dX3_whereFor_92 : decode cX3_whereFor 92 = .ok (.iaload, 1) := by decide +kernel
theorem dX3_whereFor_93 : decode cX3_whereFor 93 = .ok (.istore 5, 2) := by decide +kernel
theorem dX3_whereFor_95 : decode cX3_whereFor 95 = .ok (.iload 6, 2) := by decide +kernel
theorem dX3_whereFor_97 : decode cX3_whereFor 97 = .ok (.istore 4, 2) := by decide +kernel
theorem dX3_whereFor_99 : decode cX3_whereFor 99 = .ok (.iinc 6 1, 3) := by decide +kernel
theorem dX3_whereFor_102 : decode cX3_whereFor 102 = .ok (.goto (-69), 3) := by decide +kernel
theorem dX3_whereFor_105 : decode cX3_whereFor 105 = .ok (.iload 4, 2) := by decide +kernel
theorem dX3_whereFor_107 : decode cX3_whereFor 107 = .ok (.ireturn, 1) := by decide +kernel
theorem dX3_kindFor_0 : decode cX3_kindFor 0 = .ok (.aload_n 0, 1) := by decide +kernel
theorem dX3_kindFor_1 : decode cX3_kindFor 1 = .ok (.iload_n 1, 1) := by decide +kernel
theorem dX3_kindFor_2 : decode cX3_kindFor 2 = .ok (.invokevirtual 114, 3) := by decide +kernel
theorem dX3_kindFor_5 : decode cX3_kindFor 5 = .ok (.ifCond .eq 17, 3) := by decide +kernel
theorem dX3_kindFor_8 : decode cX3_kindFor 8 = .ok (.iload_n 2, 1) := by decide +kernel
theorem dX3_kindFor_9 : decode cX3_kindFor 9 = .ok (.invokestatic 107, 3) := by decide +kernel
theorem dX3_kindFor_12 : decode cX3_kindFor 12 = .ok (.ifCond .eq 10, 3) := by decide +kernel
theorem dX3_kindFor_15 : decode cX3_kindFor 15 = .ok (.iload_n 3, 1) := by decide +kernel
theorem dX3_kindFor_16 : decode cX3_kindFor 16 = .ok (.invokestatic 218, 3) := by decide +kernel
theorem dX3_kindFor_19 : decode cX3_kindFor 19 = .ok (.ifCond .ne 5, 3) := by decide +kernel
theorem dX3_kindFor_22 : decode cX3_kindFor 22 = .ok (.iconst (-1), 1) := by decide +kernel
theorem dX3_kindFor_23 : decode cX3_kindFor 23 = .ok (.ireturn, 1) := by decide +kernel
theorem dX3_kindFor_24 : decode cX3_kindFor 24 = .ok (.iconst 0, 1) := by decide +kernel
theorem dX3_kindFor_25 : decode cX3_kindFor 25 = .ok (.istore 4, 2) := by decide +kernel
theorem dX3_kindFor_27 : decode cX3_kindFor 27 = .ok (.iconst (-1), 1) := by decide +kernel
theorem dX3_kindFor_28 : decode cX3_kindFor 28 = .ok (.istore 5, 2) := by decide +kernel
theorem dX3_kindFor_30 : decode cX3_kindFor 30 = .ok (.iconst 0, 1) := by decide +kernel
theorem dX3_kindFor_31 : decode cX3_kindFor 31 = .ok (.istore 6, 2) := by decide +kernel
theorem dX3_kindFor_33 : decode cX3_kindFor 33 = .ok (.iload 6, 2) := by decide +kernel
theorem dX3_kindFor_35 : decode cX3_kindFor 35 = .ok (.bipush 6, 2) := by decide +kernel
theorem dX3_kindFor_37 : decode cX3_kindFor 37 = .ok (.if_icmp .ge 68, 3) := by decide +kernel
theorem dX3_kindFor_40 : decode cX3_kindFor 40 = .ok (.aload_n 0, 1) := by decide +kernel
theorem dX3_kindFor_41 : decode cX3_kindFor 41 = .ok (.getfield 16, 3) := by decide +kernel
theorem dX3_kindFor_44 : decode cX3_kindFor 44 = .ok (.aload_n 0, 1) := by decide +kernel
theorem dX3_kindFor_45 : decode cX3_kindFor 45 = .ok (.getfield 10, 3) := by decide +kernel
theorem dX3_kindFor_48 : decode cX3_kindFor 48 = .ok (.invokevirtual 80, 3) := by decide +kernel
theorem dX3_kindFor_51 : decode cX3_kindFor 51 = .ok (.aload_n 0, 1) := by decide +kernel
theorem dX3_kindFor_52 : decode cX3_kindFor 52 = .ok (.getfield 16, 3) := by decide +kernel
theorem dX3_kindFor_55 : decode cX3_kindFor 55 = .ok (.getfield 117, 3) := by decide +kernel
theorem dX3_kindFor_58 : decode cX3_kindFor 58 = .ok (.iload_n 1, 1) := by decide +kernel
theorem dX3_kindFor_59 : decode cX3_kindFor 59 = .ok (.iload 6, 2) := by decide +kernel
theorem dX3_kindFor_61 : decode cX3_kindFor 61 = .ok (.iastore, 1) := by decide +kernel
theorem dX3_kindFor_62 : decode cX3_kindFor 62 = .ok (.aload_n 0, 1) := by decide +kernel
theorem dX3_kindFor_63 : decode cX3_kindFor 63 = .ok (.getfield 16, 3) := by decide +kernel
theorem dX3_kindFor_66 : decode cX3_kindFor 66 = .ok (.iload_n 3, 1) := by decide +kernel
theorem dX3_kindFor_67 : decode cX3_kindFor 67 = .ok (.invokevirtual 179, 3) := by decide +kernel
theorem dX3_kindFor_70 : decode cX3_kindFor 70 = .ok (.aload_n 0, 1) := by decide +kernel
theorem dX3_kindFor_71 : decode cX3_kindFor 71 = .ok (.getfield 16, 3) := by decide +kernel
theorem dX3_kindFor_74 : decode cX3_kindFor 74 = .ok (.getfield 145, 3) := by decide +kernel
theorem dX3_kindFor_77 : decode cX3_kindFor 77 = .ok (.iload_n 2, 1) := by decide +kernel
theorem dX3_kindFor_78 : decode cX3_kindFor 78 = .ok (.iaload, 1) := by decide +kernel
theorem dX3_kindFor_79 : decode cX3_kindFor 79 = .ok (.iload 5, 2) := by decide +kernel
theorem dX3_kindFor_81 : decode cX3_kindFor 81 = .ok (.if_icmp .le 18, 3) := by decide +kernel
theorem dX3_kindFor_84 : decode cX3_kindFor 84 = .ok (.aload_n 0, 1) := by decide +kernel
theorem dX3_kindFor_85 : decode cX3_kindFor 85 = .ok (.getfield 16, 3) := by decide +kernel
theorem dX3_kindFor_88 : decode cX3_kindFor 88 = .ok (.getfield 145, 3) := by decide +kernel
theorem dX3_kindFor_91 : decode cX3_kindFor 91 = .ok (.iload_n 2, 1) := by decide +kernel
theorem dX3_kindFor_92 : decode cX3_kindFor 92 = .ok (.iaload, 1) := by decide +kernel
theorem dX3_kindFor_93 : decode cX3_kindFor 93 = .ok (.istore 5, 2) := by decide +kernel
theorem dX3_kindFor_95 : decode cX3_kindFor 95 = .ok (.iload 6, 2) := by decide +kernel
theorem dX3_kindFor_97 : decode cX3_kindFor 97 = .ok (.istore 4, 2) := by decide +kernel
theorem dX3_kindFor_99 : decode cX3_kindFor 99 = .ok (.iinc 6 1, 3) := by decide +kernel
theorem dX3_kindFor_102 : decode cX3_kindFor 102 = .ok (.goto (-69), 3) := by decide +kernel
theorem dX3_kindFor_105 : decode cX3_kindFor 105 = .ok (.iload 4, 2) := by decide +kernel
theorem dX3_kindFor_107 : decode cX3_kindFor 107 = .ok (.ireturn, 1) := by decide +kernel
theorem dX3_annoyed_0 : decode cX3_annoyed 0 = .ok (.aload_n 0, 1) := by decide +kernel
theorem dX3_annoyed_1 : decode cX3_annoyed 1 = .ok (.iload_n 1, 1) := by decide +kernel
theorem dX3_annoyed_2 : decode cX3_annoyed 2 = .ok (.invokevirtual 114, 3) := by decide +kernel
theorem dX3_annoyed_5 : decode cX3_annoyed 5 = .ok (.ifCond .eq 17, 3) := by decide +kernel
theorem dX3_annoyed_8 : decode cX3_annoyed 8 = .ok (.iload_n 2, 1) := by decide +kernel
theorem dX3_annoyed_9 : decode cX3_annoyed 9 = .ok (.invokestatic 107, 3) := by decide +kernel
theorem dX3_annoyed_12 : decode cX3_annoyed 12 = .ok (.ifCond .eq 10, 3) := by decide +kernel
theorem dX3_annoyed_15 : decode cX3_annoyed 15 = .ok (.iload_n 3, 1) := by decide +kernel
theorem dX3_annoyed_16 : decode cX3_annoyed 16 = .ok (.invokestatic 218, 3) := by decide +kernel
theorem dX3_annoyed_19 : decode cX3_annoyed 19 = .ok (.ifCond .ne 5, 3) := by decide +kernel
theorem dX3_annoyed_22 : decode cX3_annoyed 22 = .ok (.iconst (-1), 1) := by decide +kernel
theorem dX3_annoyed_23 : decode cX3_annoyed 23 = .ok (.ireturn, 1) := by decide +kernel
theorem dX3_annoyed_24 : decode cX3_annoyed 24 = .ok (.iconst 0, 1) := by decide +kernel
theorem dX3_annoyed_25 : decode cX3_annoyed 25 = .ok (.istore 4, 2) := by decide +kernel
theorem dX3_annoyed_27 : decode cX3_annoyed 27 = .ok (.iload 4, 2) := by decide +kernel
theorem dX3_annoyed_29 : decode cX3_annoyed 29 = .ok (.bipush 99, 2) := by decide +kernel
theorem dX3_annoyed_31 : decode cX3_annoyed 31 = .ok (.if_icmp .gt 53, 3) := by decide +kernel
theorem dX3_annoyed_34 : decode cX3_annoyed 34 = .ok (.aload_n 0, 1) := by decide +kernel
theorem dX3_annoyed_35 : decode cX3_annoyed 35 = .ok (.getfield 16, 3) := by decide +kernel
theorem dX3_annoyed_38 : decode cX3_annoyed 38 = .ok (.aload_n 0, 1) := by decide +kernel
theorem dX3_annoyed_39 : decode cX3_annoyed 39 = .ok (.getfield 10, 3) := by decide +kernel
theorem dX3_annoyed_42 : decode cX3_annoyed 42 = .ok (.invokevirtual 80, 3) := by decide +kernel
theorem dX3_annoyed_45 : decode cX3_annoyed 45 = .ok (.aload_n 0, 1) := by decide +kernel
theorem dX3_annoyed_46 : decode cX3_annoyed 46 = .ok (.getfield 16, 3) := by decide +kernel
theorem dX3_annoyed_49 : decode cX3_annoyed 49 = .ok (.getfield 123, 3) := by decide +kernel
theorem dX3_annoyed_52 : decode cX3_annoyed 52 = .ok (.iload_n 1, 1) := by decide +kernel
theorem dX3_annoyed_53 : decode cX3_annoyed 53 = .ok (.iload 4, 2) := by decide +kernel
theorem dX3_annoyed_55 : decode cX3_annoyed 55 = .ok (.iastore, 1) := by decide +kernel
theorem dX3_annoyed_56 : decode cX3_annoyed 56 = .ok (.aload_n 0, 1) := by decide +kernel
theorem dX3_annoyed_57 : decode cX3_annoyed 57 = .ok (.getfield 16, 3) := by decide +kernel
theorem dX3_annoyed_60 : decode cX3_annoyed 60 = .ok (.iload_n 3, 1) := by decide +kernel
theorem dX3_annoyed_61 : decode cX3_annoyed 61 = .ok (.invokevirtual 179, 3) := by decide +kernel
theorem dX3_annoyed_64 : decode cX3_annoyed 64 = .ok (.aload_n 0, 1) := by decide +kernel
theorem dX3_annoyed_65 : decode cX3_annoyed 65 = .ok (.getfield 16, 3) := by decide +kernel
theorem dX3_annoyed_68 : decode cX3_annoyed 68 = .ok (.iload_n 2, 1) := by decide +kernel
theorem dX3_annoyed_69 : decode cX3_annoyed 69 = .ok (.invokevirtual 212, 3) := by decide +kernel
theorem dX3_annoyed_72 : decode cX3_annoyed 72 = .ok (.ifCond .eq 6, 3) := by decide +kernel
theorem dX3_annoyed_75 : decode cX3_annoyed 75 = .ok (.iload 4, 2) := by decide +kernel
theorem dX3_annoyed_77 : decode cX3_annoyed 77 = .ok (.ireturn, 1) := by decide +kernel
theorem dX3_annoyed_78 : decode cX3_annoyed 78 = .ok (.iinc 4 1, 3) := by decide +kernel
theorem dX3_annoyed_81 : decode cX3_annoyed 81 = .ok (.goto (-54), 3) := by decide +kernel
theorem dX3_annoyed_84 : decode cX3_annoyed 84 = .ok (.bipush (-3), 2) := by decide +kernel
theorem dX3_annoyed_86 : decode cX3_annoyed 86 = .ok (.ireturn, 1) := by decide +kernel
theorem dX3_needed_0 : decode cX3_needed 0 = .ok (.iload_n 1, 1) := by decide +kernel
theorem dX3_needed_1 : decode cX3_needed 1 = .ok (.invokestatic 107, 3) := by decide +kernel
theorem dX3_needed_4 : decode cX3_needed 4 = .ok (.ifCond .eq 10, 3) := by decide +kernel
theorem dX3_needed_7 : decode cX3_needed 7 = .ok (.iload_n 2, 1) := by decide +kernel
theorem dX3_needed_8 : decode cX3_needed 8 = .ok (.invokestatic 218, 3) := by decide +kernel
theorem dX3_needed_11 : decode cX3_needed 11 = .ok (.ifCond .ne 5, 3) := by decide +kernel
theorem dX3_needed_14 : decode cX3_needed 14 = .ok (.iconst (-1), 1) := by decide +kernel
theorem dX3_needed_15 : decode cX3_needed 15 = .ok (.ireturn, 1) := by decide +kernel
theorem dX3_needed_16 : decode cX3_needed 16 = .ok (.aload_n 0, 1) := by decide +kernel
theorem dX3_needed_17 : decode cX3_needed 17 = .ok (.iconst 0, 1) := by decide +kernel
theorem dX3_needed_18 : decode cX3_needed 18 = .ok (.iload_n 1, 1) := by decide +kernel
theorem dX3_needed_19 : decode cX3_needed 19 = .ok (.iload_n 2, 1) := by decide +kernel
theorem dX3_needed_20 : decode cX3_needed 20 = .ok (.invokevirtual 221, 3) := by decide +kernel
theorem dX3_needed_23 : decode cX3_needed 23 = .ok (.istore_n 3, 1) := by decide +kernel
theorem dX3_needed_24 : decode cX3_needed 24 = .ok (.bipush (-3), 2) := by decide +kernel
theorem dX3_needed_26 : decode cX3_needed 26 = .ok (.istore 4, 2) := by decide +kernel
theorem dX3_needed_28 : decode cX3_needed 28 = .ok (.iconst 0, 1) := by decide +kernel
theorem dX3_needed_29 : decode cX3_needed 29 = .ok (.istore 5, 2) := by decide +kernel
theorem dX3_needed_31 : decode cX3_needed 31 = .ok (.iload 5, 2) := by decide +kernel
theorem dX3_needed_33 : decode cX3_needed 33 = .ok (.aload_n 0, 1) := by decide +kernel
theorem dX3_needed_34 : decode cX3_needed 34 = .ok (.getfield 10, 3) := by decide +kernel
theorem dX3_needed_37 : decode cX3_needed 37 = .ok (.getfield 87, 3) := by decide +kernel
theorem dX3_needed_40 : decode cX3_needed 40 = .ok (.if_icmp .ge 34, 3) := by decide +kernel
theorem dX3_needed_43 : decode cX3_needed 43 = .ok (.aload_n 0, 1) := by decide +kernel
theorem dX3_needed_44 : decode cX3_needed 44 = .ok (.iconst 1, 1) := by decide +kernel
theorem dX3_needed_45 : decode cX3_needed 45 = .ok (.iload 5, 2) := by decide +kernel
theorem dX3_needed_47 : decode cX3_needed 47 = .ok (.ishl, 1) := by decide +kernel
theorem dX3_needed_48 : decode cX3_needed 48 = .ok (.iload_n 1, 1) := by decide +kernel
theorem dX3_needed_49 : decode cX3_needed 49 = .ok (.iload_n 2, 1) := by decide +kernel
theorem dX3_needed_50 : decode cX3_needed 50 = .ok (.invokevirtual 221, 3) := by decide +kernel
theorem dX3_needed_53 : decode cX3_needed 53 = .ok (.istore 6, 2) := by decide +kernel
theorem dX3_needed_55 : decode cX3_needed 55 = .ok (.iload 6, 2) := by decide +kernel
theorem dX3_needed_57 : decode cX3_needed 57 = .ok (.iload_n 3, 1) := by decide +kernel
theorem dX3_needed_58 : decode cX3_needed 58 = .ok (.if_icmp .ge 10, 3) := by decide +kernel
theorem dX3_needed_61 : decode cX3_needed 61 = .ok (.iload 6, 2) := by decide +kernel
theorem dX3_needed_63 : decode cX3_needed 63 = .ok (.istore_n 3, 1) := by decide +kernel
theorem dX3_needed_64 : decode cX3_needed 64 = .ok (.iload 5, 2) := by decide +kernel
theorem dX3_needed_66 : decode cX3_needed 66 = .ok (.istore 4, 2) := by decide +kernel
theorem dX3_needed_68 : decode cX3_needed 68 = .ok (.iinc 5 1, 3) := by decide +kernel
theorem dX3_needed_71 : decode cX3_needed 71 = .ok (.goto (-40), 3) := by decide +kernel
theorem dX3_needed_74 : decode cX3_needed 74 = .ok (.iload 4, 2) := by decide +kernel
theorem dX3_needed_76 : decode cX3_needed 76 = .ok (.ireturn, 1) := by decide +kernel
theorem dX3_fewest_0 : decode cX3_fewest 0 = .ok (.iload_n 1, 1) := by decide +kernel
theorem dX3_fewest_1 : decode cX3_fewest 1 = .ok (.invokestatic 107, 3) := by decide +kernel
theorem dX3_fewest_4 : decode cX3_fewest 4 = .ok (.ifCond .eq 10, 3) := by decide +kernel
theorem dX3_fewest_7 : decode cX3_fewest 7 = .ok (.iload_n 2, 1) := by decide +kernel
theorem dX3_fewest_8 : decode cX3_fewest 8 = .ok (.invokestatic 218, 3) := by decide +kernel
theorem dX3_fewest_11 : decode cX3_fewest 11 = .ok (.ifCond .ne 5, 3) := by decide +kernel
theorem dX3_fewest_14 : decode cX3_fewest 14 = .ok (.iconst (-1), 1) := by decide +kernel
theorem dX3_fewest_15 : decode cX3_fewest 15 = .ok (.ireturn, 1) := by decide +kernel
theorem dX3_fewest_16 : decode cX3_fewest 16 = .ok (.iconst 1, 1) := by decide +kernel
theorem dX3_fewest_17 : decode cX3_fewest 17 = .ok (.aload_n 0, 1) := by decide +kernel
theorem dX3_fewest_18 : decode cX3_fewest 18 = .ok (.getfield 10, 3) := by decide +kernel
theorem dX3_fewest_21 : decode cX3_fewest 21 = .ok (.getfield 87, 3) := by decide +kernel
theorem dX3_fewest_24 : decode cX3_fewest 24 = .ok (.ishl, 1) := by decide +kernel
theorem dX3_fewest_25 : decode cX3_fewest 25 = .ok (.iconst 1, 1) := by decide +kernel
theorem dX3_fewest_26 : decode cX3_fewest 26 = .ok (.isub, 1) := by decide +kernel
theorem dX3_fewest_27 : decode cX3_fewest 27 = .ok (.istore_n 3, 1) := by decide +kernel
theorem dX3_fewest_28 : decode cX3_fewest 28 = .ok (.bipush (-3), 2) := by decide +kernel
theorem dX3_fewest_30 : decode cX3_fewest 30 = .ok (.istore 4, 2) := by decide +kernel
theorem dX3_fewest_32 : decode cX3_fewest 32 = .ok (.bipush 9, 2) := by decide +kernel
theorem dX3_fewest_34 : decode cX3_fewest 34 = .ok (.istore 5, 2) := by decide +kernel
theorem dX3_fewest_36 : decode cX3_fewest 36 = .ok (.iconst 0, 1) := by decide +kernel
theorem dX3_fewest_37 : decode cX3_fewest 37 = .ok (.istore 6, 2) := by decide +kernel
theorem dX3_fewest_39 : decode cX3_fewest 39 = .ok (.iload 6, 2) := by decide +kernel
theorem dX3_fewest_41 : decode cX3_fewest 41 = .ok (.iload_n 3, 1) := by decide +kernel
theorem dX3_fewest_42 : decode cX3_fewest 42 = .ok (.if_icmp .gt 47, 3) := by decide +kernel
theorem dX3_fewest_45 : decode cX3_fewest 45 = .ok (.iload 6, 2) := by decide +kernel
theorem dX3_fewest_47 : decode cX3_fewest 47 = .ok (.invokestatic 196, 3) := by decide +kernel
theorem dX3_fewest_50 : decode cX3_fewest 50 = .ok (.iload 5, 2) := by decide +kernel
theorem dX3_fewest_52 : decode cX3_fewest 52 = .ok (.if_icmp .ge 31, 3) := by decide +kernel
theorem dX3_fewest_55 : decode cX3_fewest 55 = .ok (.aload_n 0, 1) := by decide +kernel
theorem dX3_fewest_56 : decode cX3_fewest 56 = .ok (.iload_n 3, 1) := by decide +kernel
theorem dX3_fewest_57 : decode cX3_fewest 57 = .ok (.iload 6, 2) := by decide +kernel
theorem dX3_fewest_59 : decode cX3_fewest 59 = .ok (.iconst (-1), 1) := by decide +kernel
theorem dX3_fewest_60 : decode cX3_fewest 60 = .ok (.ixor, 1) := by decide +kernel
theorem dX3_fewest_61 : decode cX3_fewest 61 = .ok (.iand, 1) := by decide +kernel
theorem dX3_fewest_62 : decode cX3_fewest 62 = .ok (.iload_n 1, 1) := by decide +kernel
theorem dX3_fewest_63 : decode cX3_fewest 63 = .ok (.iload_n 2, 1) := by decide +kernel
theorem dX3_fewest_64 : decode cX3_fewest 64 = .ok (.invokevirtual 221, 3) := by decide +kernel
theorem dX3_fewest_67 : decode cX3_fewest 67 = .ok (.bipush 10, 2) := by decide +kernel
theorem dX3_fewest_69 : decode cX3_fewest 69 = .ok (.if_icmp .lt 14, 3) := by decide +kernel
theorem dX3_fewest_72 : decode cX3_fewest 72 = .ok (.iload 6, 2) := by decide +kernel
theorem dX3_fewest_74 : decode cX3_fewest 74 = .ok (.invokestatic 196, 3) := by decide +kernel
theorem dX3_fewest_77 : decode cX3_fewest 77 = .ok (.istore 5, 2) := by decide +kernel
theorem dX3_fewest_79 : decode cX3_fewest 79 = .ok (.iload 6, 2) := by decide +kernel
theorem dX3_fewest_81 : decode cX3_fewest 81 = .ok (.istore 4, 2) := by decide +kernel
theorem dX3_fewest_83 : decode cX3_fewest 83 = .ok (.iinc 6 1, 3) := by decide +kernel
theorem dX3_fewest_86 : decode cX3_fewest 86 = .ok (.goto (-47), 3) := by decide +kernel
theorem dX3_fewest_89 : decode cX3_fewest 89 = .ok (.iload 4, 2) := by decide +kernel
theorem dX3_fewest_91 : decode cX3_fewest 91 = .ok (.ireturn, 1) := by decide +kernel
theorem dX3_ends_0 : decode cX3_ends 0 = .ok (.iload_n 1, 1) := by decide +kernel
theorem dX3_ends_1 : decode cX3_ends 1 = .ok (.invokestatic 107, 3) := by decide +kernel
theorem dX3_ends_4 : decode cX3_ends 4 = .ok (.ifCond .ne 5, 3) := by decide +kernel
theorem dX3_ends_7 : decode cX3_ends 7 = .ok (.iconst (-1), 1) := by decide +kernel
theorem dX3_ends_8 : decode cX3_ends 8 = .ok (.ireturn, 1) := by decide +kernel
theorem dX3_ends_9 : decode cX3_ends 9 = .ok (.iload_n 1, 1) := by decide +kernel
theorem dX3_ends_10 : decode cX3_ends 10 = .ok (.istore_n 2, 1) := by decide +kernel
theorem dX3_ends_11 : decode cX3_ends 11 = .ok (.iconst 0, 1) := by decide +kernel
theorem dX3_ends_12 : decode cX3_ends 12 = .ok (.istore_n 3, 1) := by decide +kernel
theorem dX3_ends_13 : decode cX3_ends 13 = .ok (.iload_n 3, 1) := by decide +kernel
theorem dX3_ends_14 : decode cX3_ends 14 = .ok (.bipush 32, 2) := by decide +kernel
theorem dX3_ends_16 : decode cX3_ends 16 = .ok (.if_icmp .ge 31, 3) := by decide +kernel
theorem dX3_ends_19 : decode cX3_ends 19 = .ok (.aload_n 0, 1) := by decide +kernel
theorem dX3_ends_20 : decode cX3_ends 20 = .ok (.getfield 10, 3) := by decide +kernel
theorem dX3_ends_23 : decode cX3_ends 23 = .ok (.getfield 160, 3) := by decide +kernel
theorem dX3_ends_26 : decode cX3_ends 26 = .ok (.iload_n 2, 1) := by decide +kernel
theorem dX3_ends_27 : decode cX3_ends 27 = .ok (.iaload, 1) := by decide +kernel
theorem dX3_ends_28 : decode cX3_ends 28 = .ok (.ifCond .lt 19, 3) := by decide +kernel
theorem dX3_ends_31 : decode cX3_ends 31 = .ok (.aload_n 0, 1) := by decide +kernel
theorem dX3_ends_32 : decode cX3_ends 32 = .ok (.getfield 10, 3) := by decide +kernel
theorem dX3_ends_35 : decode cX3_ends 35 = .ok (.getfield 160, 3) := by decide +kernel
theorem dX3_ends_38 : decode cX3_ends 38 = .ok (.iload_n 2, 1) := by decide +kernel
theorem dX3_ends_39 : decode cX3_ends 39 = .ok (.iaload, 1) := by decide +kernel
theorem dX3_ends_40 : decode cX3_ends 40 = .ok (.istore_n 2, 1) := by decide +kernel
theorem dX3_ends_41 : decode cX3_ends 41 = .ok (.iinc 3 1, 3) := by decide +kernel
theorem dX3_ends_44 : decode cX3_ends 44 = .ok (.goto (-31), 3) := by decide +kernel
theorem dX3_ends_47 : decode cX3_ends 47 = .ok (.iload_n 2, 1) := by decide +kernel
theorem dX3_ends_48 : decode cX3_ends 48 = .ok (.ireturn, 1) := by decide +kernel
theorem dX3_fits_0 : decode cX3_fits 0 = .ok (.iload_n 1, 1) := by decide +kernel
theorem dX3_fits_1 : decode cX3_fits 1 = .ok (.invokestatic 225, 3) := by decide +kernel
theorem dX3_fits_4 : decode cX3_fits 4 = .ok (.ifCond .eq 27, 3) := by decide +kernel
theorem dX3_fits_7 : decode cX3_fits 7 = .ok (.iload_n 2, 1) := by decide +kernel
theorem dX3_fits_8 : decode cX3_fits 8 = .ok (.invokestatic 107, 3) := by decide +kernel
theorem dX3_fits_11 : decode cX3_fits 11 = .ok (.ifCond .eq 20, 3) := by decide +kernel
theorem dX3_fits_14 : decode cX3_fits 14 = .ok (.aload_n 0, 1) := by decide +kernel
theorem dX3_fits_15 : decode cX3_fits 15 = .ok (.iload_n 3, 1) := by decide +kernel
theorem dX3_fits_16 : decode cX3_fits 16 = .ok (.invokevirtual 114, 3) := by decide +kernel
theorem dX3_fits_19 : decode cX3_fits 19 = .ok (.ifCond .eq 12, 3) := by decide +kernel
theorem dX3_fits_22 : decode cX3_fits 22 = .ok (.iload 4, 2) := by decide +kernel
theorem dX3_fits_24 : decode cX3_fits 24 = .ok (.iconst 1, 1) := by decide +kernel
theorem dX3_fits_25 : decode cX3_fits 25 = .ok (.invokestatic 97, 3) := by decide +kernel
theorem dX3_fits_28 : decode cX3_fits 28 = .ok (.ifCond .ne 5, 3) := by decide +kernel
theorem dX3_fits_31 : decode cX3_fits 31 = .ok (.iconst (-1), 1) := by decide +kernel
theorem dX3_fits_32 : decode cX3_fits 32 = .ok (.ireturn, 1) := by decide +kernel
theorem dX3_fits_33 : decode cX3_fits 33 = .ok (.aload_n 0, 1) := by decide +kernel
theorem dX3_fits_34 : decode cX3_fits 34 = .ok (.getfield 34, 3) := by decide +kernel
theorem dX3_fits_37 : decode cX3_fits 37 = .ok (.iload_n 1, 1) := by decide +kernel
theorem dX3_fits_38 : decode cX3_fits 38 = .ok (.iaload, 1) := by decide +kernel
theorem dX3_fits_39 : decode cX3_fits 39 = .ok (.iconst (-1), 1) := by decide +kernel
theorem dX3_fits_40 : decode cX3_fits 40 = .ok (.if_icmp .ne 6, 3) := by decide +kernel
theorem dX3_fits_43 : decode cX3_fits 43 = .ok (.bipush (-11), 2) := by decide +kernel
theorem dX3_fits_45 : decode cX3_fits 45 = .ok (.ireturn, 1) := by decide +kernel
theorem dX3_fits_46 : decode cX3_fits 46 = .ok (.iconst 0, 1) := by decide +kernel
theorem dX3_fits_47 : decode cX3_fits 47 = .ok (.istore 5, 2) := by decide +kernel
theorem dX3_fits_49 : decode cX3_fits 49 = .ok (.bipush (-3), 2) := by decide +kernel
theorem dX3_fits_51 : decode cX3_fits 51 = .ok (.istore 6, 2) := by decide +kernel
theorem dX3_fits_53 : decode cX3_fits 53 = .ok (.bipush 99, 2) := by decide +kernel
theorem dX3_fits_55 : decode cX3_fits 55 = .ok (.istore 7, 2) := by decide +kernel
theorem dX3_fits_57 : decode cX3_fits 57 = .ok (.iload 7, 2) := by decide +kernel
theorem dX3_fits_59 : decode cX3_fits 59 = .ok (.ifCond .lt 28, 3) := by decide +kernel
theorem dX3_fits_62 : decode cX3_fits 62 = .ok (.aload_n 0, 1) := by decide +kernel
theorem dX3_fits_63 : decode cX3_fits 63 = .ok (.iload 7, 2) := by decide +kernel
theorem dX3_fits_65 : decode cX3_fits 65 = .ok (.iload_n 3, 1) := by decide +kernel
theorem dX3_fits_66 : decode cX3_fits 66 = .ok (.iload_n 2, 1) := by decide +kernel
theorem dX3_fits_67 : decode cX3_fits 67 = .ok (.iload_n 1, 1) := by decide +kernel
theorem dX3_fits_68 : decode cX3_fits 68 = .ok (.invokevirtual 228, 3) := by decide +kernel
theorem dX3_fits_71 : decode cX3_fits 71 = .ok (.ifCond .eq 10, 3) := by decide +kernel
theorem dX3_fits_74 : decode cX3_fits 74 = .ok (.iinc 5 1, 3) := by decide +kernel
theorem dX3_fits_77 : decode cX3_fits 77 = .ok (.iload 7, 2) := by decide +kernel
theorem dX3_fits_79 : decode cX3_fits 79 = .ok (.istore 6, 2) := by decide +kernel
theorem dX3_fits_81 : decode cX3_fits 81 = .ok (.iinc 7 (-1), 3) := by decide +kernel
theorem dX3_fits_84 : decode cX3_fits 84 = .ok (.goto (-27), 3) := by decide +kernel
theorem dX3_fits_87 : decode cX3_fits 87 = .ok (.iload 4, 2) := by decide +kernel
theorem dX3_fits_89 : decode cX3_fits 89 = .ok (.ifCond .ne 8, 3) := by decide +kernel
theorem dX3_fits_92 : decode cX3_fits 92 = .ok (.iload 5, 2) := by decide +kernel
theorem dX3_fits_94 : decode cX3_fits 94 = .ok (.goto 5, 3) := by decide +kernel
theorem dX3_fits_97 : decode cX3_fits 97 = .ok (.iload 6, 2) := by decide +kernel
theorem dX3_fits_99 : decode cX3_fits 99 = .ok (.ireturn, 1) := by decide +kernel
theorem dX3_odds_0 : decode cX3_odds 0 = .ok (.iload_n 1, 1) := by decide +kernel
theorem dX3_odds_1 : decode cX3_odds 1 = .ok (.bipush 8, 2) := by decide +kernel
theorem dX3_odds_3 : decode cX3_odds 3 = .ok (.invokestatic 97, 3) := by decide +kernel
theorem dX3_odds_6 : decode cX3_odds 6 = .ok (.ifCond .eq 19, 3) := by decide +kernel
theorem dX3_odds_9 : decode cX3_odds 9 = .ok (.iload_n 2, 1) := by decide +kernel
theorem dX3_odds_10 : decode cX3_odds 10 = .ok (.iload_n 1, 1) := by decide +kernel
theorem dX3_odds_11 : decode cX3_odds 11 = .ok (.invokestatic 97, 3) := by decide +kernel
theorem dX3_odds_14 : decode cX3_odds 14 = .ok (.ifCond .eq 11, 3) := by decide +kernel
theorem dX3_odds_17 : decode cX3_odds 17 = .ok (.iload_n 3, 1) := by decide +kernel
theorem dX3_odds_18 : decode cX3_odds 18 = .ok (.iconst 1, 1) := by decide +kernel
theorem dX3_odds_19 : decode cX3_odds 19 = .ok (.invokestatic 97, 3) := by decide +kernel
theorem dX3_odds_22 : decode cX3_odds 22 = .ok (.ifCond .ne 7, 3) := by decide +kernel
theorem dX3_odds_25 : decode cX3_odds 25 = .ok (.ldc2_w 177, 3) := by decide +kernel
theorem dX3_odds_28 : decode cX3_odds 28 = .ok (.lreturn, 1) := by decide +kernel
theorem dX3_odds_29 : decode cX3_odds 29 = .ok (.lconst 1, 1) := by decide +kernel
theorem dX3_odds_30 : decode cX3_odds 30 = .ok (.lstore 4, 2) := by decide +kernel
theorem dX3_odds_32 : decode cX3_odds 32 = .ok (.lconst 1, 1) := by decide +kernel
theorem dX3_odds_33 : decode cX3_odds 33 = .ok (.lstore 6, 2) := by decide +kernel
theorem dX3_odds_35 : decode cX3_odds 35 = .ok (.iconst 0, 1) := by decide +kernel
theorem dX3_odds_36 : decode cX3_odds 36 = .ok (.istore 8, 2) := by decide +kernel
theorem dX3_odds_38 : decode cX3_odds 38 = .ok (.iload 8, 2) := by decide +kernel
theorem dX3_odds_40 : decode cX3_odds 40 = .ok (.iload_n 2, 1) := by decide +kernel
theorem dX3_odds_41 : decode cX3_odds 41 = .ok (.if_icmp .ge 25, 3) := by decide +kernel
theorem dX3_odds_44 : decode cX3_odds 44 = .ok (.lload 4, 2) := by decide +kernel
theorem dX3_odds_46 : decode cX3_odds 46 = .ok (.iload_n 1, 1) := by decide +kernel
theorem dX3_odds_47 : decode cX3_odds 47 = .ok (.iload 8, 2) := by decide +kernel
theorem dX3_odds_49 : decode cX3_odds 49 = .ok (.isub, 1) := by decide +kernel
theorem dX3_odds_50 : decode cX3_odds 50 = .ok (.i2l, 1) := by decide +kernel
theorem dX3_odds_51 : decode cX3_odds 51 = .ok (.lmul, 1) := by decide +kernel
theorem dX3_odds_52 : decode cX3_odds 52 = .ok (.iload 8, 2) := by decide +kernel
theorem dX3_odds_54 : decode cX3_odds 54 = .ok (.iconst 1, 1) := by decide +kernel
theorem dX3_odds_55 : decode cX3_odds 55 = .ok (.iadd, 1) := by decide +kernel
theorem dX3_odds_56 : decode cX3_odds 56 = .ok (.i2l, 1) := by decide +kernel
theorem dX3_odds_57 : decode cX3_odds 57 = .ok (.ldiv, 1) := by decide +kernel
theorem dX3_odds_58 : decode cX3_odds 58 = .ok (.lstore 4, 2) := by decide +kernel
theorem dX3_odds_60 : decode cX3_odds 60 = .ok (.iinc 8 1, 3) := by decide +kernel
theorem dX3_odds_63 : decode cX3_odds 63 = .ok (.goto (-25), 3) := by decide +kernel
theorem dX3_odds_66 : decode cX3_odds 66 = .ok (.iconst 0, 1) := by decide +kernel
theorem dX3_odds_67 : decode cX3_odds 67 = .ok (.istore 8, 2) := by decide +kernel
theorem dX3_odds_69 : decode cX3_odds 69 = .ok (.iload 8, 2) := by decide +kernel
theorem dX3_odds_71 : decode cX3_odds 71 = .ok (.iload_n 1, 1) := by decide +kernel
theorem dX3_odds_72 : decode cX3_odds 72 = .ok (.if_icmp .ge 54, 3) := by decide +kernel
theorem dX3_odds_75 : decode cX3_odds 75 = .ok (.lload 4, 2) := by decide +kernel
theorem dX3_odds_77 : decode cX3_odds 77 = .ok (.iload 8, 2) := by decide +kernel
theorem dX3_odds_79 : decode cX3_odds 79 = .ok (.iload_n 2, 1) := by decide +kernel
theorem dX3_odds_80 : decode cX3_odds 80 = .ok (.if_icmp .ge 16, 3) := by decide +kernel
theorem dX3_odds_83 : decode cX3_odds 83 = .ok (.aload_n 0, 1) := by decide +kernel
theorem dX3_odds_84 : decode cX3_odds 84 = .ok (.getfield 10, 3) := by decide +kernel
theorem dX3_odds_87 : decode cX3_odds 87 = .ok (.getfield 101, 3) := by decide +kernel
theorem dX3_odds_90 : decode cX3_odds 90 = .ok (.iconst 3, 1) := by decide +kernel
theorem dX3_odds_91 : decode cX3_odds 91 = .ok (.iaload, 1) := by decide +kernel
theorem dX3_odds_92 : decode cX3_odds 92 = .ok (.i2l, 1) := by decide +kernel
theorem dX3_odds_93 : decode cX3_odds 93 = .ok (.goto 16, 3) := by decide +kernel
theorem dX3_odds_96 : decode cX3_odds 96 = .ok (.bipush 100, 2) := by decide +kernel
theorem dX3_odds_98 : decode cX3_odds 98 = .ok (.aload_n 0, 1) := by decide +kernel
theorem dX3_odds_99 : decode cX3_odds 99 = .ok (.getfield 10, 3) := by decide +kernel
theorem dX3_odds_102 : decode cX3_odds 102 = .ok (.getfield 101, 3) := by decide +kernel
theorem dX3_odds_105 : decode cX3_odds 105 = .ok (.iconst 3, 1) := by decide +kernel
theorem dX3_odds_106 : decode cX3_odds 106 = .ok (.iaload, 1) := by decide +kernel
theorem dX3_odds_107 : decode cX3_odds 107 = .ok (.isub, 1) := by decide +kernel
theorem dX3_odds_108 : decode cX3_odds 108 = .ok (.i2l, 1) := by decide +kernel
theorem dX3_odds_109 : decode cX3_odds 109 = .ok (.lmul, 1) := by decide +kernel
theorem dX3_odds_110 : decode cX3_odds 110 = .ok (.lstore 4, 2) := by decide +kernel
theorem dX3_odds_112 : decode cX3_odds 112 = .ok (.lload 6, 2) := by decide +kernel
theorem dX3_odds_114 : decode cX3_odds 114 = .ok (.ldc2_w 232, 3) := by decide +kernel
theorem dX3_odds_117 : decode cX3_odds 117 = .ok (.lmul, 1) := by decide +kernel
theorem dX3_odds_118 : decode cX3_odds 118 = .ok (.lstore 6, 2) := by decide +kernel
theorem dX3_odds_120 : decode cX3_odds 120 = .ok (.iinc 8 1, 3) := by decide +kernel
theorem dX3_odds_123 : decode cX3_odds 123 = .ok (.goto (-54), 3) := by decide +kernel
theorem dX3_odds_126 : decode cX3_odds 126 = .ok (.lload 4, 2) := by decide +kernel
theorem dX3_odds_128 : decode cX3_odds 128 = .ok (.lload 6, 2) := by decide +kernel
theorem dX3_odds_130 : decode cX3_odds 130 = .ok (.iload_n 3, 1) := by decide +kernel
theorem dX3_odds_131 : decode cX3_odds 131 = .ok (.invokestatic 234, 3) := by decide +kernel
theorem dX3_odds_134 : decode cX3_odds 134 = .ok (.lreturn, 1) := by decide +kernel
theorem dX3_hope_0 : decode cX3_hope 0 = .ok (.iload_n 1, 1) := by decide +kernel
theorem dX3_hope_1 : decode cX3_hope 1 = .ok (.bipush 99, 2) := by decide +kernel
theorem dX3_hope_3 : decode cX3_hope 3 = .ok (.invokestatic 97, 3) := by decide +kernel
theorem dX3_hope_6 : decode cX3_hope 6 = .ok (.ifCond .eq 11, 3) := by decide +kernel
theorem dX3_hope_9 : decode cX3_hope 9 = .ok (.iload_n 2, 1) := by decide +kernel
theorem dX3_hope_10 : decode cX3_hope 10 = .ok (.iconst 1, 1) := by decide +kernel
theorem dX3_hope_11 : decode cX3_hope 11 = .ok (.invokestatic 97, 3) := by decide +kernel
theorem dX3_hope_14 : decode cX3_hope 14 = .ok (.ifCond .ne 7, 3) := by decide +kernel
theorem dX3_hope_17 : decode cX3_hope 17 = .ok (.ldc2_w 177, 3) := by decide +kernel
theorem dX3_hope_20 : decode cX3_hope 20 = .ok (.lreturn, 1) := by decide +kernel
theorem dX3_hope_21 : decode cX3_hope 21 = .ok (.iload_n 1, 1) := by decide +kernel
theorem dX3_hope_22 : decode cX3_hope 22 = .ok (.i2l, 1) := by decide +kernel
theorem dX3_hope_23 : decode cX3_hope 23 = .ok (.aload_n 0, 1) := by decide +kernel
theorem dX3_hope_24 : decode cX3_hope 24 = .ok (.getfield 10, 3) := by decide +kernel
theorem dX3_hope_27 : decode cX3_hope 27 = .ok (.getfield 101, 3) := by decide +kernel
theorem dX3_hope_30 : decode cX3_hope 30 = .ok (.iconst 3, 1) := by decide +kernel
theorem dX3_hope_31 : decode cX3_hope 31 = .ok (.iaload, 1) := by decide +kernel
theorem dX3_hope_32 : decode cX3_hope 32 = .ok (.i2l, 1) := by decide +kernel
theorem dX3_hope_33 : decode cX3_hope 33 = .ok (.lmul, 1) := by decide +kernel
theorem dX3_hope_34 : decode cX3_hope 34 = .ok (.ldc2_w 232, 3) := by decide +kernel
theorem dX3_hope_37 : decode cX3_hope 37 = .ok (.iload_n 2, 1) := by decide +kernel
theorem dX3_hope_38 : decode cX3_hope 38 = .ok (.invokestatic 234, 3) := by decide +kernel
theorem dX3_hope_41 : decode cX3_hope 41 = .ok (.lreturn, 1) := by decide +kernel
theorem dX3_prove_0 : decode cX3_prove 0 = .ok (.aload_n 0, 1) := by decide +kernel
theorem dX3_prove_1 : decode cX3_prove 1 = .ok (.iload_n 1, 1) := by decide +kernel
theorem dX3_prove_2 : decode cX3_prove 2 = .ok (.invokevirtual 114, 3) := by decide +kernel
theorem dX3_prove_5 : decode cX3_prove 5 = .ok (.ifCond .eq 14, 3) := by decide +kernel
theorem dX3_prove_8 : decode cX3_prove 8 = .ok (.iload_n 2, 1) := by decide +kernel
theorem dX3_prove_9 : decode cX3_prove 9 = .ok (.iconst 1, 1) := by decide +kernel
theorem dX3_prove_10 : decode cX3_prove 10 = .ok (.if_icmp .lt 9, 3) := by decide +kernel
theorem dX3_prove_13 : decode cX3_prove 13 = .ok (.iload_n 2, 1) := by decide +kernel
theorem dX3_prove_14 : decode cX3_prove 14 = .ok (.bipush 10, 2) := by decide +kernel
theorem dX3_prove_16 : decode cX3_prove 16 = .ok (.if_icmp .le 5, 3) := by decide +kernel
theorem dX3_prove_19 : decode cX3_prove 19 = .ok (.iconst (-1), 1) := by decide +kernel
theorem dX3_prove_20 : decode cX3_prove 20 = .ok (.ireturn, 1) := by decide +kernel
theorem dX3_prove_21 : decode cX3_prove 21 = .ok (.aload_n 0, 1) := by decide +kernel
theorem dX3_prove_22 : decode cX3_prove 22 = .ok (.getfield 16, 3) := by decide +kernel
theorem dX3_prove_25 : decode cX3_prove 25 = .ok (.aload_n 0, 1) := by decide +kernel
theorem dX3_prove_26 : decode cX3_prove 26 = .ok (.getfield 10, 3) := by decide +kernel
theorem dX3_prove_29 : decode cX3_prove 29 = .ok (.invokevirtual 80, 3) := by decide +kernel
theorem dX3_prove_32 : decode cX3_prove 32 = .ok (.iconst 0, 1) := by decide +kernel
theorem dX3_prove_33 : decode cX3_prove 33 = .ok (.istore_n 3, 1) := by decide +kernel
theorem dX3_prove_34 : decode cX3_prove 34 = .ok (.iload_n 3, 1) := by decide +kernel
theorem dX3_prove_35 : decode cX3_prove 35 = .ok (.iload_n 2, 1) := by decide +kernel
theorem dX3_prove_36 : decode cX3_prove 36 = .ok (.if_icmp .ge 50, 3) := by decide +kernel
theorem dX3_prove_39 : decode cX3_prove 39 = .ok (.aload_n 0, 1) := by decide +kernel
theorem dX3_prove_40 : decode cX3_prove 40 = .ok (.getfield 16, 3) := by decide +kernel
theorem dX3_prove_43 : decode cX3_prove 43 = .ok (.invokevirtual 215, 3) := by decide +kernel
theorem dX3_prove_46 : decode cX3_prove 46 = .ok (.iconst 0, 1) := by decide +kernel
theorem dX3_prove_47 : decode cX3_prove 47 = .ok (.istore 4, 2) := by decide +kernel
theorem dX3_prove_49 : decode cX3_prove 49 = .ok (.iload 4, 2) := by decide +kernel
theorem dX3_prove_51 : decode cX3_prove 51 = .ok (.iconst 3, 1) := by decide +kernel
theorem dX3_prove_52 : decode cX3_prove 52 = .ok (.if_icmp .ge 28, 3) := by decide +kernel
theorem dX3_prove_55 : decode cX3_prove 55 = .ok (.aload_n 0, 1) := by decide +kernel
theorem dX3_prove_56 : decode cX3_prove 56 = .ok (.getfield 31, 3) := by decide +kernel
theorem dX3_prove_59 : decode cX3_prove 59 = .ok (.iload_n 3, 1) := by decide +kernel
theorem dX3_prove_60 : decode cX3_prove 60 = .ok (.aaload, 1) := by decide +kernel
theorem dX3_prove_61 : decode cX3_prove 61 = .ok (.iload 4, 2) := by decide +kernel
theorem dX3_prove_63 : decode cX3_prove 63 = .ok (.aload_n 0, 1) := by decide +kernel
theorem dX3_prove_64 : decode cX3_prove 64 = .ok (.getfield 16, 3) := by decide +kernel
theorem dX3_prove_67 : decode cX3_prove 67 = .ok (.iload_n 1, 1) := by decide +kernel
theorem dX3_prove_68 : decode cX3_prove 68 = .ok (.iload 4, 2) := by decide +kernel
theorem dX3_prove_70 : decode cX3_prove 70 = .ok (.invokevirtual 238, 3) := by decide +kernel
theorem dX3_prove_73 : decode cX3_prove 73 = .ok (.iastore, 1) := by decide +kernel
theorem dX3_prove_74 : decode cX3_prove 74 = .ok (.iinc 4 1, 3) := by decide +kernel
theorem dX3_prove_77 : decode cX3_prove 77 = .ok (.goto (-28), 3) := by decide +kernel
theorem dX3_prove_80 : decode cX3_prove 80 = .ok (.iinc 3 1, 3) := by decide +kernel
theorem dX3_prove_83 : decode cX3_prove 83 = .ok (.goto (-49), 3) := by decide +kernel
theorem dX3_prove_86 : decode cX3_prove 86 = .ok (.aload_n 0, 1) := by decide +kernel
theorem dX3_prove_87 : decode cX3_prove 87 = .ok (.iload_n 2, 1) := by decide +kernel
theorem dX3_prove_88 : decode cX3_prove 88 = .ok (.putfield 84, 3) := by decide +kernel
theorem dX3_prove_91 : decode cX3_prove 91 = .ok (.iload_n 2, 1) := by decide +kernel
theorem dX3_prove_92 : decode cX3_prove 92 = .ok (.ireturn, 1) := by decide +kernel
theorem dX3_row_0 : decode cX3_row 0 = .ok (.aload_n 0, 1) := by decide +kernel
theorem dX3_row_1 : decode cX3_row 1 = .ok (.iload_n 1, 1) := by decide +kernel
theorem dX3_row_2 : decode cX3_row 2 = .ok (.iload_n 2, 1) := by decide +kernel
theorem dX3_row_3 : decode cX3_row 3 = .ok (.invokevirtual 242, 3) := by decide +kernel
theorem dX3_row_6 : decode cX3_row 6 = .ok (.ifCond .eq 14, 3) := by decide +kernel
theorem dX3_row_9 : decode cX3_row 9 = .ok (.aload_n 0, 1) := by decide +kernel
theorem dX3_row_10 : decode cX3_row 10 = .ok (.getfield 31, 3) := by decide +kernel
theorem dX3_row_13 : decode cX3_row 13 = .ok (.iload_n 1, 1) := by decide +kernel
theorem dX3_row_14 : decode cX3_row 14 = .ok (.aaload, 1) := by decide +kernel
theorem dX3_row_15 : decode cX3_row 15 = .ok (.iload_n 2, 1) := by decide +kernel
theorem dX3_row_16 : decode cX3_row 16 = .ok (.iaload, 1) := by decide +kernel
theorem dX3_row_17 : decode cX3_row 17 = .ok (.goto 5, 3) := by decide +kernel
theorem dX3_row_20 : decode cX3_row 20 = .ok (.bipush (-9), 2) := by decide +kernel
theorem dX3_row_22 : decode cX3_row 22 = .ok (.ireturn, 1) := by decide +kernel
theorem dX3_alterRow_0 : decode cX3_alterRow 0 = .ok (.aload_n 0, 1) := by decide +kernel
theorem dX3_alterRow_1 : decode cX3_alterRow 1 = .ok (.iload_n 1, 1) := by decide +kernel
theorem dX3_alterRow_2 : decode cX3_alterRow 2 = .ok (.iload_n 2, 1) := by decide +kernel
theorem dX3_alterRow_3 : decode cX3_alterRow 3 = .ok (.invokevirtual 242, 3) := by decide +kernel
theorem dX3_alterRow_6 : decode cX3_alterRow 6 = .ok (.ifCond .ne 6, 3) := by decide +kernel
theorem dX3_alterRow_9 : decode cX3_alterRow 9 = .ok (.bipush (-9), 2) := by decide +kernel
theorem dX3_alterRow_11 : decode cX3_alterRow 11 = .ok (.ireturn, 1) := by decide +kernel
theorem dX3_alterRow_12 : decode cX3_alterRow 12 = .ok (.aload_n 0, 1) := by decide +kernel
theorem dX3_alterRow_13 : decode cX3_alterRow 13 = .ok (.getfield 31, 3) := by decide +kernel
theorem dX3_alterRow_16 : decode cX3_alterRow 16 = .ok (.iload_n 1, 1) := by decide +kernel
theorem dX3_alterRow_17 : decode cX3_alterRow 17 = .ok (.aaload, 1) := by decide +kernel
theorem dX3_alterRow_18 : decode cX3_alterRow 18 = .ok (.iload_n 2, 1) := by decide +kernel
theorem dX3_alterRow_19 : decode cX3_alterRow 19 = .ok (.iaload, 1) := by decide +kernel
theorem dX3_alterRow_20 : decode cX3_alterRow 20 = .ok (.istore 4, 2) := by decide +kernel
theorem dX3_alterRow_22 : decode cX3_alterRow 22 = .ok (.aload_n 0, 1) := by decide +kernel
theorem dX3_alterRow_23 : decode cX3_alterRow 23 = .ok (.getfield 31, 3) := by decide +kernel
theorem dX3_alterRow_26 : decode cX3_alterRow 26 = .ok (.iload_n 1, 1) := by decide +kernel
theorem dX3_alterRow_27 : decode cX3_alterRow 27 = .ok (.aaload, 1) := by decide +kernel
theorem dX3_alterRow_28 : decode cX3_alterRow 28 = .ok (.iload_n 2, 1) := by decide +kernel
theorem dX3_alterRow_29 : decode cX3_alterRow 29 = .ok (.iload_n 3, 1) := by decide +kernel
theorem dX3_alterRow_30 : decode cX3_alterRow 30 = .ok (.iastore, 1) := by decide +kernel
theorem dX3_alterRow_31 : decode cX3_alterRow 31 = .ok (.iload 4, 2) := by decide +kernel
theorem dX3_alterRow_33 : decode cX3_alterRow 33 = .ok (.ireturn, 1) := by decide +kernel
theorem dX3_judge_0 : decode cX3_judge 0 = .ok (.aload_n 0, 1) := by decide +kernel
theorem dX3_judge_1 : decode cX3_judge 1 = .ok (.iload_n 1, 1) := by decide +kernel
theorem dX3_judge_2 : decode cX3_judge 2 = .ok (.invokevirtual 114, 3) := by decide +kernel
theorem dX3_judge_5 : decode cX3_judge 5 = .ok (.ifCond .ne 5, 3) := by decide +kernel
theorem dX3_judge_8 : decode cX3_judge 8 = .ok (.iconst (-1), 1) := by decide +kernel
theorem dX3_judge_9 : decode cX3_judge 9 = .ok (.ireturn, 1) := by decide +kernel
theorem dX3_judge_10 : decode cX3_judge 10 = .ok (.aload_n 0, 1) := by decide +kernel
theorem dX3_judge_11 : decode cX3_judge 11 = .ok (.getfield 16, 3) := by decide +kernel
theorem dX3_judge_14 : decode cX3_judge 14 = .ok (.aload_n 0, 1) := by decide +kernel
theorem dX3_judge_15 : decode cX3_judge 15 = .ok (.getfield 10, 3) := by decide +kernel
theorem dX3_judge_18 : decode cX3_judge 18 = .ok (.invokevirtual 80, 3) := by decide +kernel
theorem dX3_judge_21 : decode cX3_judge 21 = .ok (.iconst 0, 1) := by decide +kernel
theorem dX3_judge_22 : decode cX3_judge 22 = .ok (.istore_n 2, 1) := by decide +kernel
theorem dX3_judge_23 : decode cX3_judge 23 = .ok (.iload_n 2, 1) := by decide +kernel
theorem dX3_judge_24 : decode cX3_judge 24 = .ok (.aload_n 0, 1) := by decide +kernel
theorem dX3_judge_25 : decode cX3_judge 25 = .ok (.getfield 84, 3) := by decide +kernel
theorem dX3_judge_28 : decode cX3_judge 28 = .ok (.if_icmp .ge 53, 3) := by decide +kernel
theorem dX3_judge_31 : decode cX3_judge 31 = .ok (.aload_n 0, 1) := by decide +kernel
theorem dX3_judge_32 : decode cX3_judge 32 = .ok (.getfield 16, 3) := by decide +kernel
theorem dX3_judge_35 : decode cX3_judge 35 = .ok (.invokevirtual 215, 3) := by decide +kernel
theorem dX3_judge_38 : decode cX3_judge 38 = .ok (.iconst 0, 1) := by decide +kernel
theorem dX3_judge_39 : decode cX3_judge 39 = .ok (.istore_n 3, 1) := by decide +kernel
theorem dX3_judge_40 : decode cX3_judge 40 = .ok (.iload_n 3, 1) := by decide +kernel
theorem dX3_judge_41 : decode cX3_judge 41 = .ok (.iconst 3, 1) := by decide +kernel
theorem dX3_judge_42 : decode cX3_judge 42 = .ok (.if_icmp .ge 33, 3) := by decide +kernel
theorem dX3_judge_45 : decode cX3_judge 45 = .ok (.aload_n 0, 1) := by decide +kernel
theorem dX3_judge_46 : decode cX3_judge 46 = .ok (.getfield 31, 3) := by decide +kernel
theorem dX3_judge_49 : decode cX3_judge 49 = .ok (.iload_n 2, 1) := by decide +kernel
theorem dX3_judge_50 : decode cX3_judge 50 = .ok (.aaload, 1) := by decide +kernel
theorem dX3_judge_51 : decode cX3_judge 51 = .ok (.iload_n 3, 1) := by decide +kernel
theorem dX3_judge_52 : decode cX3_judge 52 = .ok (.iaload, 1) := by decide +kernel
theorem dX3_judge_53 : decode cX3_judge 53 = .ok (.aload_n 0, 1) := by decide +kernel
theorem dX3_judge_54 : decode cX3_judge 54 = .ok (.getfield 16, 3) := by decide +kernel
theorem dX3_judge_57 : decode cX3_judge 57 = .ok (.iload_n 1, 1) := by decide +kernel
theorem dX3_judge_58 : decode cX3_judge 58 = .ok (.iload_n 3, 1) := by decide +kernel
theorem dX3_judge_59 : decode cX3_judge 59 = .ok (.invokevirtual 238, 3) := by decide +kernel
theorem dX3_judge_62 : decode cX3_judge 62 = .ok (.if_icmp .eq 7, 3) := by decide +kernel
theorem dX3_judge_65 : decode cX3_judge 65 = .ok (.iload_n 2, 1) := by decide +kernel
theorem dX3_judge_66 : decode cX3_judge 66 = .ok (.iconst 1, 1) := by decide +kernel
theorem dX3_judge_67 : decode cX3_judge 67 = .ok (.iadd, 1) := by decide +kernel
theorem dX3_judge_68 : decode cX3_judge 68 = .ok (.ireturn, 1) := by decide +kernel
theorem dX3_judge_69 : decode cX3_judge 69 = .ok (.iinc 3 1, 3) := by decide +kernel
theorem dX3_judge_72 : decode cX3_judge 72 = .ok (.goto (-32), 3) := by decide +kernel
theorem dX3_judge_75 : decode cX3_judge 75 = .ok (.iinc 2 1, 3) := by decide +kernel
theorem dX3_judge_78 : decode cX3_judge 78 = .ok (.goto (-55), 3) := by decide +kernel
theorem dX3_judge_81 : decode cX3_judge 81 = .ok (.iconst 0, 1) := by decide +kernel
theorem dX3_judge_82 : decode cX3_judge 82 = .ok (.ireturn, 1) := by decide +kernel
theorem dX3_minds_0 : decode cX3_minds 0 = .ok (.iload_n 1, 1) := by decide +kernel
theorem dX3_minds_1 : decode cX3_minds 1 = .ok (.invokestatic 225, 3) := by decide +kernel
theorem dX3_minds_4 : decode cX3_minds 4 = .ok (.ifCond .eq 35, 3) := by decide +kernel
theorem dX3_minds_7 : decode cX3_minds 7 = .ok (.aload_n 0, 1) := by decide +kernel
theorem dX3_minds_8 : decode cX3_minds 8 = .ok (.iload_n 3, 1) := by decide +kernel
theorem dX3_minds_9 : decode cX3_minds 9 = .ok (.invokevirtual 114, 3) := by decide +kernel
theorem dX3_minds_12 : decode cX3_minds 12 = .ok (.ifCond .eq 27, 3) := by decide +kernel
theorem dX3_minds_15 : decode cX3_minds 15 = .ok (.iload 4, 2) := by decide +kernel
theorem dX3_minds_17 : decode cX3_minds 17 = .ok (.bipush 8, 2) := by decide +kernel
theorem dX3_minds_19 : decode cX3_minds 19 = .ok (.invokestatic 97, 3) := by decide +kernel
theorem dX3_minds_22 : decode cX3_minds 22 = .ok (.ifCond .eq 17, 3) := by decide +kernel
theorem dX3_minds_25 : decode cX3_minds 25 = .ok (.iload_n 3, 1) := by decide +kernel
theorem dX3_minds_26 : decode cX3_minds 26 = .ok (.iload 4, 2) := by decide +kernel
theorem dX3_minds_28 : decode cX3_minds 28 = .ok (.iadd, 1) := by decide +kernel
theorem dX3_minds_29 : decode cX3_minds 29 = .ok (.aload_n 0, 1) := by decide +kernel
theorem dX3_minds_30 : decode cX3_minds 30 = .ok (.getfield 10, 3) := by decide +kernel
theorem dX3_minds_33 : decode cX3_minds 33 = .ok (.getfield 87, 3) := by decide +kernel
theorem dX3_minds_36 : decode cX3_minds 36 = .ok (.if_icmp .le 5, 3) := by decide +kernel
theorem dX3_minds_39 : decode cX3_minds 39 = .ok (.iconst (-1), 1) := by decide +kernel
theorem dX3_minds_40 : decode cX3_minds 40 = .ok (.ireturn, 1) := by decide +kernel
theorem dX3_minds_41 : decode cX3_minds 41 = .ok (.aload_n 0, 1) := by decide +kernel
theorem dX3_minds_42 : decode cX3_minds 42 = .ok (.getfield 34, 3) := by decide +kernel
theorem dX3_minds_45 : decode cX3_minds 45 = .ok (.iload_n 1, 1) := by decide +kernel
theorem dX3_minds_46 : decode cX3_minds 46 = .ok (.iaload, 1) := by decide +kernel
theorem dX3_minds_47 : decode cX3_minds 47 = .ok (.iconst (-1), 1) := by decide +kernel
theorem dX3_minds_48 : decode cX3_minds 48 = .ok (.if_icmp .ne 6, 3) := by decide +kernel
theorem dX3_minds_51 : decode cX3_minds 51 = .ok (.bipush (-11), 2) := by decide +kernel
theorem dX3_minds_53 : decode cX3_minds 53 = .ok (.ireturn, 1) := by decide +kernel
theorem dX3_minds_54 : decode cX3_minds 54 = .ok (.aload_n 0, 1) := by decide +kernel
theorem dX3_minds_55 : decode cX3_minds 55 = .ok (.getfield 34, 3) := by decide +kernel
theorem dX3_minds_58 : decode cX3_minds 58 = .ok (.iload_n 1, 1) := by decide +kernel
theorem dX3_minds_59 : decode cX3_minds 59 = .ok (.iaload, 1) := by decide +kernel
theorem dX3_minds_60 : decode cX3_minds 60 = .ok (.ifCond .eq 6, 3) := by decide +kernel
theorem dX3_minds_63 : decode cX3_minds 63 = .ok (.bipush (-13), 2) := by decide +kernel
theorem dX3_minds_65 : decode cX3_minds 65 = .ok (.ireturn, 1) := by decide +kernel
theorem dX3_minds_66 : decode cX3_minds 66 = .ok (.iload_n 2, 1) := by decide +kernel
theorem dX3_minds_67 : decode cX3_minds 67 = .ok (.aload_n 0, 1) := by decide +kernel
theorem dX3_minds_68 : decode cX3_minds 68 = .ok (.getfield 38, 3) := by decide +kernel
theorem dX3_minds_71 : decode cX3_minds 71 = .ok (.iload_n 1, 1) := by decide +kernel
theorem dX3_minds_72 : decode cX3_minds 72 = .ok (.iaload, 1) := by decide +kernel
theorem dX3_minds_73 : decode cX3_minds 73 = .ok (.invokestatic 97, 3) := by decide +kernel
theorem dX3_minds_76 : decode cX3_minds 76 = .ok (.ifCond .eq 16, 3) := by decide +kernel
theorem dX3_minds_79 : decode cX3_minds 79 = .ok (.iload 4, 2) := by decide +kernel
theorem dX3_minds_81 : decode cX3_minds 81 = .ok (.aload_n 0, 1) := by decide +kernel
theorem dX3_minds_82 : decode cX3_minds 82 = .ok (.getfield 38, 3) := by decide +kernel
theorem dX3_minds_85 : decode cX3_minds 85 = .ok (.iload_n 1, 1) := by decide +kernel
theorem dX3_minds_86 : decode cX3_minds 86 = .ok (.iaload, 1) := by decide +kernel
theorem dX3_minds_87 : decode cX3_minds 87 = .ok (.iload_n 2, 1) := by decide +kernel
theorem dX3_minds_88 : decode cX3_minds 88 = .ok (.isub, 1) := by decide +kernel
theorem dX3_minds_89 : decode cX3_minds 89 = .ok (.if_icmp .le 6, 3) := by decide +kernel
theorem dX3_minds_92 : decode cX3_minds 92 = .ok (.bipush (-12), 2) := by decide +kernel
theorem dX3_minds_94 : decode cX3_minds 94 = .ok (.ireturn, 1) := by decide +kernel
theorem dX3_minds_95 : decode cX3_minds 95 = .ok (.iconst 0, 1) := by decide +kernel
theorem dX3_minds_96 : decode cX3_minds 96 = .ok (.istore 5, 2) := by decide +kernel
theorem dX3_minds_98 : decode cX3_minds 98 = .ok (.iload 5, 2) := by decide +kernel
theorem dX3_minds_100 : decode cX3_minds 100 = .ok (.iload 4, 2) := by decide +kernel
theorem dX3_minds_102 : decode cX3_minds 102 = .ok (.if_icmp .ge 36, 3) := by decide +kernel
theorem dX3_minds_105 : decode cX3_minds 105 = .ok (.aload_n 0, 1) := by decide +kernel
theorem dX3_minds_106 : decode cX3_minds 106 = .ok (.getfield 10, 3) := by decide +kernel
theorem dX3_minds_109 : decode cX3_minds 109 = .ok (.getfield 123, 3) := by decide +kernel
theorem dX3_minds_112 : decode cX3_minds 112 = .ok (.iload_n 3, 1) := by decide +kernel
theorem dX3_minds_113 : decode cX3_minds 113 = .ok (.iload 5, 2) := by decide +kernel
theorem dX3_minds_115 : decode cX3_minds 115 = .ok (.iadd, 1) := by decide +kernel
theorem dX3_minds_116 : decode cX3_minds 116 = .ok (.aload_n 0, 1) := by decide +kernel
theorem dX3_minds_117 : decode cX3_minds 117 = .ok (.getfield 43, 3) := by decide +kernel
theorem dX3_minds_120 : decode cX3_minds 120 = .ok (.iload_n 1, 1) := by decide +kernel
theorem dX3_minds_121 : decode cX3_minds 121 = .ok (.aaload, 1) := by decide +kernel
theorem dX3_minds_122 : decode cX3_minds 122 = .ok (.iload_n 2, 1) := by decide +kernel
theorem dX3_minds_123 : decode cX3_minds 123 = .ok (.iload 5, 2) := by decide +kernel
theorem dX3_minds_125 : decode cX3_minds 125 = .ok (.iadd, 1) := by decide +kernel
theorem dX3_minds_126 : decode cX3_minds 126 = .ok (.laload, 1) := by decide +kernel
theorem dX3_minds_127 : decode cX3_minds 127 = .ok (.l2i, 1) := by decide +kernel
theorem dX3_minds_128 : decode cX3_minds 128 = .ok (.invokestatic 245, 3) := by decide +kernel
theorem dX3_minds_131 : decode cX3_minds 131 = .ok (.iastore, 1) := by decide +kernel
theorem dX3_minds_132 : decode cX3_minds 132 = .ok (.iinc 5 1, 3) := by decide +kernel
theorem dX3_minds_135 : decode cX3_minds 135 = .ok (.goto (-37), 3) := by decide +kernel
theorem dX3_minds_138 : decode cX3_minds 138 = .ok (.iload 4, 2) := by decide +kernel
theorem dX3_minds_140 : decode cX3_minds 140 = .ok (.ireturn, 1) := by decide +kernel
theorem dX3_sheet_0 : decode cX3_sheet 0 = .ok (.iload_n 1, 1) := by decide +kernel
theorem dX3_sheet_1 : decode cX3_sheet 1 = .ok (.invokestatic 225, 3) := by decide +kernel
theorem dX3_sheet_4 : decode cX3_sheet 4 = .ok (.ifCond .eq 13, 3) := by decide +kernel
theorem dX3_sheet_7 : decode cX3_sheet 7 = .ok (.iload_n 2, 1) := by decide +kernel
theorem dX3_sheet_8 : decode cX3_sheet 8 = .ok (.iconst (-1), 1) := by decide +kernel
theorem dX3_sheet_9 : decode cX3_sheet 9 = .ok (.if_icmp .lt 8, 3) := by decide +kernel
theorem dX3_sheet_12 : decode cX3_sheet 12 = .ok (.iload_n 2, 1) := by decide +kernel
theorem dX3_sheet_13 : decode cX3_sheet 13 = .ok (.iconst 4, 1) := by decide +kernel
theorem dX3_sheet_14 : decode cX3_sheet 14 = .ok (.if_icmp .lt 5, 3) := by decide +kernel
theorem dX3_sheet_17 : decode cX3_sheet 17 = .ok (.iconst (-1), 1) := by decide +kernel
theorem dX3_sheet_18 : decode cX3_sheet 18 = .ok (.ireturn, 1) := by decide +kernel
theorem dX3_sheet_19 : decode cX3_sheet 19 = .ok (.iload_n 2, 1) := by decide +kernel
theorem dX3_sheet_20 : decode cX3_sheet 20 = .ok (.iconst (-1), 1) := by decide +kernel
theorem dX3_sheet_21 : decode cX3_sheet 21 = .ok (.if_icmp .ne 7, 3) := by decide +kernel
theorem dX3_sheet_24 : decode cX3_sheet 24 = .ok (.iconst 0, 1) := by decide +kernel
theorem dX3_sheet_25 : decode cX3_sheet 25 = .ok (.goto 4, 3) := by decide +kernel
theorem dX3_sheet_28 : decode cX3_sheet 28 = .ok (.iload_n 3, 1) := by decide +kernel
theorem dX3_sheet_29 : decode cX3_sheet 29 = .ok (.istore 4, 2) := by decide +kernel
theorem dX3_sheet_31 : decode cX3_sheet 31 = .ok (.iload 4, 2) := by decide +kernel
theorem dX3_sheet_33 : decode cX3_sheet 33 = .ok (.bipush 40, 2) := by decide +kernel
theorem dX3_sheet_35 : decode cX3_sheet 35 = .ok (.if_icmp .le 5, 3) := by decide +kernel
theorem dX3_sheet_38 : decode cX3_sheet 38 = .ok (.iconst (-1), 1) := by decide +kernel
theorem dX3_sheet_39 : decode cX3_sheet 39 = .ok (.ireturn, 1) := by decide +kernel
theorem dX3_sheet_40 : decode cX3_sheet 40 = .ok (.iload 4, 2) := by decide +kernel
theorem dX3_sheet_42 : decode cX3_sheet 42 = .ok (.ifCond .ge 6, 3) := by decide +kernel
theorem dX3_sheet_45 : decode cX3_sheet 45 = .ok (.bipush (-14), 2) := by decide +kernel
theorem dX3_sheet_47 : decode cX3_sheet 47 = .ok (.ireturn, 1) := by decide +kernel
theorem dX3_sheet_48 : decode cX3_sheet 48 = .ok (.aload_n 0, 1) := by decide +kernel
theorem dX3_sheet_49 : decode cX3_sheet 49 = .ok (.getfield 34, 3) := by decide +kernel
theorem dX3_sheet_52 : decode cX3_sheet 52 = .ok (.iload_n 1, 1) := by decide +kernel
theorem dX3_sheet_53 : decode cX3_sheet 53 = .ok (.iload_n 2, 1) := by decide +kernel
theorem dX3_sheet_54 : decode cX3_sheet 54 = .ok (.iastore, 1) := by decide +kernel
theorem dX3_sheet_55 : decode cX3_sheet 55 = .ok (.aload_n 0, 1) := by decide +kernel
theorem dX3_sheet_56 : decode cX3_sheet 56 = .ok (.getfield 38, 3) := by decide +kernel
theorem dX3_sheet_59 : decode cX3_sheet 59 = .ok (.iload_n 1, 1) := by decide +kernel
theorem dX3_sheet_60 : decode cX3_sheet 60 = .ok (.iload 4, 2) := by decide +kernel
theorem dX3_sheet_62 : decode cX3_sheet 62 = .ok (.iastore, 1) := by decide +kernel
theorem dX3_sheet_63 : decode cX3_sheet 63 = .ok (.iconst 0, 1) := by decide +kernel
theorem dX3_sheet_64 : decode cX3_sheet 64 = .ok (.istore 5, 2) := by decide +kernel
theorem dX3_sheet_66 : decode cX3_sheet 66 = .ok (.iload 5, 2) := by decide +kernel
theorem dX3_sheet_68 : decode cX3_sheet 68 = .ok (.bipush 40, 2) := by decide +kernel
theorem dX3_sheet_70 : decode cX3_sheet 70 = .ok (.if_icmp .ge 19, 3) := by decide +kernel
theorem dX3_sheet_73 : decode cX3_sheet 73 = .ok (.aload_n 0, 1) := by decide +kernel
theorem dX3_sheet_74 : decode cX3_sheet 74 = .ok (.getfield 43, 3) := by decide +kernel
theorem dX3_sheet_77 : decode cX3_sheet 77 = .ok (.iload_n 1, 1) := by decide +kernel
theorem dX3_sheet_78 : decode cX3_sheet 78 = .ok (.aaload, 1) := by decide +kernel
theorem dX3_sheet_79 : decode cX3_sheet 79 = .ok (.iload 5, 2) := by decide +kernel
theorem dX3_sheet_81 : decode cX3_sheet 81 = .ok (.lconst 0, 1) := by decide +kernel
theorem dX3_sheet_82 : decode cX3_sheet 82 = .ok (.lastore, 1) := by decide +kernel
theorem dX3_sheet_83 : decode cX3_sheet 83 = .ok (.iinc 5 1, 3) := by decide +kernel
theorem dX3_sheet_86 : decode cX3_sheet 86 = .ok (.goto (-20), 3) := by decide +kernel
theorem dX3_sheet_89 : decode cX3_sheet 89 = .ok (.iconst 1, 1) := by decide +kernel
theorem dX3_sheet_90 : decode cX3_sheet 90 = .ok (.ireturn, 1) := by decide +kernel
theorem dX3_put_0 : decode cX3_put 0 = .ok (.iload_n 1, 1) := by decide +kernel
theorem dX3_put_1 : decode cX3_put 1 = .ok (.invokestatic 225, 3) := by decide +kernel
theorem dX3_put_4 : decode cX3_put 4 = .ok (.ifCond .ne 5, 3) := by decide +kernel
theorem dX3_put_7 : decode cX3_put 7 = .ok (.iconst (-1), 1) := by decide +kernel
theorem dX3_put_8 : decode cX3_put 8 = .ok (.ireturn, 1) := by decide +kernel
theorem dX3_put_9 : decode cX3_put 9 = .ok (.aload_n 0, 1) := by decide +kernel
theorem dX3_put_10 : decode cX3_put 10 = .ok (.getfield 34, 3) := by decide +kernel
theorem dX3_put_13 : decode cX3_put 13 = .ok (.iload_n 1, 1) := by decide +kernel
theorem dX3_put_14 : decode cX3_put 14 = .ok (.iaload, 1) := by decide +kernel
theorem dX3_put_15 : decode cX3_put 15 = .ok (.iconst (-1), 1) := by decide +kernel
theorem dX3_put_16 : decode cX3_put 16 = .ok (.if_icmp .ne 6, 3) := by decide +kernel
theorem dX3_put_19 : decode cX3_put 19 = .ok (.bipush (-11), 2) := by decide +kernel
theorem dX3_put_21 : decode cX3_put 21 = .ok (.ireturn, 1) := by decide +kernel
theorem dX3_put_22 : decode cX3_put 22 = .ok (.iload_n 2, 1) := by decide +kernel
theorem dX3_put_23 : decode cX3_put 23 = .ok (.ifCond .lt 13, 3) := by decide +kernel
theorem dX3_put_26 : decode cX3_put 26 = .ok (.iload_n 2, 1) := by decide +kernel
theorem dX3_put_27 : decode cX3_put 27 = .ok (.aload_n 0, 1) := by decide +kernel
theorem dX3_put_28 : decode cX3_put 28 = .ok (.getfield 38, 3) := by decide +kernel
theorem dX3_put_31 : decode cX3_put 31 = .ok (.iload_n 1, 1) := by decide +kernel
theorem dX3_put_32 : decode cX3_put 32 = .ok (.iaload, 1) := by decide +kernel
theorem dX3_put_33 : decode cX3_put 33 = .ok (.if_icmp .lt 6, 3) := by decide +kernel
theorem dX3_put_36 : decode cX3_put 36 = .ok (.bipush (-12), 2) := by decide +kernel
theorem dX3_put_38 : decode cX3_put 38 = .ok (.ireturn, 1) := by decide +kernel
theorem dX3_put_39 : decode cX3_put 39 = .ok (.aload_n 0, 1) := by decide +kernel
theorem dX3_put_40 : decode cX3_put 40 = .ok (.getfield 43, 3) := by decide +kernel
theorem dX3_put_43 : decode cX3_put 43 = .ok (.iload_n 1, 1) := by decide +kernel
theorem dX3_put_44 : decode cX3_put 44 = .ok (.aaload, 1) := by decide +kernel
theorem dX3_put_45 : decode cX3_put 45 = .ok (.iload_n 2, 1) := by decide +kernel
theorem dX3_put_46 : decode cX3_put 46 = .ok (.iload_n 3, 1) := by decide +kernel
theorem dX3_put_47 : decode cX3_put 47 = .ok (.aload_n 0, 1) := by decide +kernel
theorem dX3_put_48 : decode cX3_put 48 = .ok (.getfield 34, 3) := by decide +kernel
theorem dX3_put_51 : decode cX3_put 51 = .ok (.iload_n 1, 1) := by decide +kernel
theorem dX3_put_52 : decode cX3_put 52 = .ok (.iaload, 1) := by decide +kernel
theorem dX3_put_53 : decode cX3_put 53 = .ok (.invokestatic 248, 3) := by decide +kernel
theorem dX3_put_56 : decode cX3_put 56 = .ok (.lastore, 1) := by decide +kernel
theorem dX3_put_57 : decode cX3_put 57 = .ok (.iconst 1, 1) := by decide +kernel
theorem dX3_put_58 : decode cX3_put 58 = .ok (.ireturn, 1) := by decide +kernel
theorem dX3_item_0 : decode cX3_item 0 = .ok (.iload_n 1, 1) := by decide +kernel
theorem dX3_item_1 : decode cX3_item 1 = .ok (.invokestatic 225, 3) := by decide +kernel
theorem dX3_item_4 : decode cX3_item 4 = .ok (.ifCond .eq 10, 3) := by decide +kernel
theorem dX3_item_7 : decode cX3_item 7 = .ok (.iload_n 2, 1) := by decide +kernel
theorem dX3_item_8 : decode cX3_item 8 = .ok (.invokestatic 252, 3) := by decide +kernel
theorem dX3_item_11 : decode cX3_item 11 = .ok (.ifCond .ne 5, 3) := by decide +kernel
theorem dX3_item_14 : decode cX3_item 14 = .ok (.iconst (-1), 1) := by decide +kernel
theorem dX3_item_15 : decode cX3_item 15 = .ok (.ireturn, 1) := by decide +kernel
theorem dX3_item_16 : decode cX3_item 16 = .ok (.aload_n 0, 1) := by decide +kernel
theorem dX3_item_17 : decode cX3_item 17 = .ok (.getfield 34, 3) := by decide +kernel
theorem dX3_item_20 : decode cX3_item 20 = .ok (.iload_n 1, 1) := by decide +kernel
theorem dX3_item_21 : decode cX3_item 21 = .ok (.iaload, 1) := by decide +kernel
theorem dX3_item_22 : decode cX3_item 22 = .ok (.iconst (-1), 1) := by decide +kernel
theorem dX3_item_23 : decode cX3_item 23 = .ok (.if_icmp .ne 6, 3) := by decide +kernel
theorem dX3_item_26 : decode cX3_item 26 = .ok (.bipush (-11), 2) := by decide +kernel
theorem dX3_item_28 : decode cX3_item 28 = .ok (.ireturn, 1) := by decide +kernel
theorem dX3_item_29 : decode cX3_item 29 = .ok (.aload_n 0, 1) := by decide +kernel
theorem dX3_item_30 : decode cX3_item 30 = .ok (.getfield 34, 3) := by decide +kernel
theorem dX3_item_33 : decode cX3_item 33 = .ok (.iload_n 1, 1) := by decide +kernel
theorem dX3_item_34 : decode cX3_item 34 = .ok (.iaload, 1) := by decide +kernel
theorem dX3_item_35 : decode cX3_item 35 = .ok (.iload_n 2, 1) := by decide +kernel
theorem dX3_item_36 : decode cX3_item 36 = .ok (.if_icmp .eq 6, 3) := by decide +kernel
theorem dX3_item_39 : decode cX3_item 39 = .ok (.bipush (-13), 2) := by decide +kernel
theorem dX3_item_41 : decode cX3_item 41 = .ok (.ireturn, 1) := by decide +kernel
theorem dX3_item_42 : decode cX3_item 42 = .ok (.iload_n 3, 1) := by decide +kernel
theorem dX3_item_43 : decode cX3_item 43 = .ok (.ifCond .lt 13, 3) := by decide +kernel
theorem dX3_item_46 : decode cX3_item 46 = .ok (.iload_n 3, 1) := by decide +kernel
theorem dX3_item_47 : decode cX3_item 47 = .ok (.aload_n 0, 1) := by decide +kernel
theorem dX3_item_48 : decode cX3_item 48 = .ok (.getfield 38, 3) := by decide +kernel
theorem dX3_item_51 : decode cX3_item 51 = .ok (.iload_n 1, 1) := by decide +kernel
theorem dX3_item_52 : decode cX3_item 52 = .ok (.iaload, 1) := by decide +kernel
theorem dX3_item_53 : decode cX3_item 53 = .ok (.if_icmp .lt 6, 3) := by decide +kernel
theorem dX3_item_56 : decode cX3_item 56 = .ok (.bipush (-12), 2) := by decide +kernel
theorem dX3_item_58 : decode cX3_item 58 = .ok (.ireturn, 1) := by decide +kernel
theorem dX3_item_59 : decode cX3_item 59 = .ok (.aload_n 0, 1) := by decide +kernel
theorem dX3_item_60 : decode cX3_item 60 = .ok (.getfield 43, 3) := by decide +kernel
theorem dX3_item_63 : decode cX3_item 63 = .ok (.iload_n 1, 1) := by decide +kernel
theorem dX3_item_64 : decode cX3_item 64 = .ok (.aaload, 1) := by decide +kernel
theorem dX3_item_65 : decode cX3_item 65 = .ok (.iload_n 3, 1) := by decide +kernel
theorem dX3_item_66 : decode cX3_item 66 = .ok (.laload, 1) := by decide +kernel
theorem dX3_item_67 : decode cX3_item 67 = .ok (.l2i, 1) := by decide +kernel
theorem dX3_item_68 : decode cX3_item 68 = .ok (.ireturn, 1) := by decide +kernel
theorem dX3_shelf_0 : decode cX3_shelf 0 = .ok (.iload_n 1, 1) := by decide +kernel
theorem dX3_shelf_1 : decode cX3_shelf 1 = .ok (.invokestatic 255, 3) := by decide +kernel
theorem dX3_shelf_4 : decode cX3_shelf 4 = .ok (.ifCond .ne 5, 3) := by decide +kernel
theorem dX3_shelf_7 : decode cX3_shelf 7 = .ok (.iconst (-1), 1) := by decide +kernel
theorem dX3_shelf_8 : decode cX3_shelf 8 = .ok (.ireturn, 1) := by decide +kernel
theorem dX3_shelf_9 : decode cX3_shelf 9 = .ok (.iload_n 2, 1) := by decide +kernel
theorem dX3_shelf_10 : decode cX3_shelf 10 = .ok (.tableswitch 98 0 2 #[26, 47, 89], 26) := by decide +kernel
theorem dX3_shelf_36 : decode cX3_shelf 36 = .ok (.aload_n 0, 1) := by decide +kernel
theorem dX3_shelf_37 : decode cX3_shelf 37 = .ok (.iload_n 3, 1) := by decide +kernel
theorem dX3_shelf_38 : decode cX3_shelf 38 = .ok (.invokevirtual 114, 3) := by decide +kernel
theorem dX3_shelf_41 : decode cX3_shelf 41 = .ok (.ifCond .eq 14, 3) := by decide +kernel
theorem dX3_shelf_44 : decode cX3_shelf 44 = .ok (.aload_n 0, 1) := by decide +kernel
theorem dX3_shelf_45 : decode cX3_shelf 45 = .ok (.iload_n 1, 1) := by decide +kernel
theorem dX3_shelf_46 : decode cX3_shelf 46 = .ok (.iconst 0, 1) := by decide +kernel
theorem dX3_shelf_47 : decode cX3_shelf 47 = .ok (.iload_n 3, 1) := by decide +kernel
theorem dX3_shelf_48 : decode cX3_shelf 48 = .ok (.iconst (-1), 1) := by decide +kernel
theorem dX3_shelf_49 : decode cX3_shelf 49 = .ok (.invokevirtual 258, 3) := by decide +kernel
theorem dX3_shelf_52 : decode cX3_shelf 52 = .ok (.goto 4, 3) := by decide +kernel
theorem dX3_shelf_55 : decode cX3_shelf 55 = .ok (.iconst (-1), 1) := by decide +kernel
theorem dX3_shelf_56 : decode cX3_shelf 56 = .ok (.ireturn, 1) := by decide +kernel
theorem dX3_shelf_57 : decode cX3_shelf 57 = .ok (.iload_n 3, 1) := by decide +kernel
theorem dX3_shelf_58 : decode cX3_shelf 58 = .ok (.invokestatic 225, 3) := by decide +kernel
theorem dX3_shelf_61 : decode cX3_shelf 61 = .ok (.ifCond .ne 5, 3) := by decide +kernel
theorem dX3_shelf_64 : decode cX3_shelf 64 = .ok (.iconst (-1), 1) := by decide +kernel
theorem dX3_shelf_65 : decode cX3_shelf 65 = .ok (.ireturn, 1) := by decide +kernel
theorem dX3_shelf_66 : decode cX3_shelf 66 = .ok (.aload_n 0, 1) := by decide +kernel
theorem dX3_shelf_67 : decode cX3_shelf 67 = .ok (.iload_n 1, 1) := by decide +kernel
theorem dX3_shelf_68 : decode cX3_shelf 68 = .ok (.aload_n 0, 1) := by decide +kernel
theorem dX3_shelf_69 : decode cX3_shelf 69 = .ok (.getfield 34, 3) := by decide +kernel
theorem dX3_shelf_72 : decode cX3_shelf 72 = .ok (.iload_n 3, 1) := by decide +kernel
theorem dX3_shelf_73 : decode cX3_shelf 73 = .ok (.iaload, 1) := by decide +kernel
theorem dX3_shelf_74 : decode cX3_shelf 74 = .ok (.iconst (-1), 1) := by decide +kernel
theorem dX3_shelf_75 : decode cX3_shelf 75 = .ok (.if_icmp .ne 7, 3) := by decide +kernel
theorem dX3_shelf_78 : decode cX3_shelf 78 = .ok (.iconst 2, 1) := by decide +kernel
theorem dX3_shelf_79 : decode cX3_shelf 79 = .ok (.goto 4, 3) := by decide +kernel
theorem dX3_shelf_82 : decode cX3_shelf 82 = .ok (.iconst 1, 1) := by decide +kernel
theorem dX3_shelf_83 : decode cX3_shelf 83 = .ok (.aload_n 0, 1) := by decide +kernel
theorem dX3_shelf_84 : decode cX3_shelf 84 = .ok (.getfield 38, 3) := by decide +kernel
theorem dX3_shelf_87 : decode cX3_shelf 87 = .ok (.iload_n 3, 1) := by decide +kernel
theorem dX3_shelf_88 : decode cX3_shelf 88 = .ok (.iaload, 1) := by decide +kernel
theorem dX3_shelf_89 : decode cX3_shelf 89 = .ok (.aload_n 0, 1) := by decide +kernel
theorem dX3_shelf_90 : decode cX3_shelf 90 = .ok (.getfield 34, 3) := by decide +kernel
theorem dX3_shelf_93 : decode cX3_shelf 93 = .ok (.iload_n 3, 1) := by decide +kernel
theorem dX3_shelf_94 : decode cX3_shelf 94 = .ok (.iaload, 1) := by decide +kernel
theorem dX3_shelf_95 : decode cX3_shelf 95 = .ok (.invokevirtual 258, 3) := by decide +kernel
theorem dX3_shelf_98 : decode cX3_shelf 98 = .ok (.ireturn, 1) := by decide +kernel
theorem dX3_shelf_99 : decode cX3_shelf 99 = .ok (.aload_n 0, 1) := by decide +kernel
theorem dX3_shelf_100 : decode cX3_shelf 100 = .ok (.iload_n 1, 1) := by decide +kernel
theorem dX3_shelf_101 : decode cX3_shelf 101 = .ok (.iconst 2, 1) := by decide +kernel
theorem dX3_shelf_102 : decode cX3_shelf 102 = .ok (.iconst 0, 1) := by decide +kernel
theorem dX3_shelf_103 : decode cX3_shelf 103 = .ok (.iconst (-1), 1) := by decide +kernel
theorem dX3_shelf_104 : decode cX3_shelf 104 = .ok (.invokevirtual 258, 3) := by decide +kernel
theorem dX3_shelf_107 : decode cX3_shelf 107 = .ok (.ireturn, 1) := by decide +kernel
theorem dX3_shelf_108 : decode cX3_shelf 108 = .ok (.iconst (-1), 1) := by decide +kernel
theorem dX3_shelf_109 : decode cX3_shelf 109 = .ok (.ireturn, 1) := by decide +kernel
theorem dX3_taken_0 : decode cX3_taken 0 = .ok (.iload_n 1, 1) := by decide +kernel
theorem dX3_taken_1 : decode cX3_taken 1 = .ok (.invokestatic 255, 3) := by decide +kernel
theorem dX3_taken_4 : decode cX3_taken 4 = .ok (.ifCond .eq 22, 3) := by decide +kernel
theorem dX3_taken_7 : decode cX3_taken 7 = .ok (.iload_n 2, 1) := by decide +kernel
theorem dX3_taken_8 : decode cX3_taken 8 = .ok (.invokestatic 104, 3) := by decide +kernel
theorem dX3_taken_11 : decode cX3_taken 11 = .ok (.ifCond .ne 17, 3) := by decide +kernel
theorem dX3_taken_14 : decode cX3_taken 14 = .ok (.iload_n 2, 1) := by decide +kernel
theorem dX3_taken_15 : decode cX3_taken 15 = .ok (.bipush 10, 2) := by decide +kernel
theorem dX3_taken_17 : decode cX3_taken 17 = .ok (.if_icmp .lt 9, 3) := by decide +kernel
theorem dX3_taken_20 : decode cX3_taken 20 = .ok (.iload_n 2, 1) := by decide +kernel
theorem dX3_taken_21 : decode cX3_taken 21 = .ok (.bipush 14, 2) := by decide +kernel
theorem dX3_taken_23 : decode cX3_taken 23 = .ok (.if_icmp .lt 5, 3) := by decide +kernel
theorem dX3_taken_26 : decode cX3_taken 26 = .ok (.iconst (-1), 1) := by decide +kernel
theorem dX3_taken_27 : decode cX3_taken 27 = .ok (.ireturn, 1) := by decide +kernel
theorem dX3_taken_28 : decode cX3_taken 28 = .ok (.aload_n 0, 1) := by decide +kernel
theorem dX3_taken_29 : decode cX3_taken 29 = .ok (.iload_n 1, 1) := by decide +kernel
theorem dX3_taken_30 : decode cX3_taken 30 = .ok (.invokevirtual 261, 3) := by decide +kernel
theorem dX3_taken_33 : decode cX3_taken 33 = .ok (.ifCond .eq 28, 3) := by decide +kernel
theorem dX3_taken_36 : decode cX3_taken 36 = .ok (.aload_n 0, 1) := by decide +kernel
theorem dX3_taken_37 : decode cX3_taken 37 = .ok (.getfield 52, 3) := by decide +kernel
theorem dX3_taken_40 : decode cX3_taken 40 = .ok (.iload_n 1, 1) := by decide +kernel
theorem dX3_taken_41 : decode cX3_taken 41 = .ok (.iaload, 1) := by decide +kernel
theorem dX3_taken_42 : decode cX3_taken 42 = .ok (.iload_n 2, 1) := by decide +kernel
theorem dX3_taken_43 : decode cX3_taken 43 = .ok (.bipush 10, 2) := by decide +kernel
theorem dX3_taken_45 : decode cX3_taken 45 = .ok (.isub, 1) := by decide +kernel
theorem dX3_taken_46 : decode cX3_taken 46 = .ok (.if_icmp .ne 12, 3) := by decide +kernel
theorem dX3_taken_49 : decode cX3_taken 49 = .ok (.aload_n 0, 1) := by decide +kernel
theorem dX3_taken_50 : decode cX3_taken 50 = .ok (.getfield 49, 3) := by decide +kernel
theorem dX3_taken_53 : decode cX3_taken 53 = .ok (.iload_n 1, 1) := by decide +kernel
theorem dX3_taken_54 : decode cX3_taken 54 = .ok (.iaload, 1) := by decide +kernel
theorem dX3_taken_55 : decode cX3_taken 55 = .ok (.goto 5, 3) := by decide +kernel
theorem dX3_taken_58 : decode cX3_taken 58 = .ok (.bipush (-13), 2) := by decide +kernel
theorem dX3_taken_60 : decode cX3_taken 60 = .ok (.ireturn, 1) := by decide +kernel
theorem dX3_taken_61 : decode cX3_taken 61 = .ok (.aload_n 0, 1) := by decide +kernel
theorem dX3_taken_62 : decode cX3_taken 62 = .ok (.iload_n 1, 1) := by decide +kernel
theorem dX3_taken_63 : decode cX3_taken 63 = .ok (.invokevirtual 264, 3) := by decide +kernel
theorem dX3_taken_66 : decode cX3_taken 66 = .ok (.ifCond .ne 6, 3) := by decide +kernel
theorem dX3_taken_69 : decode cX3_taken 69 = .ok (.bipush (-11), 2) := by decide +kernel
theorem dX3_taken_71 : decode cX3_taken 71 = .ok (.ireturn, 1) := by decide +kernel
theorem dX3_taken_72 : decode cX3_taken 72 = .ok (.aload_n 0, 1) := by decide +kernel
theorem dX3_taken_73 : decode cX3_taken 73 = .ok (.getfield 49, 3) := by decide +kernel
theorem dX3_taken_76 : decode cX3_taken 76 = .ok (.iload_n 1, 1) := by decide +kernel
theorem dX3_taken_77 : decode cX3_taken 77 = .ok (.iaload, 1) := by decide +kernel
theorem dX3_taken_78 : decode cX3_taken 78 = .ok (.istore_n 3, 1) := by decide +kernel
theorem dX3_taken_79 : decode cX3_taken 79 = .ok (.iload_n 2, 1) := by decide +kernel
theorem dX3_taken_80 : decode cX3_taken 80 = .ok (.invokestatic 104, 3) := by decide +kernel
theorem dX3_taken_83 : decode cX3_taken 83 = .ok (.ifCond .eq 23, 3) := by decide +kernel
theorem dX3_taken_86 : decode cX3_taken 86 = .ok (.aload_n 0, 1) := by decide +kernel
theorem dX3_taken_87 : decode cX3_taken 87 = .ok (.getfield 10, 3) := by decide +kernel
theorem dX3_taken_90 : decode cX3_taken 90 = .ok (.getfield 117, 3) := by decide +kernel
theorem dX3_taken_93 : decode cX3_taken 93 = .ok (.iload_n 3, 1) := by decide +kernel
theorem dX3_taken_94 : decode cX3_taken 94 = .ok (.iaload, 1) := by decide +kernel
theorem dX3_taken_95 : decode cX3_taken 95 = .ok (.iload_n 2, 1) := by decide +kernel
theorem dX3_taken_96 : decode cX3_taken 96 = .ok (.invokestatic 267, 3) := by decide +kernel
theorem dX3_taken_99 : decode cX3_taken 99 = .ok (.ifCond .eq 7, 3) := by decide +kernel
theorem dX3_taken_102 : decode cX3_taken 102 = .ok (.iload_n 3, 1) := by decide +kernel
theorem dX3_taken_103 : decode cX3_taken 103 = .ok (.goto 5, 3) := by decide +kernel
theorem dX3_taken_106 : decode cX3_taken 106 = .ok (.bipush (-13), 2) := by decide +kernel
theorem dX3_taken_108 : decode cX3_taken 108 = .ok (.ireturn, 1) := by decide +kernel
theorem dX3_act_0 : decode cX3_act 0 = .ok (.aload_n 0, 1) := by decide +kernel
theorem dX3_act_1 : decode cX3_act 1 = .ok (.getfield 58, 3) := by decide +kernel
theorem dX3_act_4 : decode cX3_act 4 = .ok (.invokevirtual 270, 3) := by decide +kernel
theorem dX3_act_7 : decode cX3_act 7 = .ok (.iload_n 1, 1) := by decide +kernel
theorem dX3_act_8 : decode cX3_act 8 = .ok (.invokestatic 255, 3) := by decide +kernel
theorem dX3_act_11 : decode cX3_act 11 = .ok (.ifCond .eq 19, 3) := by decide +kernel
theorem dX3_act_14 : decode cX3_act 14 = .ok (.iload_n 2, 1) := by decide +kernel
theorem dX3_act_15 : decode cX3_act 15 = .ok (.iconst 3, 1) := by decide +kernel
theorem dX3_act_16 : decode cX3_act 16 = .ok (.invokestatic 97, 3) := by decide +kernel
theorem dX3_act_19 : decode cX3_act 19 = .ok (.ifCond .eq 11, 3) := by decide +kernel
theorem dX3_act_22 : decode cX3_act 22 = .ok (.aload_n 0, 1) := by decide +kernel
theorem dX3_act_23 : decode cX3_act 23 = .ok (.iload_n 1, 1) := by decide +kernel
theorem dX3_act_24 : decode cX3_act 24 = .ok (.invokevirtual 264, 3) := by decide +kernel
theorem dX3_act_27 : decode cX3_act 27 = .ok (.ifCond .ne 5, 3) := by decide +kernel
theorem dX3_act_30 : decode cX3_act 30 = .ok (.iconst 0, 1) := by decide +kernel
theorem dX3_act_31 : decode cX3_act 31 = .ok (.ireturn, 1) := by decide +kernel
theorem dX3_act_32 : decode cX3_act 32 = .ok (.aload_n 0, 1) := by decide +kernel
theorem dX3_act_33 : decode cX3_act 33 = .ok (.getfield 49, 3) := by decide +kernel
theorem dX3_act_36 : decode cX3_act 36 = .ok (.iload_n 1, 1) := by decide +kernel
theorem dX3_act_37 : decode cX3_act 37 = .ok (.iaload, 1) := by decide +kernel
theorem dX3_act_38 : decode cX3_act 38 = .ok (.istore 4, 2) := by decide +kernel
theorem dX3_act_40 : decode cX3_act 40 = .ok (.aload_n 0, 1) := by decide +kernel
theorem dX3_act_41 : decode cX3_act 41 = .ok (.getfield 58, 3) := by decide +kernel
theorem dX3_act_44 : decode cX3_act 44 = .ok (.iload 4, 2) := by decide +kernel
theorem dX3_act_46 : decode cX3_act 46 = .ok (.aload_n 0, 1) := by decide +kernel
theorem dX3_act_47 : decode cX3_act 47 = .ok (.getfield 10, 3) := by decide +kernel
theorem dX3_act_50 : decode cX3_act 50 = .ok (.getfield 117, 3) := by decide +kernel
theorem dX3_act_53 : decode cX3_act 53 = .ok (.iload 4, 2) := by decide +kernel
theorem dX3_act_55 : decode cX3_act 55 = .ok (.iaload, 1) := by decide +kernel
theorem dX3_act_56 : decode cX3_act 56 = .ok (.aload_n 0, 1) := by decide +kernel
theorem dX3_act_57 : decode cX3_act 57 = .ok (.getfield 10, 3) := by decide +kernel
theorem dX3_act_60 : decode cX3_act 60 = .ok (.getfield 120, 3) := by decide +kernel
theorem dX3_act_63 : decode cX3_act 63 = .ok (.iload 4, 2) := by decide +kernel
theorem dX3_act_65 : decode cX3_act 65 = .ok (.iaload, 1) := by decide +kernel
theorem dX3_act_66 : decode cX3_act 66 = .ok (.iload_n 2, 1) := by decide +kernel
theorem dX3_act_67 : decode cX3_act 67 = .ok (.iload_n 3, 1) := by decide +kernel
theorem dX3_act_68 : decode cX3_act 68 = .ok (.invokevirtual 273, 3) := by decide +kernel
theorem dX3_act_71 : decode cX3_act 71 = .ok (.ireturn, 1) := by decide +kernel
theorem dX3_trace_0 : decode cX3_trace 0 = .ok (.iload_n 1, 1) := by decide +kernel
theorem dX3_trace_1 : decode cX3_trace 1 = .ok (.ifCond .lt 26, 3) := by decide +kernel
theorem dX3_trace_4 : decode cX3_trace 4 = .ok (.iload_n 1, 1) := by decide +kernel
theorem dX3_trace_5 : decode cX3_trace 5 = .ok (.aload_n 0, 1) := by decide +kernel
theorem dX3_trace_6 : decode cX3_trace 6 = .ok (.getfield 58, 3) := by decide +kernel
theorem dX3_trace_9 : decode cX3_trace 9 = .ok (.getfield 277, 3) := by decide +kernel
theorem dX3_trace_12 : decode cX3_trace 12 = .ok (.if_icmp .ge 15, 3) := by decide +kernel
theorem dX3_trace_15 : decode cX3_trace 15 = .ok (.aload_n 0, 1) := by decide +kernel
theorem dX3_trace_16 : decode cX3_trace 16 = .ok (.getfield 58, 3) := by decide +kernel
theorem dX3_trace_19 : decode cX3_trace 19 = .ok (.getfield 278, 3) := by decide +kernel
theorem dX3_trace_22 : decode cX3_trace 22 = .ok (.iload_n 1, 1) := by decide +kernel
theorem dX3_trace_23 : decode cX3_trace 23 = .ok (.iaload, 1) := by decide +kernel
theorem dX3_trace_24 : decode cX3_trace 24 = .ok (.goto 5, 3) := by decide +kernel
theorem dX3_trace_27 : decode cX3_trace 27 = .ok (.bipush (-3), 2) := by decide +kernel
theorem dX3_trace_29 : decode cX3_trace 29 = .ok (.ireturn, 1) := by decide +kernel
theorem dX3_many_0 : decode cX3_many 0 = .ok (.iload_n 1, 1) := by decide +kernel
theorem dX3_many_1 : decode cX3_many 1 = .ok (.tableswitch 105 0 6 #[43, 51, 62, 73, 84, 89, 97], 43) := by decide +kernel
theorem dX3_many_44 : decode cX3_many 44 = .ok (.aload_n 0, 1) := by decide +kernel
theorem dX3_many_45 : decode cX3_many 45 = .ok (.getfield 10, 3) := by decide +kernel
theorem dX3_many_48 : decode cX3_many 48 = .ok (.getfield 87, 3) := by decide +kernel
theorem dX3_many_51 : decode cX3_many 51 = .ok (.ireturn, 1) := by decide +kernel
theorem dX3_many_52 : decode cX3_many 52 = .ok (.aload_n 0, 1) := by decide +kernel
theorem dX3_many_53 : decode cX3_many 53 = .ok (.getfield 10, 3) := by decide +kernel
theorem dX3_many_56 : decode cX3_many 56 = .ok (.invokevirtual 167, 3) := by decide +kernel
theorem dX3_many_59 : decode cX3_many 59 = .ok (.invokestatic 183, 3) := by decide +kernel
theorem dX3_many_62 : decode cX3_many 62 = .ok (.ireturn, 1) := by decide +kernel
theorem dX3_many_63 : decode cX3_many 63 = .ok (.aload_n 0, 1) := by decide +kernel
theorem dX3_many_64 : decode cX3_many 64 = .ok (.getfield 10, 3) := by decide +kernel
theorem dX3_many_67 : decode cX3_many 67 = .ok (.invokevirtual 192, 3) := by decide +kernel
theorem dX3_many_70 : decode cX3_many 70 = .ok (.invokestatic 196, 3) := by decide +kernel
theorem dX3_many_73 : decode cX3_many 73 = .ok (.ireturn, 1) := by decide +kernel
theorem dX3_many_74 : decode cX3_many 74 = .ok (.aload_n 0, 1) := by decide +kernel
theorem dX3_many_75 : decode cX3_many 75 = .ok (.getfield 10, 3) := by decide +kernel
theorem dX3_many_78 : decode cX3_many 78 = .ok (.invokevirtual 174, 3) := by decide +kernel
theorem dX3_many_81 : decode cX3_many 81 = .ok (.invokestatic 183, 3) := by decide +kernel
theorem dX3_many_84 : decode cX3_many 84 = .ok (.ireturn, 1) := by decide +kernel
theorem dX3_many_85 : decode cX3_many 85 = .ok (.aload_n 0, 1) := by decide +kernel
theorem dX3_many_86 : decode cX3_many 86 = .ok (.getfield 84, 3) := by decide +kernel
theorem dX3_many_89 : decode cX3_many 89 = .ok (.ireturn, 1) := by decide +kernel
theorem dX3_many_90 : decode cX3_many 90 = .ok (.aload_n 0, 1) := by decide +kernel
theorem dX3_many_91 : decode cX3_many 91 = .ok (.getfield 25, 3) := by decide +kernel
theorem dX3_many_94 : decode cX3_many 94 = .ok (.getfield 66, 3) := by decide +kernel
theorem dX3_many_97 : decode cX3_many 97 = .ok (.ireturn, 1) := by decide +kernel
theorem dX3_many_98 : decode cX3_many 98 = .ok (.aload_n 0, 1) := by decide +kernel
theorem dX3_many_99 : decode cX3_many 99 = .ok (.getfield 58, 3) := by decide +kernel
theorem dX3_many_102 : decode cX3_many 102 = .ok (.getfield 277, 3) := by decide +kernel
theorem dX3_many_105 : decode cX3_many 105 = .ok (.ireturn, 1) := by decide +kernel
theorem dX3_many_106 : decode cX3_many 106 = .ok (.iconst (-1), 1) := by decide +kernel
theorem dX3_many_107 : decode cX3_many 107 = .ok (.ireturn, 1) := by decide +kernel
theorem dX3_keep_0 : decode cX3_keep 0 = .ok (.aload_n 0, 1) := by decide +kernel
theorem dX3_keep_1 : decode cX3_keep 1 = .ok (.getfield 19, 3) := by decide +kernel
theorem dX3_keep_4 : decode cX3_keep 4 = .ok (.aload_n 0, 1) := by decide +kernel
theorem dX3_keep_5 : decode cX3_keep 5 = .ok (.getfield 10, 3) := by decide +kernel
theorem dX3_keep_8 : decode cX3_keep 8 = .ok (.invokevirtual 80, 3) := by decide +kernel
theorem dX3_keep_11 : decode cX3_keep 11 = .ok (.aload_n 0, 1) := by decide +kernel
theorem dX3_keep_12 : decode cX3_keep 12 = .ok (.iconst 1, 1) := by decide +kernel
theorem dX3_keep_13 : decode cX3_keep 13 = .ok (.putfield 281, 3) := by decide +kernel
theorem dX3_keep_16 : decode cX3_keep 16 = .ok (.iconst 1, 1) := by decide +kernel
theorem dX3_keep_17 : decode cX3_keep 17 = .ok (.ireturn, 1) := by decide +kernel
theorem dX3_again_0 : decode cX3_again 0 = .ok (.aload_n 0, 1) := by decide +kernel
theorem dX3_again_1 : decode cX3_again 1 = .ok (.getfield 281, 3) := by decide +kernel
theorem dX3_again_4 : decode cX3_again 4 = .ok (.ifCond .ne 6, 3) := by decide +kernel
theorem dX3_again_7 : decode cX3_again 7 = .ok (.bipush (-3), 2) := by decide +kernel
theorem dX3_again_9 : decode cX3_again 9 = .ok (.ireturn, 1) := by decide +kernel
theorem dX3_again_10 : decode cX3_again 10 = .ok (.aload_n 0, 1) := by decide +kernel
theorem dX3_again_11 : decode cX3_again 11 = .ok (.getfield 10, 3) := by decide +kernel
theorem dX3_again_14 : decode cX3_again 14 = .ok (.aload_n 0, 1) := by decide +kernel
theorem dX3_again_15 : decode cX3_again 15 = .ok (.getfield 19, 3) := by decide +kernel
theorem dX3_again_18 : decode cX3_again 18 = .ok (.invokevirtual 80, 3) := by decide +kernel
theorem dX3_again_21 : decode cX3_again 21 = .ok (.aload_n 0, 1) := by decide +kernel
theorem dX3_again_22 : decode cX3_again 22 = .ok (.getfield 10, 3) := by decide +kernel
theorem dX3_again_25 : decode cX3_again 25 = .ok (.getfield 87, 3) := by decide +kernel
theorem dX3_again_28 : decode cX3_again 28 = .ok (.ireturn, 1) := by decide +kernel
theorem dX3_levelWithout_0 : decode cX3_levelWithout 0 = .ok (.aload_n 0, 1) := by decide +kernel
theorem dX3_levelWithout_1 : decode cX3_levelWithout 1 = .ok (.getfield 16, 3) := by decide +kernel
theorem dX3_levelWithout_4 : decode cX3_levelWithout 4 = .ok (.aload_n 0, 1) := by decide +kernel
theorem dX3_levelWithout_5 : decode cX3_levelWithout 5 = .ok (.getfield 10, 3) := by decide +kernel
theorem dX3_levelWithout_8 : decode cX3_levelWithout 8 = .ok (.invokevirtual 80, 3) := by decide +kernel
theorem dX3_levelWithout_11 : decode cX3_levelWithout 11 = .ok (.aload_n 0, 1) := by decide +kernel
theorem dX3_levelWithout_12 : decode cX3_levelWithout 12 = .ok (.getfield 16, 3) := by decide +kernel
theorem dX3_levelWithout_15 : decode cX3_levelWithout 15 = .ok (.iload_n 1, 1) := by decide +kernel
theorem dX3_levelWithout_16 : decode cX3_levelWithout 16 = .ok (.putfield 285, 3) := by decide +kernel
theorem dX3_levelWithout_19 : decode cX3_levelWithout 19 = .ok (.aload_n 0, 1) := by decide +kernel
theorem dX3_levelWithout_20 : decode cX3_levelWithout 20 = .ok (.getfield 16, 3) := by decide +kernel
theorem dX3_levelWithout_23 : decode cX3_levelWithout 23 = .ok (.iload_n 3, 1) := by decide +kernel
theorem dX3_levelWithout_24 : decode cX3_levelWithout 24 = .ok (.invokevirtual 179, 3) := by decide +kernel
theorem dX3_levelWithout_27 : decode cX3_levelWithout 27 = .ok (.aload_n 0, 1) := by decide +kernel
theorem dX3_levelWithout_28 : decode cX3_levelWithout 28 = .ok (.getfield 16, 3) := by decide +kernel
theorem dX3_levelWithout_31 : decode cX3_levelWithout 31 = .ok (.getfield 145, 3) := by decide +kernel
theorem dX3_levelWithout_34 : decode cX3_levelWithout 34 = .ok (.iload_n 2, 1) := by decide +kernel
theorem dX3_levelWithout_35 : decode cX3_levelWithout 35 = .ok (.iaload, 1) := by decide +kernel
theorem dX3_levelWithout_36 : decode cX3_levelWithout 36 = .ok (.ireturn, 1) := by decide +kernel
theorem dX3_fitsWith_0 : decode cX3_fitsWith 0 = .ok (.aload_n 0, 1) := by decide +kernel
theorem dX3_fitsWith_1 : decode cX3_fitsWith 1 = .ok (.getfield 16, 3) := by decide +kernel
theorem dX3_fitsWith_4 : decode cX3_fitsWith 4 = .ok (.aload_n 0, 1) := by decide +kernel
theorem dX3_fitsWith_5 : decode cX3_fitsWith 5 = .ok (.getfield 10, 3) := by decide +kernel
theorem dX3_fitsWith_8 : decode cX3_fitsWith 8 = .ok (.invokevirtual 80, 3) := by decide +kernel
theorem dX3_fitsWith_11 : decode cX3_fitsWith 11 = .ok (.aload_n 0, 1) := by decide +kernel
theorem dX3_fitsWith_12 : decode cX3_fitsWith 12 = .ok (.getfield 16, 3) := by decide +kernel
theorem dX3_fitsWith_15 : decode cX3_fitsWith 15 = .ok (.getfield 123, 3) := by decide +kernel
theorem dX3_fitsWith_18 : decode cX3_fitsWith 18 = .ok (.iload_n 2, 1) := by decide +kernel
theorem dX3_fitsWith_19 : decode cX3_fitsWith 19 = .ok (.iload_n 1, 1) := by decide +kernel
theorem dX3_fitsWith_20 : decode cX3_fitsWith 20 = .ok (.iastore, 1) := by decide +kernel
theorem dX3_fitsWith_21 : decode cX3_fitsWith 21 = .ok (.iconst 0, 1) := by decide +kernel
theorem dX3_fitsWith_22 : decode cX3_fitsWith 22 = .ok (.istore 5, 2) := by decide +kernel
theorem dX3_fitsWith_24 : decode cX3_fitsWith 24 = .ok (.iload 5, 2) := by decide +kernel
theorem dX3_fitsWith_26 : decode cX3_fitsWith 26 = .ok (.aload_n 0, 1) := by decide +kernel
theorem dX3_fitsWith_27 : decode cX3_fitsWith 27 = .ok (.getfield 38, 3) := by decide +kernel
theorem dX3_fitsWith_30 : decode cX3_fitsWith 30 = .ok (.iload 4, 2) := by decide +kernel
theorem dX3_fitsWith_32 : decode cX3_fitsWith 32 = .ok (.iaload, 1) := by decide +kernel
theorem dX3_fitsWith_33 : decode cX3_fitsWith 33 = .ok (.if_icmp .ge 55, 3) := by decide +kernel
theorem dX3_fitsWith_36 : decode cX3_fitsWith 36 = .ok (.aload_n 0, 1) := by decide +kernel
theorem dX3_fitsWith_37 : decode cX3_fitsWith 37 = .ok (.getfield 16, 3) := by decide +kernel
theorem dX3_fitsWith_40 : decode cX3_fitsWith 40 = .ok (.invokevirtual 215, 3) := by decide +kernel
theorem dX3_fitsWith_43 : decode cX3_fitsWith 43 = .ok (.aload_n 0, 1) := by decide +kernel
theorem dX3_fitsWith_44 : decode cX3_fitsWith 44 = .ok (.getfield 43, 3) := by decide +kernel
theorem dX3_fitsWith_47 : decode cX3_fitsWith 47 = .ok (.iload 4, 2) := by decide +kernel
theorem dX3_fitsWith_49 : decode cX3_fitsWith 49 = .ok (.aaload, 1) := by decide +kernel
theorem dX3_fitsWith_50 : decode cX3_fitsWith 50 = .ok (.iload 5, 2) := by decide +kernel
theorem dX3_fitsWith_52 : decode cX3_fitsWith 52 = .ok (.laload, 1) := by decide +kernel
theorem dX3_fitsWith_53 : decode cX3_fitsWith 53 = .ok (.lstore 6, 2) := by decide +kernel
theorem dX3_fitsWith_55 : decode cX3_fitsWith 55 = .ok (.lload 6, 2) := by decide +kernel
theorem dX3_fitsWith_57 : decode cX3_fitsWith 57 = .ok (.ldc2_w 177, 3) := by decide +kernel
theorem dX3_fitsWith_60 : decode cX3_fitsWith 60 = .ok (.lcmp, 1) := by decide +kernel
theorem dX3_fitsWith_61 : decode cX3_fitsWith 61 = .ok (.ifCond .eq 21, 3) := by decide +kernel
theorem dX3_fitsWith_64 : decode cX3_fitsWith 64 = .ok (.lload 6, 2) := by decide +kernel
theorem dX3_fitsWith_66 : decode cX3_fitsWith 66 = .ok (.aload_n 0, 1) := by decide +kernel
theorem dX3_fitsWith_67 : decode cX3_fitsWith 67 = .ok (.getfield 16, 3) := by decide +kernel
theorem dX3_fitsWith_70 : decode cX3_fitsWith 70 = .ok (.getfield 145, 3) := by decide +kernel
theorem dX3_fitsWith_73 : decode cX3_fitsWith 73 = .ok (.iload_n 3, 1) := by decide +kernel
theorem dX3_fitsWith_74 : decode cX3_fitsWith 74 = .ok (.iaload, 1) := by decide +kernel
theorem dX3_fitsWith_75 : decode cX3_fitsWith 75 = .ok (.i2l, 1) := by decide +kernel
theorem dX3_fitsWith_76 : decode cX3_fitsWith 76 = .ok (.lcmp, 1) := by decide +kernel
theorem dX3_fitsWith_77 : decode cX3_fitsWith 77 = .ok (.ifCond .eq 5, 3) := by decide +kernel
theorem dX3_fitsWith_80 : decode cX3_fitsWith 80 = .ok (.iconst 0, 1) := by decide +kernel
theorem dX3_fitsWith_81 : decode cX3_fitsWith 81 = .ok (.ireturn, 1) := by decide +kernel
theorem dX3_fitsWith_82 : decode cX3_fitsWith 82 = .ok (.iinc 5 1, 3) := by decide +kernel
theorem dX3_fitsWith_85 : decode cX3_fitsWith 85 = .ok (.goto (-61), 3) := by decide +kernel
theorem dX3_fitsWith_88 : decode cX3_fitsWith 88 = .ok (.iconst 1, 1) := by decide +kernel
theorem dX3_fitsWith_89 : decode cX3_fitsWith 89 = .ok (.ireturn, 1) := by decide +kernel
theorem dX3_shelve_0 : decode cX3_shelve 0 = .ok (.aload_n 0, 1) := by decide +kernel
theorem dX3_shelve_1 : decode cX3_shelve 1 = .ok (.getfield 46, 3) := by decide +kernel
theorem dX3_shelve_4 : decode cX3_shelve 4 = .ok (.iload_n 1, 1) := by decide +kernel
theorem dX3_shelve_5 : decode cX3_shelve 5 = .ok (.iload_n 2, 1) := by decide +kernel
theorem dX3_shelve_6 : decode cX3_shelve 6 = .ok (.iastore, 1) := by decide +kernel
theorem dX3_shelve_7 : decode cX3_shelve 7 = .ok (.aload_n 0, 1) := by decide +kernel
theorem dX3_shelve_8 : decode cX3_shelve 8 = .ok (.getfield 49, 3) := by decide +kernel
theorem dX3_shelve_11 : decode cX3_shelve 11 = .ok (.iload_n 1, 1) := by decide +kernel
theorem dX3_shelve_12 : decode cX3_shelve 12 = .ok (.iload_n 3, 1) := by decide +kernel
theorem dX3_shelve_13 : decode cX3_shelve 13 = .ok (.iastore, 1) := by decide +kernel
theorem dX3_shelve_14 : decode cX3_shelve 14 = .ok (.aload_n 0, 1) := by decide +kernel
theorem dX3_shelve_15 : decode cX3_shelve 15 = .ok (.getfield 52, 3) := by decide +kernel
theorem dX3_shelve_18 : decode cX3_shelve 18 = .ok (.iload_n 1, 1) := by decide +kernel
theorem dX3_shelve_19 : decode cX3_shelve 19 = .ok (.iload 4, 2) := by decide +kernel
theorem dX3_shelve_21 : decode cX3_shelve 21 = .ok (.iastore, 1) := by decide +kernel
theorem dX3_shelve_22 : decode cX3_shelve 22 = .ok (.iconst 1, 1) := by decide +kernel
theorem dX3_shelve_23 : decode cX3_shelve 23 = .ok (.ireturn, 1) := by decide +kernel
theorem dX3_holdsRow_0 : decode cX3_holdsRow 0 = .ok (.aload_n 0, 1) := by decide +kernel
theorem dX3_holdsRow_1 : decode cX3_holdsRow 1 = .ok (.getfield 46, 3) := by decide +kernel
theorem dX3_holdsRow_4 : decode cX3_holdsRow 4 = .ok (.iload_n 1, 1) := by decide +kernel
theorem dX3_holdsRow_5 : decode cX3_holdsRow 5 = .ok (.iaload, 1) := by decide +kernel
theorem dX3_holdsRow_6 : decode cX3_holdsRow 6 = .ok (.iconst 1, 1) := by decide +kernel
theorem dX3_holdsRow_7 : decode cX3_holdsRow 7 = .ok (.if_icmp .ne 7, 3) := by decide +kernel
theorem dX3_holdsRow_10 : decode cX3_holdsRow 10 = .ok (.iconst 1, 1) := by decide +kernel
theorem dX3_holdsRow_11 : decode cX3_holdsRow 11 = .ok (.goto 4, 3) := by decide +kernel
theorem dX3_holdsRow_14 : decode cX3_holdsRow 14 = .ok (.iconst 0, 1) := by decide +kernel
theorem dX3_holdsRow_15 : decode cX3_holdsRow 15 = .ok (.ireturn, 1) := by decide +kernel
theorem dX3_holdsPerson_0 : decode cX3_holdsPerson 0 = .ok (.aload_n 0, 1) := by decide +kernel
theorem dX3_holdsPerson_1 : decode cX3_holdsPerson 1 = .ok (.getfield 46, 3) := by decide +kernel
theorem dX3_holdsPerson_4 : decode cX3_holdsPerson 4 = .ok (.iload_n 1, 1) := by decide +kernel
theorem dX3_holdsPerson_5 : decode cX3_holdsPerson 5 = .ok (.iaload, 1) := by decide +kernel
theorem dX3_holdsPerson_6 : decode cX3_holdsPerson 6 = .ok (.ifCond .ne 20, 3) := by decide +kernel
theorem dX3_holdsPerson_9 : decode cX3_holdsPerson 9 = .ok (.aload_n 0, 1) := by decide +kernel
theorem dX3_holdsPerson_10 : decode cX3_holdsPerson 10 = .ok (.aload_n 0, 1) := by decide +kernel
theorem dX3_holdsPerson_11 : decode cX3_holdsPerson 11 = .ok (.getfield 49, 3) := by decide +kernel
theorem dX3_holdsPerson_14 : decode cX3_holdsPerson 14 = .ok (.iload_n 1, 1) := by decide +kernel
theorem dX3_holdsPerson_15 : decode cX3_holdsPerson 15 = .ok (.iaload, 1) := by decide +kernel
theorem dX3_holdsPerson_16 : decode cX3_holdsPerson 16 = .ok (.invokevirtual 114, 3) := by decide +kernel
theorem dX3_holdsPerson_19 : decode cX3_holdsPerson 19 = .ok (.ifCond .eq 7, 3) := by decide +kernel
theorem dX3_holdsPerson_22 : decode cX3_holdsPerson 22 = .ok (.iconst 1, 1) := by decide +kernel
theorem dX3_holdsPerson_23 : decode cX3_holdsPerson 23 = .ok (.goto 4, 3) := by decide +kernel
theorem dX3_holdsPerson_26 : decode cX3_holdsPerson 26 = .ok (.iconst 0, 1) := by decide +kernel
theorem dX3_holdsPerson_27 : decode cX3_holdsPerson 27 = .ok (.ireturn, 1) := by decide +kernel
theorem dX3_isPerson_0 : decode cX3_isPerson 0 = .ok (.iload_n 1, 1) := by decide +kernel
theorem dX3_isPerson_1 : decode cX3_isPerson 1 = .ok (.ifCond .lt 18, 3) := by decide +kernel
theorem dX3_isPerson_4 : decode cX3_isPerson 4 = .ok (.iload_n 1, 1) := by decide +kernel
theorem dX3_isPerson_5 : decode cX3_isPerson 5 = .ok (.aload_n 0, 1) := by decide +kernel
theorem dX3_isPerson_6 : decode cX3_isPerson 6 = .ok (.getfield 10, 3) := by decide +kernel
theorem dX3_isPerson_9 : decode cX3_isPerson 9 = .ok (.getfield 87, 3) := by decide +kernel
theorem dX3_isPerson_12 : decode cX3_isPerson 12 = .ok (.if_icmp .ge 7, 3) := by decide +kernel
theorem dX3_isPerson_15 : decode cX3_isPerson 15 = .ok (.iconst 1, 1) := by decide +kernel
theorem dX3_isPerson_16 : decode cX3_isPerson 16 = .ok (.goto 4, 3) := by decide +kernel
theorem dX3_isPerson_19 : decode cX3_isPerson 19 = .ok (.iconst 0, 1) := by decide +kernel
theorem dX3_isPerson_20 : decode cX3_isPerson 20 = .ok (.ireturn, 1) := by decide +kernel
theorem dX3_isRowPart_0 : decode cX3_isRowPart 0 = .ok (.iload_n 1, 1) := by decide +kernel
theorem dX3_isRowPart_1 : decode cX3_isRowPart 1 = .ok (.ifCond .lt 24, 3) := by decide +kernel
theorem dX3_isRowPart_4 : decode cX3_isRowPart 4 = .ok (.iload_n 1, 1) := by decide +kernel
theorem dX3_isRowPart_5 : decode cX3_isRowPart 5 = .ok (.aload_n 0, 1) := by decide +kernel
theorem dX3_isRowPart_6 : decode cX3_isRowPart 6 = .ok (.getfield 84, 3) := by decide +kernel
theorem dX3_isRowPart_9 : decode cX3_isRowPart 9 = .ok (.if_icmp .ge 16, 3) := by decide +kernel
theorem dX3_isRowPart_12 : decode cX3_isRowPart 12 = .ok (.iload_n 2, 1) := by decide +kernel
theorem dX3_isRowPart_13 : decode cX3_isRowPart 13 = .ok (.ifCond .lt 12, 3) := by decide +kernel
theorem dX3_isRowPart_16 : decode cX3_isRowPart 16 = .ok (.iload_n 2, 1) := by decide +kernel
theorem dX3_isRowPart_17 : decode cX3_isRowPart 17 = .ok (.iconst 3, 1) := by decide +kernel
theorem dX3_isRowPart_18 : decode cX3_isRowPart 18 = .ok (.if_icmp .ge 7, 3) := by decide +kernel
theorem dX3_isRowPart_21 : decode cX3_isRowPart 21 = .ok (.iconst 1, 1) := by decide +kernel
theorem dX3_isRowPart_22 : decode cX3_isRowPart 22 = .ok (.goto 4, 3) := by decide +kernel
theorem dX3_isRowPart_25 : decode cX3_isRowPart 25 = .ok (.iconst 0, 1) := by decide +kernel
theorem dX3_isRowPart_26 : decode cX3_isRowPart 26 = .ok (.ireturn, 1) := by decide +kernel
theorem dX3_isWithin_0 : decode cX3_isWithin 0 = .ok (.iload_n 0, 1) := by decide +kernel
theorem dX3_isWithin_1 : decode cX3_isWithin 1 = .ok (.ifCond .lt 12, 3) := by decide +kernel
theorem dX3_isWithin_4 : decode cX3_isWithin 4 = .ok (.iload_n 0, 1) := by decide +kernel
theorem dX3_isWithin_5 : decode cX3_isWithin 5 = .ok (.iload_n 1, 1) := by decide +kernel
theorem dX3_isWithin_6 : decode cX3_isWithin 6 = .ok (.if_icmp .gt 7, 3) := by decide +kernel
theorem dX3_isWithin_9 : decode cX3_isWithin 9 = .ok (.iconst 1, 1) := by decide +kernel
theorem dX3_isWithin_10 : decode cX3_isWithin 10 = .ok (.goto 4, 3) := by decide +kernel
theorem dX3_isWithin_13 : decode cX3_isWithin 13 = .ok (.iconst 0, 1) := by decide +kernel
theorem dX3_isWithin_14 : decode cX3_isWithin 14 = .ok (.ireturn, 1) := by decide +kernel
theorem dX3_isShortTime_0 : decode cX3_isShortTime 0 = .ok (.iload_n 0, 1) := by decide +kernel
theorem dX3_isShortTime_1 : decode cX3_isShortTime 1 = .ok (.iconst 1, 1) := by decide +kernel
theorem dX3_isShortTime_2 : decode cX3_isShortTime 2 = .ok (.if_icmp .lt 13, 3) := by decide +kernel
theorem dX3_isShortTime_5 : decode cX3_isShortTime 5 = .ok (.iload_n 0, 1) := by decide +kernel
theorem dX3_isShortTime_6 : decode cX3_isShortTime 6 = .ok (.bipush 20, 2) := by decide +kernel
theorem dX3_isShortTime_8 : decode cX3_isShortTime 8 = .ok (.if_icmp .gt 7, 3) := by decide +kernel
theorem dX3_isShortTime_11 : decode cX3_isShortTime 11 = .ok (.iconst 1, 1) := by decide +kernel
theorem dX3_isShortTime_12 : decode cX3_isShortTime 12 = .ok (.goto 4, 3) := by decide +kernel
theorem dX3_isShortTime_15 : decode cX3_isShortTime 15 = .ok (.iconst 0, 1) := by decide +kernel
theorem dX3_isShortTime_16 : decode cX3_isShortTime 16 = .ok (.ireturn, 1) := by decide +kernel
theorem dX3_isCell_0 : decode cX3_isCell 0 = .ok (.iload_n 0, 1) := by decide +kernel
theorem dX3_isCell_1 : decode cX3_isCell 1 = .ok (.ifCond .lt 13, 3) := by decide +kernel
theorem dX3_isCell_4 : decode cX3_isCell 4 = .ok (.iload_n 0, 1) := by decide +kernel
theorem dX3_isCell_5 : decode cX3_isCell 5 = .ok (.bipush 32, 2) := by decide +kernel
theorem dX3_isCell_7 : decode cX3_isCell 7 = .ok (.if_icmp .ge 7, 3) := by decide +kernel
theorem dX3_isCell_10 : decode cX3_isCell 10 = .ok (.iconst 1, 1) := by decide +kernel
theorem dX3_isCell_11 : decode cX3_isCell 11 = .ok (.goto 4, 3) := by decide +kernel
theorem dX3_isCell_14 : decode cX3_isCell 14 = .ok (.iconst 0, 1) := by decide +kernel
theorem dX3_isCell_15 : decode cX3_isCell 15 = .ok (.ireturn, 1) := by decide +kernel
theorem dX3_isKind_0 : decode cX3_isKind 0 = .ok (.iload_n 0, 1) := by decide +kernel
theorem dX3_isKind_1 : decode cX3_isKind 1 = .ok (.ifCond .lt 13, 3) := by decide +kernel
theorem dX3_isKind_4 : decode cX3_isKind 4 = .ok (.iload_n 0, 1) := by decide +kernel
theorem dX3_isKind_5 : decode cX3_isKind 5 = .ok (.bipush 6, 2) := by decide +kernel
theorem dX3_isKind_7 : decode cX3_isKind 7 = .ok (.if_icmp .ge 7, 3) := by decide +kernel
theorem dX3_isKind_10 : decode cX3_isKind 10 = .ok (.iconst 1, 1) := by decide +kernel
theorem dX3_isKind_11 : decode cX3_isKind 11 = .ok (.goto 4, 3) := by decide +kernel
theorem dX3_isKind_14 : decode cX3_isKind 14 = .ok (.iconst 0, 1) := by decide +kernel
theorem dX3_isKind_15 : decode cX3_isKind 15 = .ok (.ireturn, 1) := by decide +kernel
theorem dX3_isLaw_0 : decode cX3_isLaw 0 = .ok (.iload_n 0, 1) := by decide +kernel
theorem dX3_isLaw_1 : decode cX3_isLaw 1 = .ok (.ifCond .lt 12, 3) := by decide +kernel
theorem dX3_isLaw_4 : decode cX3_isLaw 4 = .ok (.iload_n 0, 1) := by decide +kernel
theorem dX3_isLaw_5 : decode cX3_isLaw 5 = .ok (.iconst 4, 1) := by decide +kernel
theorem dX3_isLaw_6 : decode cX3_isLaw 6 = .ok (.if_icmp .ge 7, 3) := by decide +kernel
theorem dX3_isLaw_9 : decode cX3_isLaw 9 = .ok (.iconst 1, 1) := by decide +kernel
theorem dX3_isLaw_10 : decode cX3_isLaw 10 = .ok (.goto 4, 3) := by decide +kernel
theorem dX3_isLaw_13 : decode cX3_isLaw 13 = .ok (.iconst 0, 1) := by decide +kernel
theorem dX3_isLaw_14 : decode cX3_isLaw 14 = .ok (.ireturn, 1) := by decide +kernel
theorem dX3_isSheet_0 : decode cX3_isSheet 0 = .ok (.iload_n 0, 1) := by decide +kernel
theorem dX3_isSheet_1 : decode cX3_isSheet 1 = .ok (.ifCond .lt 12, 3) := by decide +kernel
theorem dX3_isSheet_4 : decode cX3_isSheet 4 = .ok (.iload_n 0, 1) := by decide +kernel
theorem dX3_isSheet_5 : decode cX3_isSheet 5 = .ok (.iconst 4, 1) := by decide +kernel
theorem dX3_isSheet_6 : decode cX3_isSheet 6 = .ok (.if_icmp .ge 7, 3) := by decide +kernel
theorem dX3_isSheet_9 : decode cX3_isSheet 9 = .ok (.iconst 1, 1) := by decide +kernel
theorem dX3_isSheet_10 : decode cX3_isSheet 10 = .ok (.goto 4, 3) := by decide +kernel
theorem dX3_isSheet_13 : decode cX3_isSheet 13 = .ok (.iconst 0, 1) := by decide +kernel
theorem dX3_isSheet_14 : decode cX3_isSheet 14 = .ok (.ireturn, 1) := by decide +kernel
theorem dX3_isSort_0 : decode cX3_isSort 0 = .ok (.iload_n 0, 1) := by decide +kernel
theorem dX3_isSort_1 : decode cX3_isSort 1 = .ok (.ifCond .lt 12, 3) := by decide +kernel
theorem dX3_isSort_4 : decode cX3_isSort 4 = .ok (.iload_n 0, 1) := by decide +kernel
theorem dX3_isSort_5 : decode cX3_isSort 5 = .ok (.iconst 4, 1) := by decide +kernel
theorem dX3_isSort_6 : decode cX3_isSort 6 = .ok (.if_icmp .ge 7, 3) := by decide +kernel
theorem dX3_isSort_9 : decode cX3_isSort 9 = .ok (.iconst 1, 1) := by decide +kernel
theorem dX3_isSort_10 : decode cX3_isSort 10 = .ok (.goto 4, 3) := by decide +kernel
theorem dX3_isSort_13 : decode cX3_isSort 13 = .ok (.iconst 0, 1) := by decide +kernel
theorem dX3_isSort_14 : decode cX3_isSort 14 = .ok (.ireturn, 1) := by decide +kernel
theorem dX3_isShelf_0 : decode cX3_isShelf 0 = .ok (.iload_n 0, 1) := by decide +kernel
theorem dX3_isShelf_1 : decode cX3_isShelf 1 = .ok (.ifCond .lt 12, 3) := by decide +kernel
theorem dX3_isShelf_4 : decode cX3_isShelf 4 = .ok (.iload_n 0, 1) := by decide +kernel
theorem dX3_isShelf_5 : decode cX3_isShelf 5 = .ok (.iconst 4, 1) := by decide +kernel
theorem dX3_isShelf_6 : decode cX3_isShelf 6 = .ok (.if_icmp .ge 7, 3) := by decide +kernel
theorem dX3_isShelf_9 : decode cX3_isShelf 9 = .ok (.iconst 1, 1) := by decide +kernel
theorem dX3_isShelf_10 : decode cX3_isShelf 10 = .ok (.goto 4, 3) := by decide +kernel
theorem dX3_isShelf_13 : decode cX3_isShelf 13 = .ok (.iconst 0, 1) := by decide +kernel
theorem dX3_isShelf_14 : decode cX3_isShelf 14 = .ok (.ireturn, 1) := by decide +kernel
theorem dX3_isUnder_0 : decode cX3_isUnder 0 = .ok (.iload_n 0, 1) := by decide +kernel
theorem dX3_isUnder_1 : decode cX3_isUnder 1 = .ok (.istore_n 2, 1) := by decide +kernel
theorem dX3_isUnder_2 : decode cX3_isUnder 2 = .ok (.iconst 0, 1) := by decide +kernel
theorem dX3_isUnder_3 : decode cX3_isUnder 3 = .ok (.istore_n 3, 1) := by decide +kernel
theorem dX3_isUnder_4 : decode cX3_isUnder 4 = .ok (.iload_n 3, 1) := by decide +kernel
theorem dX3_isUnder_5 : decode cX3_isUnder 5 = .ok (.bipush 6, 2) := by decide +kernel
theorem dX3_isUnder_7 : decode cX3_isUnder 7 = .ok (.if_icmp .ge 24, 3) := by decide +kernel
theorem dX3_isUnder_10 : decode cX3_isUnder 10 = .ok (.iload_n 2, 1) := by decide +kernel
theorem dX3_isUnder_11 : decode cX3_isUnder 11 = .ok (.ifCond .lt 20, 3) := by decide +kernel
theorem dX3_isUnder_14 : decode cX3_isUnder 14 = .ok (.iload_n 2, 1) := by decide +kernel
theorem dX3_isUnder_15 : decode cX3_isUnder 15 = .ok (.iload_n 1, 1) := by decide +kernel
theorem dX3_isUnder_16 : decode cX3_isUnder 16 = .ok (.if_icmp .eq 15, 3) := by decide +kernel
theorem dX3_isUnder_19 : decode cX3_isUnder 19 = .ok (.getstatic 288, 3) := by decide +kernel
theorem dX3_isUnder_22 : decode cX3_isUnder 22 = .ok (.iload_n 2, 1) := by decide +kernel
theorem dX3_isUnder_23 : decode cX3_isUnder 23 = .ok (.iaload, 1) := by decide +kernel
theorem dX3_isUnder_24 : decode cX3_isUnder 24 = .ok (.istore_n 2, 1) := by decide +kernel
theorem dX3_isUnder_25 : decode cX3_isUnder 25 = .ok (.iinc 3 1, 3) := by decide +kernel
theorem dX3_isUnder_28 : decode cX3_isUnder 28 = .ok (.goto (-24), 3) := by decide +kernel
theorem dX3_isUnder_31 : decode cX3_isUnder 31 = .ok (.iload_n 2, 1) := by decide +kernel
theorem dX3_isUnder_32 : decode cX3_isUnder 32 = .ok (.iload_n 1, 1) := by decide +kernel
theorem dX3_isUnder_33 : decode cX3_isUnder 33 = .ok (.if_icmp .ne 7, 3) := by decide +kernel
theorem dX3_isUnder_36 : decode cX3_isUnder 36 = .ok (.iconst 1, 1) := by decide +kernel
theorem dX3_isUnder_37 : decode cX3_isUnder 37 = .ok (.goto 4, 3) := by decide +kernel
theorem dX3_isUnder_40 : decode cX3_isUnder 40 = .ok (.iconst 0, 1) := by decide +kernel
theorem dX3_isUnder_41 : decode cX3_isUnder 41 = .ok (.ireturn, 1) := by decide +kernel
theorem dX3_heldSure_0 : decode cX3_heldSure 0 = .ok (.iconst 0, 1) := by decide +kernel
theorem dX3_heldSure_1 : decode cX3_heldSure 1 = .ok (.bipush 99, 2) := by decide +kernel
theorem dX3_heldSure_3 : decode cX3_heldSure 3 = .ok (.iload_n 0, 1) := by decide +kernel
theorem dX3_heldSure_4 : decode cX3_heldSure 4 = .ok (.invokestatic 291, 3) := by decide +kernel
theorem dX3_heldSure_7 : decode cX3_heldSure 7 = .ok (.invokestatic 296, 3) := by decide +kernel
theorem dX3_heldSure_10 : decode cX3_heldSure 10 = .ok (.ireturn, 1) := by decide +kernel
theorem dX3_narrowed_0 : decode cX3_narrowed 0 = .ok (.iload_n 1, 1) := by decide +kernel
theorem dX3_narrowed_1 : decode cX3_narrowed 1 = .ok (.lookupswitch 35 #[(0, 27), (1, 31)], 27) := by decide +kernel
theorem dX3_narrowed_28 : decode cX3_narrowed 28 = .ok (.iload_n 0, 1) := by decide +kernel
theorem dX3_narrowed_29 : decode cX3_narrowed 29 = .ok (.i2b, 1) := by decide +kernel
theorem dX3_narrowed_30 : decode cX3_narrowed 30 = .ok (.i2l, 1) := by decide +kernel
theorem dX3_narrowed_31 : decode cX3_narrowed 31 = .ok (.lreturn, 1) := by decide +kernel
theorem dX3_narrowed_32 : decode cX3_narrowed 32 = .ok (.iload_n 0, 1) := by decide +kernel
theorem dX3_narrowed_33 : decode cX3_narrowed 33 = .ok (.i2s, 1) := by decide +kernel
theorem dX3_narrowed_34 : decode cX3_narrowed 34 = .ok (.i2l, 1) := by decide +kernel
theorem dX3_narrowed_35 : decode cX3_narrowed 35 = .ok (.lreturn, 1) := by decide +kernel
theorem dX3_narrowed_36 : decode cX3_narrowed 36 = .ok (.iload_n 0, 1) := by decide +kernel
theorem dX3_narrowed_37 : decode cX3_narrowed 37 = .ok (.i2l, 1) := by decide +kernel
theorem dX3_narrowed_38 : decode cX3_narrowed 38 = .ok (.lreturn, 1) := by decide +kernel
theorem dX3_partOf_0 : decode cX3_partOf 0 = .ok (.lload_n 2, 1) := by decide +kernel
theorem dX3_partOf_1 : decode cX3_partOf 1 = .ok (.lstore 5, 2) := by decide +kernel
theorem dX3_partOf_3 : decode cX3_partOf 3 = .ok (.lload_n 0, 1) := by decide +kernel
theorem dX3_partOf_4 : decode cX3_partOf 4 = .ok (.lstore 7, 2) := by decide +kernel
theorem dX3_partOf_6 : decode cX3_partOf 6 = .ok (.iconst 0, 1) := by decide +kernel
theorem dX3_partOf_7 : decode cX3_partOf 7 = .ok (.istore 9, 2) := by decide +kernel
theorem dX3_partOf_9 : decode cX3_partOf 9 = .ok (.iload 9, 2) := by decide +kernel
theorem dX3_partOf_11 : decode cX3_partOf 11 = .ok (.bipush 100, 2) := by decide +kernel
theorem dX3_partOf_13 : decode cX3_partOf 13 = .ok (.if_icmp .ge 31, 3) := by decide +kernel
theorem dX3_partOf_16 : decode cX3_partOf 16 = .ok (.lload 7, 2) := by decide +kernel
theorem dX3_partOf_18 : decode cX3_partOf 18 = .ok (.lconst 0, 1) := by decide +kernel
theorem dX3_partOf_19 : decode cX3_partOf 19 = .ok (.lcmp, 1) := by decide +kernel
theorem dX3_partOf_20 : decode cX3_partOf 20 = .ok (.ifCond .eq 24, 3) := by decide +kernel
theorem dX3_partOf_23 : decode cX3_partOf 23 = .ok (.lload 5, 2) := by decide +kernel
theorem dX3_partOf_25 : decode cX3_partOf 25 = .ok (.lload 7, 2) := by decide +kernel
theorem dX3_partOf_27 : decode cX3_partOf 27 = .ok (.lrem, 1) := by decide +kernel
theorem dX3_partOf_28 : decode cX3_partOf 28 = .ok (.lstore 10, 2) := by decide +kernel
theorem dX3_partOf_30 : decode cX3_partOf 30 = .ok (.lload 7, 2) := by decide +kernel
theorem dX3_partOf_32 : decode cX3_partOf 32 = .ok (.lstore 5, 2) := by decide +kernel
theorem dX3_partOf_34 : decode cX3_partOf 34 = .ok (.lload 10, 2) := by decide +kernel
theorem dX3_partOf_36 : decode cX3_partOf 36 = .ok (.lstore 7, 2) := by decide +kernel
theorem dX3_partOf_38 : decode cX3_partOf 38 = .ok (.iinc 9 1, 3) := by decide +kernel
theorem dX3_partOf_41 : decode cX3_partOf 41 = .ok (.goto (-32), 3) := by decide +kernel
theorem dX3_partOf_44 : decode cX3_partOf 44 = .ok (.lload 5, 2) := by decide +kernel
theorem dX3_partOf_46 : decode cX3_partOf 46 = .ok (.lconst 0, 1) := by decide +kernel
theorem dX3_partOf_47 : decode cX3_partOf 47 = .ok (.lcmp, 1) := by decide +kernel
theorem dX3_partOf_48 : decode cX3_partOf 48 = .ok (.ifCond .ne 7, 3) := by decide +kernel
theorem dX3_partOf_51 : decode cX3_partOf 51 = .ok (.ldc2_w 177, 3) := by decide +kernel
theorem dX3_partOf_54 : decode cX3_partOf 54 = .ok (.lreturn, 1) := by decide +kernel
theorem dX3_partOf_55 : decode cX3_partOf 55 = .ok (.iload 4, 2) := by decide +kernel
theorem dX3_partOf_57 : decode cX3_partOf 57 = .ok (.ifCond .ne 7, 3) := by decide +kernel
theorem dX3_partOf_60 : decode cX3_partOf 60 = .ok (.lload_n 0, 1) := by decide +kernel
theorem dX3_partOf_61 : decode cX3_partOf 61 = .ok (.goto 4, 3) := by decide +kernel
theorem dX3_partOf_64 : decode cX3_partOf 64 = .ok (.lload_n 2, 1) := by decide +kernel
theorem dX3_partOf_65 : decode cX3_partOf 65 = .ok (.lload 5, 2) := by decide +kernel
theorem dX3_partOf_67 : decode cX3_partOf 67 = .ok (.ldiv, 1) := by decide +kernel
theorem dX3_partOf_68 : decode cX3_partOf 68 = .ok (.lreturn, 1) := by decide +kernel
theorem dJ6_bitCount_0f7a4_0 : decode cJ6_bitCount_0f7a4 0 = .ok (.iload_n 0, 1) := by decide +kernel
theorem dJ6_bitCount_0f7a4_1 : decode cJ6_bitCount_0f7a4 1 = .ok (.iload_n 0, 1) := by decide +kernel
theorem dJ6_bitCount_0f7a4_2 : decode cJ6_bitCount_0f7a4 2 = .ok (.iconst 1, 1) := by decide +kernel
theorem dJ6_bitCount_0f7a4_3 : decode cJ6_bitCount_0f7a4 3 = .ok (.iushr, 1) := by decide +kernel
theorem dJ6_bitCount_0f7a4_4 : decode cJ6_bitCount_0f7a4 4 = .ok (.ldc_w 265, 3) := by decide +kernel
theorem dJ6_bitCount_0f7a4_7 : decode cJ6_bitCount_0f7a4 7 = .ok (.iand, 1) := by decide +kernel
theorem dJ6_bitCount_0f7a4_8 : decode cJ6_bitCount_0f7a4 8 = .ok (.isub, 1) := by decide +kernel
theorem dJ6_bitCount_0f7a4_9 : decode cJ6_bitCount_0f7a4 9 = .ok (.istore_n 0, 1) := by decide +kernel
theorem dJ6_bitCount_0f7a4_10 : decode cJ6_bitCount_0f7a4 10 = .ok (.iload_n 0, 1) := by decide +kernel
theorem dJ6_bitCount_0f7a4_11 : decode cJ6_bitCount_0f7a4 11 = .ok (.ldc_w 266, 3) := by decide +kernel
theorem dJ6_bitCount_0f7a4_14 : decode cJ6_bitCount_0f7a4 14 = .ok (.iand, 1) := by decide +kernel
theorem dJ6_bitCount_0f7a4_15 : decode cJ6_bitCount_0f7a4 15 = .ok (.iload_n 0, 1) := by decide +kernel
theorem dJ6_bitCount_0f7a4_16 : decode cJ6_bitCount_0f7a4 16 = .ok (.iconst 2, 1) := by decide +kernel
theorem dJ6_bitCount_0f7a4_17 : decode cJ6_bitCount_0f7a4 17 = .ok (.iushr, 1) := by decide +kernel
theorem dJ6_bitCount_0f7a4_18 : decode cJ6_bitCount_0f7a4 18 = .ok (.ldc_w 266, 3) := by decide +kernel
theorem dJ6_bitCount_0f7a4_21 : decode cJ6_bitCount_0f7a4 21 = .ok (.iand, 1) := by decide +kernel
theorem dJ6_bitCount_0f7a4_22 : decode cJ6_bitCount_0f7a4 22 = .ok (.iadd, 1) := by decide +kernel
theorem dJ6_bitCount_0f7a4_23 : decode cJ6_bitCount_0f7a4 23 = .ok (.istore_n 0, 1) := by decide +kernel
theorem dJ6_bitCount_0f7a4_24 : decode cJ6_bitCount_0f7a4 24 = .ok (.iload_n 0, 1) := by decide +kernel
theorem dJ6_bitCount_0f7a4_25 : decode cJ6_bitCount_0f7a4 25 = .ok (.iload_n 0, 1) := by decide +kernel
theorem dJ6_bitCount_0f7a4_26 : decode cJ6_bitCount_0f7a4 26 = .ok (.iconst 4, 1) := by decide +kernel
theorem dJ6_bitCount_0f7a4_27 : decode cJ6_bitCount_0f7a4 27 = .ok (.iushr, 1) := by decide +kernel
theorem dJ6_bitCount_0f7a4_28 : decode cJ6_bitCount_0f7a4 28 = .ok (.iadd, 1) := by decide +kernel
theorem dJ6_bitCount_0f7a4_29 : decode cJ6_bitCount_0f7a4 29 = .ok (.ldc_w 267, 3) := by decide +kernel
theorem dJ6_bitCount_0f7a4_32 : decode cJ6_bitCount_0f7a4 32 = .ok (.iand, 1) := by decide +kernel
theorem dJ6_bitCount_0f7a4_33 : decode cJ6_bitCount_0f7a4 33 = .ok (.istore_n 0, 1) := by decide +kernel
theorem dJ6_bitCount_0f7a4_34 : decode cJ6_bitCount_0f7a4 34 = .ok (.iload_n 0, 1) := by decide +kernel
theorem dJ6_bitCount_0f7a4_35 : decode cJ6_bitCount_0f7a4 35 = .ok (.iload_n 0, 1) := by decide +kernel
theorem dJ6_bitCount_0f7a4_36 : decode cJ6_bitCount_0f7a4 36 = .ok (.bipush 8, 2) := by decide +kernel
theorem dJ6_bitCount_0f7a4_38 : decode cJ6_bitCount_0f7a4 38 = .ok (.iushr, 1) := by decide +kernel
theorem dJ6_bitCount_0f7a4_39 : decode cJ6_bitCount_0f7a4 39 = .ok (.iadd, 1) := by decide +kernel
theorem dJ6_bitCount_0f7a4_40 : decode cJ6_bitCount_0f7a4 40 = .ok (.istore_n 0, 1) := by decide +kernel
theorem dJ6_bitCount_0f7a4_41 : decode cJ6_bitCount_0f7a4 41 = .ok (.iload_n 0, 1) := by decide +kernel
theorem dJ6_bitCount_0f7a4_42 : decode cJ6_bitCount_0f7a4 42 = .ok (.iload_n 0, 1) := by decide +kernel
theorem dJ6_bitCount_0f7a4_43 : decode cJ6_bitCount_0f7a4 43 = .ok (.bipush 16, 2) := by decide +kernel
theorem dJ6_bitCount_0f7a4_45 : decode cJ6_bitCount_0f7a4 45 = .ok (.iushr, 1) := by decide +kernel
theorem dJ6_bitCount_0f7a4_46 : decode cJ6_bitCount_0f7a4 46 = .ok (.iadd, 1) := by decide +kernel
theorem dJ6_bitCount_0f7a4_47 : decode cJ6_bitCount_0f7a4 47 = .ok (.istore_n 0, 1) := by decide +kernel
theorem dJ6_bitCount_0f7a4_48 : decode cJ6_bitCount_0f7a4 48 = .ok (.iload_n 0, 1) := by decide +kernel
theorem dJ6_bitCount_0f7a4_49 : decode cJ6_bitCount_0f7a4 49 = .ok (.bipush 63, 2) := by decide +kernel
theorem dJ6_bitCount_0f7a4_51 : decode cJ6_bitCount_0f7a4 51 = .ok (.iand, 1) := by decide +kernel
theorem dJ6_bitCount_0f7a4_52 : decode cJ6_bitCount_0f7a4 52 = .ok (.ireturn, 1) := by decide +kernel
theorem dJ13_bitCount_95d88_0 : decode cJ13_bitCount_95d88 0 = .ok (.lload_n 0, 1) := by decide +kernel
theorem dJ13_bitCount_95d88_1 : decode cJ13_bitCount_95d88 1 = .ok (.lload_n 0, 1) := by decide +kernel
theorem dJ13_bitCount_95d88_2 : decode cJ13_bitCount_95d88 2 = .ok (.iconst 1, 1) := by decide +kernel
theorem dJ13_bitCount_95d88_3 : decode cJ13_bitCount_95d88 3 = .ok (.lushr, 1) := by decide +kernel
theorem dJ13_bitCount_95d88_4 : decode cJ13_bitCount_95d88 4 = .ok (.ldc2_w 314, 3) := by decide +kernel
theorem dJ13_bitCount_95d88_7 : decode cJ13_bitCount_95d88 7 = .ok (.land, 1) := by decide +kernel
theorem dJ13_bitCount_95d88_8 : decode cJ13_bitCount_95d88 8 = .ok (.lsub, 1) := by decide +kernel
theorem dJ13_bitCount_95d88_9 : decode cJ13_bitCount_95d88 9 = .ok (.lstore_n 0, 1) := by decide +kernel
theorem dJ13_bitCount_95d88_10 : decode cJ13_bitCount_95d88 10 = .ok (.lload_n 0, 1) := by decide +kernel
theorem dJ13_bitCount_95d88_11 : decode cJ13_bitCount_95d88 11 = .ok (.ldc2_w 316, 3) := by decide +kernel
theorem dJ13_bitCount_95d88_14 : decode cJ13_bitCount_95d88 14 = .ok (.land, 1) := by decide +kernel
theorem dJ13_bitCount_95d88_15 : decode cJ13_bitCount_95d88 15 = .ok (.lload_n 0, 1) := by decide +kernel
theorem dJ13_bitCount_95d88_16 : decode cJ13_bitCount_95d88 16 = .ok (.iconst 2, 1) := by decide +kernel
theorem dJ13_bitCount_95d88_17 : decode cJ13_bitCount_95d88 17 = .ok (.lushr, 1) := by decide +kernel
theorem dJ13_bitCount_95d88_18 : decode cJ13_bitCount_95d88 18 = .ok (.ldc2_w 316, 3) := by decide +kernel
theorem dJ13_bitCount_95d88_21 : decode cJ13_bitCount_95d88 21 = .ok (.land, 1) := by decide +kernel
theorem dJ13_bitCount_95d88_22 : decode cJ13_bitCount_95d88 22 = .ok (.ladd, 1) := by decide +kernel
theorem dJ13_bitCount_95d88_23 : decode cJ13_bitCount_95d88 23 = .ok (.lstore_n 0, 1) := by decide +kernel
theorem dJ13_bitCount_95d88_24 : decode cJ13_bitCount_95d88 24 = .ok (.lload_n 0, 1) := by decide +kernel
theorem dJ13_bitCount_95d88_25 : decode cJ13_bitCount_95d88 25 = .ok (.lload_n 0, 1) := by decide +kernel
theorem dJ13_bitCount_95d88_26 : decode cJ13_bitCount_95d88 26 = .ok (.iconst 4, 1) := by decide +kernel
theorem dJ13_bitCount_95d88_27 : decode cJ13_bitCount_95d88 27 = .ok (.lushr, 1) := by decide +kernel
theorem dJ13_bitCount_95d88_28 : decode cJ13_bitCount_95d88 28 = .ok (.ladd, 1) := by decide +kernel
theorem dJ13_bitCount_95d88_29 : decode cJ13_bitCount_95d88 29 = .ok (.ldc2_w 318, 3) := by decide +kernel
theorem dJ13_bitCount_95d88_32 : decode cJ13_bitCount_95d88 32 = .ok (.land, 1) := by decide +kernel
theorem dJ13_bitCount_95d88_33 : decode cJ13_bitCount_95d88 33 = .ok (.lstore_n 0, 1) := by decide +kernel
theorem dJ13_bitCount_95d88_34 : decode cJ13_bitCount_95d88 34 = .ok (.lload_n 0, 1) := by decide +kernel
theorem dJ13_bitCount_95d88_35 : decode cJ13_bitCount_95d88 35 = .ok (.lload_n 0, 1) := by decide +kernel
theorem dJ13_bitCount_95d88_36 : decode cJ13_bitCount_95d88 36 = .ok (.bipush 8, 2) := by decide +kernel
theorem dJ13_bitCount_95d88_38 : decode cJ13_bitCount_95d88 38 = .ok (.lushr, 1) := by decide +kernel
theorem dJ13_bitCount_95d88_39 : decode cJ13_bitCount_95d88 39 = .ok (.ladd, 1) := by decide +kernel
theorem dJ13_bitCount_95d88_40 : decode cJ13_bitCount_95d88 40 = .ok (.lstore_n 0, 1) := by decide +kernel
theorem dJ13_bitCount_95d88_41 : decode cJ13_bitCount_95d88 41 = .ok (.lload_n 0, 1) := by decide +kernel
theorem dJ13_bitCount_95d88_42 : decode cJ13_bitCount_95d88 42 = .ok (.lload_n 0, 1) := by decide +kernel
theorem dJ13_bitCount_95d88_43 : decode cJ13_bitCount_95d88 43 = .ok (.bipush 16, 2) := by decide +kernel
theorem dJ13_bitCount_95d88_45 : decode cJ13_bitCount_95d88 45 = .ok (.lushr, 1) := by decide +kernel
theorem dJ13_bitCount_95d88_46 : decode cJ13_bitCount_95d88 46 = .ok (.ladd, 1) := by decide +kernel
theorem dJ13_bitCount_95d88_47 : decode cJ13_bitCount_95d88 47 = .ok (.lstore_n 0, 1) := by decide +kernel
theorem dJ13_bitCount_95d88_48 : decode cJ13_bitCount_95d88 48 = .ok (.lload_n 0, 1) := by decide +kernel
theorem dJ13_bitCount_95d88_49 : decode cJ13_bitCount_95d88 49 = .ok (.lload_n 0, 1) := by decide +kernel
theorem dJ13_bitCount_95d88_50 : decode cJ13_bitCount_95d88 50 = .ok (.bipush 32, 2) := by decide +kernel
theorem dJ13_bitCount_95d88_52 : decode cJ13_bitCount_95d88 52 = .ok (.lushr, 1) := by decide +kernel
theorem dJ13_bitCount_95d88_53 : decode cJ13_bitCount_95d88 53 = .ok (.ladd, 1) := by decide +kernel
theorem dJ13_bitCount_95d88_54 : decode cJ13_bitCount_95d88 54 = .ok (.lstore_n 0, 1) := by decide +kernel
theorem dJ13_bitCount_95d88_55 : decode cJ13_bitCount_95d88 55 = .ok (.lload_n 0, 1) := by decide +kernel
theorem dJ13_bitCount_95d88_56 : decode cJ13_bitCount_95d88 56 = .ok (.l2i, 1) := by decide +kernel
theorem dJ13_bitCount_95d88_57 : decode cJ13_bitCount_95d88 57 = .ok (.bipush 127, 2) := by decide +kernel
theorem dJ13_bitCount_95d88_59 : decode cJ13_bitCount_95d88 59 = .ok (.iand, 1) := by decide +kernel
theorem dJ13_bitCount_95d88_60 : decode cJ13_bitCount_95d88 60 = .ok (.ireturn, 1) := by decide +kernel
theorem dJ9_abs_0f7a4_0 : decode cJ9_abs_0f7a4 0 = .ok (.iload_n 0, 1) := by decide +kernel
theorem dJ9_abs_0f7a4_1 : decode cJ9_abs_0f7a4 1 = .ok (.ifCond .ge 8, 3) := by decide +kernel
theorem dJ9_abs_0f7a4_4 : decode cJ9_abs_0f7a4 4 = .ok (.iload_n 0, 1) := by decide +kernel
theorem dJ9_abs_0f7a4_5 : decode cJ9_abs_0f7a4 5 = .ok (.ineg, 1) := by decide +kernel
theorem dJ9_abs_0f7a4_6 : decode cJ9_abs_0f7a4 6 = .ok (.goto 4, 3) := by decide +kernel
theorem dJ9_abs_0f7a4_9 : decode cJ9_abs_0f7a4 9 = .ok (.iload_n 0, 1) := by decide +kernel
theorem dJ9_abs_0f7a4_10 : decode cJ9_abs_0f7a4 10 = .ok (.ireturn, 1) := by decide +kernel
theorem dJ9_max_7cf53_0 : decode cJ9_max_7cf53 0 = .ok (.iload_n 0, 1) := by decide +kernel
theorem dJ9_max_7cf53_1 : decode cJ9_max_7cf53 1 = .ok (.iload_n 1, 1) := by decide +kernel
theorem dJ9_max_7cf53_2 : decode cJ9_max_7cf53 2 = .ok (.if_icmp .lt 7, 3) := by decide +kernel
theorem dJ9_max_7cf53_5 : decode cJ9_max_7cf53 5 = .ok (.iload_n 0, 1) := by decide +kernel
theorem dJ9_max_7cf53_6 : decode cJ9_max_7cf53 6 = .ok (.goto 4, 3) := by decide +kernel
theorem dJ9_max_7cf53_9 : decode cJ9_max_7cf53 9 = .ok (.iload_n 1, 1) := by decide +kernel
theorem dJ9_max_7cf53_10 : decode cJ9_max_7cf53 10 = .ok (.ireturn, 1) := by decide +kernel
theorem dJ9_min_7cf53_0 : decode cJ9_min_7cf53 0 = .ok (.iload_n 0, 1) := by decide +kernel
theorem dJ9_min_7cf53_1 : decode cJ9_min_7cf53 1 = .ok (.iload_n 1, 1) := by decide +kernel
theorem dJ9_min_7cf53_2 : decode cJ9_min_7cf53 2 = .ok (.if_icmp .gt 7, 3) := by decide +kernel
theorem dJ9_min_7cf53_5 : decode cJ9_min_7cf53 5 = .ok (.iload_n 0, 1) := by decide +kernel
theorem dJ9_min_7cf53_6 : decode cJ9_min_7cf53 6 = .ok (.goto 4, 3) := by decide +kernel
theorem dJ9_min_7cf53_9 : decode cJ9_min_7cf53 9 = .ok (.iload_n 1, 1) := by decide +kernel
theorem dJ9_min_7cf53_10 : decode cJ9_min_7cf53 10 = .ok (.ireturn, 1) := by decide +kernel
theorem dJ0_length_8abf5_0 : decode cJ0_length_8abf5 0 = .ok (.aload_n 0, 1) := by decide +kernel
theorem dJ0_length_8abf5_1 : decode cJ0_length_8abf5 1 = .ok (.getfield 9, 3) := by decide +kernel
theorem dJ0_length_8abf5_4 : decode cJ0_length_8abf5 4 = .ok (.arraylength, 1) := by decide +kernel
theorem dJ0_length_8abf5_5 : decode cJ0_length_8abf5 5 = .ok (.aload_n 0, 1) := by decide +kernel
theorem dJ0_length_8abf5_6 : decode cJ0_length_8abf5 6 = .ok (.invokevirtual 335, 3) := by decide +kernel
theorem dJ0_length_8abf5_9 : decode cJ0_length_8abf5 9 = .ok (.ishr, 1) := by decide +kernel
theorem dJ0_length_8abf5_10 : decode cJ0_length_8abf5 10 = .ok (.ireturn, 1) := by decide +kernel
theorem dJ0_charAt_5068e_0 : decode cJ0_charAt_5068e 0 = .ok (.aload_n 0, 1) := by decide +kernel
theorem dJ0_charAt_5068e_1 : decode cJ0_charAt_5068e 1 = .ok (.invokevirtual 492, 3) := by decide +kernel
theorem dJ0_charAt_5068e_4 : decode cJ0_charAt_5068e 4 = .ok (.ifCond .eq 12, 3) := by decide +kernel
theorem dJ0_charAt_5068e_7 : decode cJ0_charAt_5068e 7 = .ok (.aload_n 0, 1) := by decide +kernel
theorem dJ0_charAt_5068e_8 : decode cJ0_charAt_5068e 8 = .ok (.getfield 9, 3) := by decide +kernel
theorem dJ0_charAt_5068e_11 : decode cJ0_charAt_5068e 11 = .ok (.iload_n 1, 1) := by decide +kernel
theorem dJ0_charAt_5068e_12 : decode cJ0_charAt_5068e 12 = .ok (.invokestatic 495, 3) := by decide +kernel
theorem dJ0_charAt_5068e_15 : decode cJ0_charAt_5068e 15 = .ok (.ireturn, 1) := by decide +kernel
theorem dJ0_charAt_5068e_16 : decode cJ0_charAt_5068e 16 = .ok (.aload_n 0, 1) := by decide +kernel
theorem dJ0_charAt_5068e_17 : decode cJ0_charAt_5068e 17 = .ok (.getfield 9, 3) := by decide +kernel
theorem dJ0_charAt_5068e_20 : decode cJ0_charAt_5068e 20 = .ok (.iload_n 1, 1) := by decide +kernel
theorem dJ0_charAt_5068e_21 : decode cJ0_charAt_5068e 21 = .ok (.invokestatic 498, 3) := by decide +kernel
theorem dJ0_charAt_5068e_24 : decode cJ0_charAt_5068e 24 = .ok (.ireturn, 1) := by decide +kernel
theorem dJ0_coder_7d493_0 : decode cJ0_coder_7d493 0 = .ok (.getstatic 38, 3) := by decide +kernel
theorem dJ0_coder_7d493_3 : decode cJ0_coder_7d493 3 = .ok (.ifCond .eq 10, 3) := by decide +kernel
theorem dJ0_coder_7d493_6 : decode cJ0_coder_7d493 6 = .ok (.aload_n 0, 1) := by decide +kernel
theorem dJ0_coder_7d493_7 : decode cJ0_coder_7d493 7 = .ok (.getfield 15, 3) := by decide +kernel
theorem dJ0_coder_7d493_10 : decode cJ0_coder_7d493 10 = .ok (.goto 4, 3) := by decide +kernel
theorem dJ0_coder_7d493_13 : decode cJ0_coder_7d493 13 = .ok (.iconst 1, 1) := by decide +kernel
theorem dJ0_coder_7d493_14 : decode cJ0_coder_7d493 14 = .ok (.ireturn, 1) := by decide +kernel
theorem dJ0_isLatin1_aae02_0 : decode cJ0_isLatin1_aae02 0 = .ok (.getstatic 38, 3) := by decide +kernel
theorem dJ0_isLatin1_aae02_3 : decode cJ0_isLatin1_aae02 3 = .ok (.ifCond .eq 14, 3) := by decide +kernel
theorem dJ0_isLatin1_aae02_6 : decode cJ0_isLatin1_aae02 6 = .ok (.aload_n 0, 1) := by decide +kernel
theorem dJ0_isLatin1_aae02_7 : decode cJ0_isLatin1_aae02 7 = .ok (.getfield 15, 3) := by decide +kernel
theorem dJ0_isLatin1_aae02_10 : decode cJ0_isLatin1_aae02 10 = .ok (.ifCond .ne 7, 3) := by decide +kernel
theorem dJ0_isLatin1_aae02_13 : decode cJ0_isLatin1_aae02 13 = .ok (.iconst 1, 1) := by decide +kernel
theorem dJ0_isLatin1_aae02_14 : decode cJ0_isLatin1_aae02 14 = .ok (.goto 4, 3) := by decide +kernel
theorem dJ0_isLatin1_aae02_17 : decode cJ0_isLatin1_aae02 17 = .ok (.iconst 0, 1) := by decide +kernel
theorem dJ0_isLatin1_aae02_18 : decode cJ0_isLatin1_aae02 18 = .ok (.ireturn, 1) := by decide +kernel
theorem dJ0_checkIndex_df160_0 : decode cJ0_checkIndex_df160 0 = .ok (.iload_n 0, 1) := by decide +kernel
theorem dJ0_checkIndex_df160_1 : decode cJ0_checkIndex_df160 1 = .ok (.iload_n 1, 1) := by decide +kernel
theorem dJ0_checkIndex_df160_2 : decode cJ0_checkIndex_df160 2 = .ok (.getstatic 1053, 3) := by decide +kernel
theorem dJ0_checkIndex_df160_5 : decode cJ0_checkIndex_df160 5 = .ok (.invokestatic 1059, 3) := by decide +kernel
theorem dJ0_checkIndex_df160_8 : decode cJ0_checkIndex_df160 8 = .ok (.pop, 1) := by decide +kernel
theorem dJ0_checkIndex_df160_9 : decode cJ0_checkIndex_df160 9 = .ok (.return_, 1) := by decide +kernel
theorem dJ1_charAt_3b067_0 : decode cJ1_charAt_3b067 0 = .ok (.iload_n 1, 1) := by decide +kernel
theorem dJ1_charAt_3b067_1 : decode cJ1_charAt_3b067 1 = .ok (.aload_n 0, 1) := by decide +kernel
theorem dJ1_charAt_3b067_2 : decode cJ1_charAt_3b067 2 = .ok (.arraylength, 1) := by decide +kernel
theorem dJ1_charAt_3b067_3 : decode cJ1_charAt_3b067 3 = .ok (.invokestatic 9, 3) := by decide +kernel
theorem dJ1_charAt_3b067_6 : decode cJ1_charAt_3b067 6 = .ok (.aload_n 0, 1) := by decide +kernel
theorem dJ1_charAt_3b067_7 : decode cJ1_charAt_3b067 7 = .ok (.iload_n 1, 1) := by decide +kernel
theorem dJ1_charAt_3b067_8 : decode cJ1_charAt_3b067 8 = .ok (.baload, 1) := by decide +kernel
theorem dJ1_charAt_3b067_9 : decode cJ1_charAt_3b067 9 = .ok (.sipush 255, 3) := by decide +kernel
theorem dJ1_charAt_3b067_12 : decode cJ1_charAt_3b067 12 = .ok (.iand, 1) := by decide +kernel
theorem dJ1_charAt_3b067_13 : decode cJ1_charAt_3b067 13 = .ok (.i2c, 1) := by decide +kernel
theorem dJ1_charAt_3b067_14 : decode cJ1_charAt_3b067 14 = .ok (.ireturn, 1) := by decide +kernel
theorem dJ2_getChar_3b067_0 : decode cJ2_getChar_3b067 0 = .ok (.getstatic 44, 3) := by decide +kernel
theorem dJ2_getChar_3b067_3 : decode cJ2_getChar_3b067 3 = .ok (.ifCond .ne 25, 3) := by decide +kernel
theorem dJ2_getChar_3b067_6 : decode cJ2_getChar_3b067 6 = .ok (.iload_n 1, 1) := by decide +kernel
theorem dJ2_getChar_3b067_7 : decode cJ2_getChar_3b067 7 = .ok (.ifCond .lt 11, 3) := by decide +kernel
theorem dJ2_getChar_3b067_10 : decode cJ2_getChar_3b067 10 = .ok (.iload_n 1, 1) := by decide +kernel
theorem dJ2_getChar_3b067_11 : decode cJ2_getChar_3b067 11 = .ok (.aload_n 0, 1) := by decide +kernel
theorem dJ2_getChar_3b067_12 : decode cJ2_getChar_3b067 12 = .ok (.invokestatic 48, 3) := by decide +kernel
theorem dJ2_getChar_3b067_15 : decode cJ2_getChar_3b067 15 = .ok (.if_icmp .lt 13, 3) := by decide +kernel
theorem dJ2_getChar_3b067_18 : decode cJ2_getChar_3b067 18 = .ok (.new 52, 3) := by decide +kernel
theorem dJ2_getChar_3b067_21 : decode cJ2_getChar_3b067 21 = .ok (.dup, 1) := by decide +kernel
theorem dJ2_getChar_3b067_22 : decode cJ2_getChar_3b067 22 = .ok (.ldc 54, 2) := by decide +kernel
theorem dJ2_getChar_3b067_24 : decode cJ2_getChar_3b067 24 = .ok (.invokespecial 56, 3) := by decide +kernel
theorem dJ2_getChar_3b067_27 : decode cJ2_getChar_3b067 27 = .ok (.athrow, 1) := by decide +kernel
theorem dJ2_getChar_3b067_28 : decode cJ2_getChar_3b067 28 = .ok (.iload_n 1, 1) := by decide +kernel
theorem dJ2_getChar_3b067_29 : decode cJ2_getChar_3b067 29 = .ok (.iconst 1, 1) := by decide +kernel
theorem dJ2_getChar_3b067_30 : decode cJ2_getChar_3b067 30 = .ok (.ishl, 1) := by decide +kernel
theorem dJ2_getChar_3b067_31 : decode cJ2_getChar_3b067 31 = .ok (.istore_n 1, 1) := by decide +kernel
theorem dJ2_getChar_3b067_32 : decode cJ2_getChar_3b067 32 = .ok (.aload_n 0, 1) := by decide +kernel
theorem dJ2_getChar_3b067_33 : decode cJ2_getChar_3b067 33 = .ok (.iload_n 1, 1) := by decide +kernel
theorem dJ2_getChar_3b067_34 : decode cJ2_getChar_3b067 34 = .ok (.iinc 1 1, 3) := by decide +kernel
theorem dJ2_getChar_3b067_37 : decode cJ2_getChar_3b067 37 = .ok (.baload, 1) := by decide +kernel
theorem dJ2_getChar_3b067_38 : decode cJ2_getChar_3b067 38 = .ok (.sipush 255, 3) := by decide +kernel
theorem dJ2_getChar_3b067_41 : decode cJ2_getChar_3b067 41 = .ok (.iand, 1) := by decide +kernel
theorem dJ2_getChar_3b067_42 : decode cJ2_getChar_3b067 42 = .ok (.getstatic 59, 3) := by decide +kernel
theorem dJ2_getChar_3b067_45 : decode cJ2_getChar_3b067 45 = .ok (.ishl, 1) := by decide +kernel
theorem dJ2_getChar_3b067_46 : decode cJ2_getChar_3b067 46 = .ok (.aload_n 0, 1) := by decide +kernel
theorem dJ2_getChar_3b067_47 : decode cJ2_getChar_3b067 47 = .ok (.iload_n 1, 1) := by decide +kernel
theorem dJ2_getChar_3b067_48 : decode cJ2_getChar_3b067 48 = .ok (.baload, 1) := by decide +kernel
theorem dJ2_getChar_3b067_49 : decode cJ2_getChar_3b067 49 = .ok (.sipush 255, 3) := by decide +kernel
theorem dJ2_getChar_3b067_52 : decode cJ2_getChar_3b067 52 = .ok (.iand, 1) := by decide +kernel
theorem dJ2_getChar_3b067_53 : decode cJ2_getChar_3b067 53 = .ok (.getstatic 63, 3) := by decide +kernel
theorem dJ2_getChar_3b067_56 : decode cJ2_getChar_3b067 56 = .ok (.ishl, 1) := by decide +kernel
theorem dJ2_getChar_3b067_57 : decode cJ2_getChar_3b067 57 = .ok (.ior, 1) := by decide +kernel
theorem dJ2_getChar_3b067_58 : decode cJ2_getChar_3b067 58 = .ok (.i2c, 1) := by decide +kernel
theorem dJ2_getChar_3b067_59 : decode cJ2_getChar_3b067 59 = .ok (.ireturn, 1) := by decide +kernel
theorem dJ2_length_9d52b_0 : decode cJ2_length_9d52b 0 = .ok (.aload_n 0, 1) := by decide +kernel
theorem dJ2_length_9d52b_1 : decode cJ2_length_9d52b 1 = .ok (.arraylength, 1) := by decide +kernel
theorem dJ2_length_9d52b_2 : decode cJ2_length_9d52b 2 = .ok (.iconst 1, 1) := by decide +kernel
theorem dJ2_length_9d52b_3 : decode cJ2_length_9d52b 3 = .ok (.ishr, 1) := by decide +kernel
theorem dJ2_length_9d52b_4 : decode cJ2_length_9d52b 4 = .ok (.ireturn, 1) := by decide +kernel
theorem dJ2_charAt_3b067_0 : decode cJ2_charAt_3b067 0 = .ok (.iload_n 1, 1) := by decide +kernel
theorem dJ2_charAt_3b067_1 : decode cJ2_charAt_3b067 1 = .ok (.aload_n 0, 1) := by decide +kernel
theorem dJ2_charAt_3b067_2 : decode cJ2_charAt_3b067 2 = .ok (.invokestatic 67, 3) := by decide +kernel
theorem dJ2_charAt_3b067_5 : decode cJ2_charAt_3b067 5 = .ok (.aload_n 0, 1) := by decide +kernel
theorem dJ2_charAt_3b067_6 : decode cJ2_charAt_3b067 6 = .ok (.iload_n 1, 1) := by decide +kernel
theorem dJ2_charAt_3b067_7 : decode cJ2_charAt_3b067 7 = .ok (.invokestatic 71, 3) := by decide +kernel
theorem dJ2_charAt_3b067_10 : decode cJ2_charAt_3b067 10 = .ok (.ireturn, 1) := by decide +kernel
theorem dJ2_checkIndex_2214a_0 : decode cJ2_checkIndex_2214a 0 = .ok (.iload_n 0, 1) := by decide +kernel
theorem dJ2_checkIndex_2214a_1 : decode cJ2_checkIndex_2214a 1 = .ok (.aload_n 1, 1) := by decide +kernel
theorem dJ2_checkIndex_2214a_2 : decode cJ2_checkIndex_2214a 2 = .ok (.invokestatic 48, 3) := by decide +kernel
theorem dJ2_checkIndex_2214a_5 : decode cJ2_checkIndex_2214a 5 = .ok (.invokestatic 414, 3) := by decide +kernel
theorem dJ2_checkIndex_2214a_8 : decode cJ2_checkIndex_2214a 8 = .ok (.return_, 1) := by decide +kernel
theorem dJ3_checkIndex_8e157_0 : decode cJ3_checkIndex_8e157 0 = .ok (.iload_n 0, 1) := by decide +kernel
theorem dJ3_checkIndex_8e157_1 : decode cJ3_checkIndex_8e157 1 = .ok (.ifCond .lt 8, 3) := by decide +kernel
theorem dJ3_checkIndex_8e157_4 : decode cJ3_checkIndex_8e157 4 = .ok (.iload_n 0, 1) := by decide +kernel
theorem dJ3_checkIndex_8e157_5 : decode cJ3_checkIndex_8e157 5 = .ok (.iload_n 1, 1) := by decide +kernel
theorem dJ3_checkIndex_8e157_6 : decode cJ3_checkIndex_8e157 6 = .ok (.if_icmp .lt 10, 3) := by decide +kernel
theorem dJ3_checkIndex_8e157_9 : decode cJ3_checkIndex_8e157 9 = .ok (.aload_n 2, 1) := by decide +kernel
theorem dJ3_checkIndex_8e157_10 : decode cJ3_checkIndex_8e157 10 = .ok (.iload_n 0, 1) := by decide +kernel
theorem dJ3_checkIndex_8e157_11 : decode cJ3_checkIndex_8e157 11 = .ok (.iload_n 1, 1) := by decide +kernel
theorem dJ3_checkIndex_8e157_12 : decode cJ3_checkIndex_8e157 12 = .ok (.invokestatic 95, 3) := by decide +kernel
theorem dJ3_checkIndex_8e157_15 : decode cJ3_checkIndex_8e157 15 = .ok (.athrow, 1) := by decide +kernel
theorem dJ3_checkIndex_8e157_16 : decode cJ3_checkIndex_8e157 16 = .ok (.iload_n 0, 1) := by decide +kernel
theorem dJ3_checkIndex_8e157_17 : decode cJ3_checkIndex_8e157 17 = .ok (.ireturn, 1) := by decide +kernel
