theorem dk_L_law_324 : decode code 324 = .ok (.aload_n 2, 1) := by decide +kernel
theorem dk_L_law_325 : decode code 325 = .ok (.aload_n 0, 1) := by decide +kernel
theorem dk_L_law_326 : decode code 326 = .ok (.iload_n 3, 1) := by decide +kernel
theorem dk_L_law_327 : decode code 327 = .ok (.iconst 1, 1) := by decide +kernel
theorem dk_L_law_328 : decode code 328 = .ok (.iadd, 1) := by decide +kernel
theorem dk_L_law_329 : decode code 329 = .ok (.iaload, 1) := by decide +kernel
theorem dk_L_law_330 : decode code 330 = .ok (.aload_n 0, 1) := by decide +kernel
theorem dk_L_law_331 : decode code 331 = .ok (.iload_n 3, 1) := by decide +kernel
theorem dk_L_law_332 : decode code 332 = .ok (.iconst 2, 1) := by decide +kernel
theorem dk_L_law_333 : decode code 333 = .ok (.iadd, 1) := by decide +kernel
theorem dk_L_law_334 : decode code 334 = .ok (.iaload, 1) := by decide +kernel
theorem dk_L_law_335 : decode code 335 = .ok (.ifCond .eq 7, 3) := by decide +kernel
theorem dk_L_law_338 : decode code 338 = .ok (.iconst 1, 1) := by decide +kernel
theorem dk_L_law_339 : decode code 339 = .ok (.goto 4, 3) := by decide +kernel
theorem dk_L_law_342 : decode code 342 = .ok (.iconst 0, 1) := by decide +kernel
theorem dk_L_law_343 : decode code 343 = .ok (.aload_n 0, 1) := by decide +kernel
theorem dk_L_law_344 : decode code 344 = .ok (.iload_n 3, 1) := by decide +kernel
theorem dk_L_law_345 : decode code 345 = .ok (.iconst 3, 1) := by decide +kernel
theorem dk_L_law_346 : decode code 346 = .ok (.iadd, 1) := by decide +kernel
theorem dk_L_law_347 : decode code 347 = .ok (.iaload, 1) := by decide +kernel
theorem dk_L_law_348 : decode code 348 = .ok (.aload_n 0, 1) := by decide +kernel
theorem dk_L_law_349 : decode code 349 = .ok (.iload_n 3, 1) := by decide +kernel
theorem dk_L_law_350 : decode code 350 = .ok (.iconst 4, 1) := by decide +kernel
theorem dk_L_law_351 : decode code 351 = .ok (.iadd, 1) := by decide +kernel
theorem dk_L_law_352 : decode code 352 = .ok (.iaload, 1) := by decide +kernel
theorem dk_L_law_353 : decode code 353 = .ok (.invokevirtual 45, 3) := by decide +kernel
theorem dk_L_law_356 : decode code 356 = .ok (.if_icmp .eq 562, 3) := by decide +kernel
theorem dk_L_law_359 : decode code 359 = .ok (.iconst 0, 1) := by decide +kernel
theorem dk_L_law_360 : decode code 360 = .ok (.ireturn, 1) := by decide +kernel
theorem dk_L_law_361 : decode code 361 = .ok (.aload_n 1, 1) := by decide +kernel
theorem dk_L_law_362 : decode code 362 = .ok (.invokevirtual 46, 3) := by decide +kernel
theorem dk_L_law_365 : decode code 365 = .ok (.aload_n 2, 1) := by decide +kernel
theorem dk_L_law_366 : decode code 366 = .ok (.invokevirtual 49, 3) := by decide +kernel
theorem dk_L_law_369 : decode code 369 = .ok (.if_icmp .eq 549, 3) := by decide +kernel
theorem dk_L_law_372 : decode code 372 = .ok (.iconst 0, 1) := by decide +kernel
theorem dk_L_law_373 : decode code 373 = .ok (.ireturn, 1) := by decide +kernel
theorem dk_L_law_374 : decode code 374 = .ok (.aload_n 1, 1) := by decide +kernel
theorem dk_L_law_375 : decode code 375 = .ok (.aload_n 0, 1) := by decide +kernel
theorem dk_L_law_376 : decode code 376 = .ok (.iload_n 3, 1) := by decide +kernel
theorem dk_L_law_377 : decode code 377 = .ok (.iconst 1, 1) := by decide +kernel
theorem dk_L_law_378 : decode code 378 = .ok (.iadd, 1) := by decide +kernel
theorem dk_L_law_379 : decode code 379 = .ok (.iaload, 1) := by decide +kernel
theorem dk_L_law_380 : decode code 380 = .ok (.aload_n 0, 1) := by decide +kernel
theorem dk_L_law_381 : decode code 381 = .ok (.iload_n 3, 1) := by decide +kernel
theorem dk_L_law_382 : decode code 382 = .ok (.iconst 2, 1) := by decide +kernel
theorem dk_L_law_383 : decode code 383 = .ok (.iadd, 1) := by decide +kernel
theorem dk_L_law_384 : decode code 384 = .ok (.iaload, 1) := by decide +kernel
theorem dk_L_law_385 : decode code 385 = .ok (.invokevirtual 50, 3) := by decide +kernel
theorem dk_L_law_388 : decode code 388 = .ok (.aload_n 2, 1) := by decide +kernel
theorem dk_L_law_389 : decode code 389 = .ok (.aload_n 0, 1) := by decide +kernel
theorem dk_L_law_390 : decode code 390 = .ok (.iload_n 3, 1) := by decide +kernel
theorem dk_L_law_391 : decode code 391 = .ok (.iconst 1, 1) := by decide +kernel
theorem dk_L_law_392 : decode code 392 = .ok (.iadd, 1) := by decide +kernel
theorem dk_L_law_393 : decode code 393 = .ok (.iaload, 1) := by decide +kernel
theorem dk_L_law_394 : decode code 394 = .ok (.aload_n 0, 1) := by decide +kernel
theorem dk_L_law_395 : decode code 395 = .ok (.iload_n 3, 1) := by decide +kernel
theorem dk_L_law_396 : decode code 396 = .ok (.iconst 2, 1) := by decide +kernel
theorem dk_L_law_397 : decode code 397 = .ok (.iadd, 1) := by decide +kernel
theorem dk_L_law_398 : decode code 398 = .ok (.iaload, 1) := by decide +kernel
theorem dk_L_law_399 : decode code 399 = .ok (.invokevirtual 54, 3) := by decide +kernel
theorem dk_L_law_402 : decode code 402 = .ok (.if_icmp .eq 516, 3) := by decide +kernel
theorem dk_L_law_405 : decode code 405 = .ok (.iconst 0, 1) := by decide +kernel
theorem dk_L_law_406 : decode code 406 = .ok (.ireturn, 1) := by decide +kernel
theorem dk_L_law_407 : decode code 407 = .ok (.aload_n 1, 1) := by decide +kernel
theorem dk_L_law_408 : decode code 408 = .ok (.aload_n 0, 1) := by decide +kernel
theorem dk_L_law_409 : decode code 409 = .ok (.iload_n 3, 1) := by decide +kernel
theorem dk_L_law_410 : decode code 410 = .ok (.iconst 1, 1) := by decide +kernel
theorem dk_L_law_411 : decode code 411 = .ok (.iadd, 1) := by decide +kernel
theorem dk_L_law_412 : decode code 412 = .ok (.iaload, 1) := by decide +kernel
theorem dk_L_law_413 : decode code 413 = .ok (.invokevirtual 55, 3) := by decide +kernel
theorem dk_L_law_416 : decode code 416 = .ok (.aload_n 2, 1) := by decide +kernel
theorem dk_L_law_417 : decode code 417 = .ok (.aload_n 0, 1) := by decide +kernel
theorem dk_L_law_418 : decode code 418 = .ok (.iload_n 3, 1) := by decide +kernel
theorem dk_L_law_419 : decode code 419 = .ok (.iconst 1, 1) := by decide +kernel
theorem dk_L_law_420 : decode code 420 = .ok (.iadd, 1) := by decide +kernel
theorem dk_L_law_421 : decode code 421 = .ok (.iaload, 1) := by decide +kernel
theorem dk_L_law_422 : decode code 422 = .ok (.invokevirtual 58, 3) := by decide +kernel
theorem dk_L_law_425 : decode code 425 = .ok (.if_icmp .eq 493, 3) := by decide +kernel
theorem dk_L_law_428 : decode code 428 = .ok (.iconst 0, 1) := by decide +kernel
theorem dk_L_law_429 : decode code 429 = .ok (.ireturn, 1) := by decide +kernel
