theorem d_L_law_338 : decode code 338 = .ok (.iconst 0, 1) := by decide +kernel
theorem d_L_law_339 : decode code 339 = .ok (.laload, 1) := by decide +kernel
theorem d_L_law_340 : decode code 340 = .ok (.iload 6, 2) := by decide +kernel
theorem d_L_law_342 : decode code 342 = .ok (.ifCond .eq 7, 3) := by decide +kernel
theorem d_L_law_345 : decode code 345 = .ok (.lconst 1, 1) := by decide +kernel
theorem d_L_law_346 : decode code 346 = .ok (.goto 4, 3) := by decide +kernel
theorem d_L_law_349 : decode code 349 = .ok (.lconst 0, 1) := by decide +kernel
theorem d_L_law_350 : decode code 350 = .ok (.lcmp, 1) := by decide +kernel
theorem d_L_law_351 : decode code 351 = .ok (.ifCond .eq 5, 3) := by decide +kernel
theorem d_L_law_354 : decode code 354 = .ok (.iconst 0, 1) := by decide +kernel
theorem d_L_law_355 : decode code 355 = .ok (.ireturn, 1) := by decide +kernel
theorem d_L_law_356 : decode code 356 = .ok (.goto 527, 3) := by decide +kernel
theorem d_L_law_359 : decode code 359 = .ok (.aload_n 1, 1) := by decide +kernel
theorem d_L_law_360 : decode code 360 = .ok (.invokevirtual 87, 3) := by decide +kernel
theorem d_L_law_363 : decode code 363 = .ok (.aload_n 2, 1) := by decide +kernel
theorem d_L_law_364 : decode code 364 = .ok (.invokevirtual 90, 3) := by decide +kernel
theorem d_L_law_367 : decode code 367 = .ok (.if_icmp .eq 516, 3) := by decide +kernel
theorem d_L_law_370 : decode code 370 = .ok (.iconst 0, 1) := by decide +kernel
theorem d_L_law_371 : decode code 371 = .ok (.ireturn, 1) := by decide +kernel
theorem d_L_law_372 : decode code 372 = .ok (.aload_n 1, 1) := by decide +kernel
theorem d_L_law_373 : decode code 373 = .ok (.aload_n 0, 1) := by decide +kernel
theorem d_L_law_374 : decode code 374 = .ok (.iload 4, 2) := by decide +kernel
theorem d_L_law_376 : decode code 376 = .ok (.iconst 1, 1) := by decide +kernel
theorem d_L_law_377 : decode code 377 = .ok (.iadd, 1) := by decide +kernel
theorem d_L_law_378 : decode code 378 = .ok (.iaload, 1) := by decide +kernel
theorem d_L_law_379 : decode code 379 = .ok (.aload_n 3, 1) := by decide +kernel
theorem d_L_law_380 : decode code 380 = .ok (.invokestatic 91, 3) := by decide +kernel
theorem d_L_law_383 : decode code 383 = .ok (.istore 5, 2) := by decide +kernel
theorem d_L_law_385 : decode code 385 = .ok (.aload_n 2, 1) := by decide +kernel
theorem d_L_law_386 : decode code 386 = .ok (.aload_n 0, 1) := by decide +kernel
theorem d_L_law_387 : decode code 387 = .ok (.iload 4, 2) := by decide +kernel
theorem d_L_law_389 : decode code 389 = .ok (.iconst 1, 1) := by decide +kernel
theorem d_L_law_390 : decode code 390 = .ok (.iadd, 1) := by decide +kernel
theorem d_L_law_391 : decode code 391 = .ok (.iaload, 1) := by decide +kernel
theorem d_L_law_392 : decode code 392 = .ok (.invokevirtual 94, 3) := by decide +kernel
theorem d_L_law_395 : decode code 395 = .ok (.istore 6, 2) := by decide +kernel
theorem d_L_law_397 : decode code 397 = .ok (.aload_n 2, 1) := by decide +kernel
theorem d_L_law_398 : decode code 398 = .ok (.invokevirtual 73, 3) := by decide +kernel
theorem d_L_law_401 : decode code 401 = .ok (.iload 5, 2) := by decide +kernel
theorem d_L_law_403 : decode code 403 = .ok (.if_icmp .eq 5, 3) := by decide +kernel
theorem d_L_law_406 : decode code 406 = .ok (.iconst 0, 1) := by decide +kernel
theorem d_L_law_407 : decode code 407 = .ok (.ireturn, 1) := by decide +kernel
theorem d_L_law_408 : decode code 408 = .ok (.iload 5, 2) := by decide +kernel
theorem d_L_law_410 : decode code 410 = .ok (.ifCond .ne 15, 3) := by decide +kernel
theorem d_L_law_413 : decode code 413 = .ok (.aload_n 3, 1) := by decide +kernel
theorem d_L_law_414 : decode code 414 = .ok (.iconst 0, 1) := by decide +kernel
theorem d_L_law_415 : decode code 415 = .ok (.laload, 1) := by decide +kernel
theorem d_L_law_416 : decode code 416 = .ok (.iload 6, 2) := by decide +kernel
theorem d_L_law_418 : decode code 418 = .ok (.i2l, 1) := by decide +kernel
theorem d_L_law_419 : decode code 419 = .ok (.lcmp, 1) := by decide +kernel
theorem d_L_law_420 : decode code 420 = .ok (.ifCond .eq 5, 3) := by decide +kernel
theorem d_L_law_423 : decode code 423 = .ok (.iconst 0, 1) := by decide +kernel
theorem d_L_law_424 : decode code 424 = .ok (.ireturn, 1) := by decide +kernel
theorem d_L_law_425 : decode code 425 = .ok (.goto 458, 3) := by decide +kernel
theorem d_L_law_428 : decode code 428 = .ok (.aload_n 1, 1) := by decide +kernel
theorem d_L_law_429 : decode code 429 = .ok (.aload_n 3, 1) := by decide +kernel
theorem d_L_law_430 : decode code 430 = .ok (.invokestatic 95, 3) := by decide +kernel
theorem d_L_law_433 : decode code 433 = .ok (.istore 5, 2) := by decide +kernel
theorem d_L_law_435 : decode code 435 = .ok (.aload_n 2, 1) := by decide +kernel
theorem d_L_law_436 : decode code 436 = .ok (.invokevirtual 98, 3) := by decide +kernel
