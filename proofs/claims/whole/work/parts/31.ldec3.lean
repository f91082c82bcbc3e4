theorem dLaw_324 : decode code 324 = .ok (.iload 6, 2) := by decide +kernel
theorem dLaw_326 : decode code 326 = .ok (.i2l, 1) := by decide +kernel
theorem dLaw_327 : decode code 327 = .ok (.lcmp, 1) := by decide +kernel
theorem dLaw_328 : decode code 328 = .ok (.ifCond .eq 5, 3) := by decide +kernel
theorem dLaw_331 : decode code 331 = .ok (.iconst 0, 1) := by decide +kernel
theorem dLaw_332 : decode code 332 = .ok (.ireturn, 1) := by decide +kernel
theorem dLaw_333 : decode code 333 = .ok (.goto 540, 3) := by decide +kernel
theorem dLaw_336 : decode code 336 = .ok (.aload_n 1, 1) := by decide +kernel
theorem dLaw_337 : decode code 337 = .ok (.invokevirtual 66, 3) := by decide +kernel
theorem dLaw_340 : decode code 340 = .ok (.aload_n 2, 1) := by decide +kernel
theorem dLaw_341 : decode code 341 = .ok (.invokevirtual 69, 3) := by decide +kernel
theorem dLaw_344 : decode code 344 = .ok (.if_icmp .eq 529, 3) := by decide +kernel
theorem dLaw_347 : decode code 347 = .ok (.iconst 0, 1) := by decide +kernel
theorem dLaw_348 : decode code 348 = .ok (.ireturn, 1) := by decide +kernel
theorem dLaw_349 : decode code 349 = .ok (.aload_n 1, 1) := by decide +kernel
theorem dLaw_350 : decode code 350 = .ok (.aload_n 0, 1) := by decide +kernel
theorem dLaw_351 : decode code 351 = .ok (.iload 4, 2) := by decide +kernel
theorem dLaw_353 : decode code 353 = .ok (.iconst 1, 1) := by decide +kernel
theorem dLaw_354 : decode code 354 = .ok (.iadd, 1) := by decide +kernel
theorem dLaw_355 : decode code 355 = .ok (.iaload, 1) := by decide +kernel
theorem dLaw_356 : decode code 356 = .ok (.aload_n 3, 1) := by decide +kernel
theorem dLaw_357 : decode code 357 = .ok (.invokestatic 70, 3) := by decide +kernel
theorem dLaw_360 : decode code 360 = .ok (.istore 5, 2) := by decide +kernel
theorem dLaw_362 : decode code 362 = .ok (.aload_n 2, 1) := by decide +kernel
theorem dLaw_363 : decode code 363 = .ok (.aload_n 0, 1) := by decide +kernel
theorem dLaw_364 : decode code 364 = .ok (.iload 4, 2) := by decide +kernel
theorem dLaw_366 : decode code 366 = .ok (.iconst 1, 1) := by decide +kernel
theorem dLaw_367 : decode code 367 = .ok (.iadd, 1) := by decide +kernel
theorem dLaw_368 : decode code 368 = .ok (.iaload, 1) := by decide +kernel
theorem dLaw_369 : decode code 369 = .ok (.invokevirtual 73, 3) := by decide +kernel
theorem dLaw_372 : decode code 372 = .ok (.istore 6, 2) := by decide +kernel
theorem dLaw_374 : decode code 374 = .ok (.aload_n 2, 1) := by decide +kernel
theorem dLaw_375 : decode code 375 = .ok (.invokevirtual 59, 3) := by decide +kernel
theorem dLaw_378 : decode code 378 = .ok (.iload 5, 2) := by decide +kernel
theorem dLaw_380 : decode code 380 = .ok (.if_icmp .eq 5, 3) := by decide +kernel
theorem dLaw_383 : decode code 383 = .ok (.iconst 0, 1) := by decide +kernel
theorem dLaw_384 : decode code 384 = .ok (.ireturn, 1) := by decide +kernel
theorem dLaw_385 : decode code 385 = .ok (.iload 5, 2) := by decide +kernel
theorem dLaw_387 : decode code 387 = .ok (.ifCond .ne 15, 3) := by decide +kernel
theorem dLaw_390 : decode code 390 = .ok (.aload_n 3, 1) := by decide +kernel
theorem dLaw_391 : decode code 391 = .ok (.iconst 0, 1) := by decide +kernel
theorem dLaw_392 : decode code 392 = .ok (.laload, 1) := by decide +kernel
theorem dLaw_393 : decode code 393 = .ok (.iload 6, 2) := by decide +kernel
theorem dLaw_395 : decode code 395 = .ok (.i2l, 1) := by decide +kernel
theorem dLaw_396 : decode code 396 = .ok (.lcmp, 1) := by decide +kernel
theorem dLaw_397 : decode code 397 = .ok (.ifCond .eq 5, 3) := by decide +kernel
theorem dLaw_400 : decode code 400 = .ok (.iconst 0, 1) := by decide +kernel
theorem dLaw_401 : decode code 401 = .ok (.ireturn, 1) := by decide +kernel
theorem dLaw_402 : decode code 402 = .ok (.goto 471, 3) := by decide +kernel
theorem dLaw_405 : decode code 405 = .ok (.aload_n 1, 1) := by decide +kernel
theorem dLaw_406 : decode code 406 = .ok (.aload_n 3, 1) := by decide +kernel
theorem dLaw_407 : decode code 407 = .ok (.invokestatic 74, 3) := by decide +kernel
theorem dLaw_410 : decode code 410 = .ok (.istore 5, 2) := by decide +kernel
theorem dLaw_412 : decode code 412 = .ok (.aload_n 2, 1) := by decide +kernel
theorem dLaw_413 : decode code 413 = .ok (.invokevirtual 77, 3) := by decide +kernel
theorem dLaw_416 : decode code 416 = .ok (.istore 6, 2) := by decide +kernel
theorem dLaw_418 : decode code 418 = .ok (.aload_n 2, 1) := by decide +kernel
theorem dLaw_419 : decode code 419 = .ok (.invokevirtual 59, 3) := by decide +kernel
theorem dLaw_422 : decode code 422 = .ok (.iload 5, 2) := by decide +kernel
theorem dLaw_424 : decode code 424 = .ok (.if_icmp .eq 5, 3) := by decide +kernel
theorem dLaw_427 : decode code 427 = .ok (.iconst 0, 1) := by decide +kernel
theorem dLaw_428 : decode code 428 = .ok (.ireturn, 1) := by decide +kernel
theorem dLaw_429 : decode code 429 = .ok (.iload 5, 2) := by decide +kernel
theorem dLaw_431 : decode code 431 = .ok (.ifCond .ne 15, 3) := by decide +kernel
theorem dLaw_434 : decode code 434 = .ok (.aload_n 3, 1) := by decide +kernel
theorem dLaw_435 : decode code 435 = .ok (.iconst 0, 1) := by decide +kernel
theorem dLaw_436 : decode code 436 = .ok (.laload, 1) := by decide +kernel
theorem dLaw_437 : decode code 437 = .ok (.iload 6, 2) := by decide +kernel
theorem dLaw_439 : decode code 439 = .ok (.i2l, 1) := by decide +kernel
theorem dLaw_440 : decode code 440 = .ok (.lcmp, 1) := by decide +kernel
theorem dLaw_441 : decode code 441 = .ok (.ifCond .eq 5, 3) := by decide +kernel
theorem dLaw_444 : decode code 444 = .ok (.iconst 0, 1) := by decide +kernel
theorem dLaw_445 : decode code 445 = .ok (.ireturn, 1) := by decide +kernel
theorem dLaw_446 : decode code 446 = .ok (.goto 427, 3) := by decide +kernel
theorem dLaw_449 : decode code 449 = .ok (.aload_n 1, 1) := by decide +kernel
theorem dLaw_450 : decode code 450 = .ok (.aload_n 0, 1) := by decide +kernel
theorem dLaw_451 : decode code 451 = .ok (.iload 4, 2) := by decide +kernel
theorem dLaw_453 : decode code 453 = .ok (.iconst 1, 1) := by decide +kernel
theorem dLaw_454 : decode code 454 = .ok (.iadd, 1) := by decide +kernel
theorem dLaw_455 : decode code 455 = .ok (.iaload, 1) := by decide +kernel
theorem dLaw_456 : decode code 456 = .ok (.aload_n 3, 1) := by decide +kernel
theorem dLaw_457 : decode code 457 = .ok (.invokestatic 78, 3) := by decide +kernel
theorem dLaw_460 : decode code 460 = .ok (.istore 5, 2) := by decide +kernel
theorem dLaw_462 : decode code 462 = .ok (.aload_n 2, 1) := by decide +kernel
theorem dLaw_463 : decode code 463 = .ok (.aload_n 0, 1) := by decide +kernel
theorem dLaw_464 : decode code 464 = .ok (.iload 4, 2) := by decide +kernel
theorem dLaw_466 : decode code 466 = .ok (.iconst 1, 1) := by decide +kernel
theorem dLaw_467 : decode code 467 = .ok (.iadd, 1) := by decide +kernel
theorem dLaw_468 : decode code 468 = .ok (.iaload, 1) := by decide +kernel
theorem dLaw_469 : decode code 469 = .ok (.invokevirtual 80, 3) := by decide +kernel
