theorem d_Law_law_360 : decode k_Law_law 360 = .ok (.iconst 0, 1) := by decide +kernel
theorem d_Law_law_361 : decode k_Law_law 361 = .ok (.ireturn, 1) := by decide +kernel
theorem d_Law_law_362 : decode k_Law_law 362 = .ok (.goto 307, 3) := by decide +kernel
theorem d_Law_law_365 : decode k_Law_law 365 = .ok (.aload_n 1, 1) := by decide +kernel
theorem d_Law_law_366 : decode k_Law_law 366 = .ok (.aload_n 0, 1) := by decide +kernel
theorem d_Law_law_367 : decode k_Law_law 367 = .ok (.iload 4, 2) := by decide +kernel
theorem d_Law_law_369 : decode k_Law_law 369 = .ok (.iconst 1, 1) := by decide +kernel
theorem d_Law_law_370 : decode k_Law_law 370 = .ok (.iadd, 1) := by decide +kernel
theorem d_Law_law_371 : decode k_Law_law 371 = .ok (.iaload, 1) := by decide +kernel
theorem d_Law_law_372 : decode k_Law_law 372 = .ok (.aload_n 3, 1) := by decide +kernel
theorem d_Law_law_373 : decode k_Law_law 373 = .ok (.invokestatic 77, 3) := by decide +kernel
theorem d_Law_law_376 : decode k_Law_law 376 = .ok (.istore 5, 2) := by decide +kernel
theorem d_Law_law_378 : decode k_Law_law 378 = .ok (.aload_n 2, 1) := by decide +kernel
theorem d_Law_law_379 : decode k_Law_law 379 = .ok (.aload_n 0, 1) := by decide +kernel
theorem d_Law_law_380 : decode k_Law_law 380 = .ok (.iload 4, 2) := by decide +kernel
theorem d_Law_law_382 : decode k_Law_law 382 = .ok (.iconst 1, 1) := by decide +kernel
theorem d_Law_law_383 : decode k_Law_law 383 = .ok (.iadd, 1) := by decide +kernel
theorem d_Law_law_384 : decode k_Law_law 384 = .ok (.iaload, 1) := by decide +kernel
theorem d_Law_law_385 : decode k_Law_law 385 = .ok (.invokevirtual 80, 3) := by decide +kernel
theorem d_Law_law_388 : decode k_Law_law 388 = .ok (.istore 6, 2) := by decide +kernel
theorem d_Law_law_390 : decode k_Law_law 390 = .ok (.aload_n 2, 1) := by decide +kernel
theorem d_Law_law_391 : decode k_Law_law 391 = .ok (.invokevirtual 63, 3) := by decide +kernel
theorem d_Law_law_394 : decode k_Law_law 394 = .ok (.iload 5, 2) := by decide +kernel
theorem d_Law_law_396 : decode k_Law_law 396 = .ok (.if_icmp .eq 5, 3) := by decide +kernel
theorem d_Law_law_399 : decode k_Law_law 399 = .ok (.iconst 0, 1) := by decide +kernel
theorem d_Law_law_400 : decode k_Law_law 400 = .ok (.ireturn, 1) := by decide +kernel
theorem d_Law_law_401 : decode k_Law_law 401 = .ok (.iload 5, 2) := by decide +kernel
theorem d_Law_law_403 : decode k_Law_law 403 = .ok (.ifCond .ne 15, 3) := by decide +kernel
theorem d_Law_law_406 : decode k_Law_law 406 = .ok (.aload_n 3, 1) := by decide +kernel
theorem d_Law_law_407 : decode k_Law_law 407 = .ok (.iconst 0, 1) := by decide +kernel
theorem d_Law_law_408 : decode k_Law_law 408 = .ok (.laload, 1) := by decide +kernel
theorem d_Law_law_409 : decode k_Law_law 409 = .ok (.iload 6, 2) := by decide +kernel
theorem d_Law_law_411 : decode k_Law_law 411 = .ok (.i2l, 1) := by decide +kernel
theorem d_Law_law_412 : decode k_Law_law 412 = .ok (.lcmp, 1) := by decide +kernel
theorem d_Law_law_413 : decode k_Law_law 413 = .ok (.ifCond .eq 5, 3) := by decide +kernel
theorem d_Law_law_416 : decode k_Law_law 416 = .ok (.iconst 0, 1) := by decide +kernel
theorem d_Law_law_417 : decode k_Law_law 417 = .ok (.ireturn, 1) := by decide +kernel
theorem d_Law_law_418 : decode k_Law_law 418 = .ok (.goto 251, 3) := by decide +kernel
theorem d_Law_law_421 : decode k_Law_law 421 = .ok (.aload_n 1, 1) := by decide +kernel
theorem d_Law_law_422 : decode k_Law_law 422 = .ok (.aload_n 3, 1) := by decide +kernel
theorem d_Law_law_423 : decode k_Law_law 423 = .ok (.invokestatic 81, 3) := by decide +kernel
theorem d_Law_law_426 : decode k_Law_law 426 = .ok (.istore 5, 2) := by decide +kernel
theorem d_Law_law_428 : decode k_Law_law 428 = .ok (.aload_n 2, 1) := by decide +kernel
theorem d_Law_law_429 : decode k_Law_law 429 = .ok (.invokevirtual 84, 3) := by decide +kernel
theorem d_Law_law_432 : decode k_Law_law 432 = .ok (.istore 6, 2) := by decide +kernel
theorem d_Law_law_434 : decode k_Law_law 434 = .ok (.aload_n 2, 1) := by decide +kernel
theorem d_Law_law_435 : decode k_Law_law 435 = .ok (.invokevirtual 63, 3) := by decide +kernel
theorem d_Law_law_438 : decode k_Law_law 438 = .ok (.iload 5, 2) := by decide +kernel
theorem d_Law_law_440 : decode k_Law_law 440 = .ok (.if_icmp .eq 5, 3) := by decide +kernel
theorem d_Law_law_443 : decode k_Law_law 443 = .ok (.iconst 0, 1) := by decide +kernel
