theorem d_Law_law_444 : decode k_Law_law 444 = .ok (.ireturn, 1) := by decide +kernel
theorem d_Law_law_445 : decode k_Law_law 445 = .ok (.iload 5, 2) := by decide +kernel
theorem d_Law_law_447 : decode k_Law_law 447 = .ok (.ifCond .ne 15, 3) := by decide +kernel
theorem d_Law_law_450 : decode k_Law_law 450 = .ok (.aload_n 3, 1) := by decide +kernel
theorem d_Law_law_451 : decode k_Law_law 451 = .ok (.iconst 0, 1) := by decide +kernel
theorem d_Law_law_452 : decode k_Law_law 452 = .ok (.laload, 1) := by decide +kernel
theorem d_Law_law_453 : decode k_Law_law 453 = .ok (.iload 6, 2) := by decide +kernel
theorem d_Law_law_455 : decode k_Law_law 455 = .ok (.i2l, 1) := by decide +kernel
theorem d_Law_law_456 : decode k_Law_law 456 = .ok (.lcmp, 1) := by decide +kernel
theorem d_Law_law_457 : decode k_Law_law 457 = .ok (.ifCond .eq 5, 3) := by decide +kernel
theorem d_Law_law_460 : decode k_Law_law 460 = .ok (.iconst 0, 1) := by decide +kernel
theorem d_Law_law_461 : decode k_Law_law 461 = .ok (.ireturn, 1) := by decide +kernel
theorem d_Law_law_462 : decode k_Law_law 462 = .ok (.goto 207, 3) := by decide +kernel
theorem d_Law_law_465 : decode k_Law_law 465 = .ok (.aload_n 1, 1) := by decide +kernel
theorem d_Law_law_466 : decode k_Law_law 466 = .ok (.aload_n 0, 1) := by decide +kernel
theorem d_Law_law_467 : decode k_Law_law 467 = .ok (.iload 4, 2) := by decide +kernel
theorem d_Law_law_469 : decode k_Law_law 469 = .ok (.iconst 1, 1) := by decide +kernel
theorem d_Law_law_470 : decode k_Law_law 470 = .ok (.iadd, 1) := by decide +kernel
theorem d_Law_law_471 : decode k_Law_law 471 = .ok (.iaload, 1) := by decide +kernel
theorem d_Law_law_472 : decode k_Law_law 472 = .ok (.aload_n 3, 1) := by decide +kernel
theorem d_Law_law_473 : decode k_Law_law 473 = .ok (.invokestatic 85, 3) := by decide +kernel
theorem d_Law_law_476 : decode k_Law_law 476 = .ok (.istore 5, 2) := by decide +kernel
theorem d_Law_law_478 : decode k_Law_law 478 = .ok (.aload_n 2, 1) := by decide +kernel
theorem d_Law_law_479 : decode k_Law_law 479 = .ok (.aload_n 0, 1) := by decide +kernel
theorem d_Law_law_480 : decode k_Law_law 480 = .ok (.iload 4, 2) := by decide +kernel
theorem d_Law_law_482 : decode k_Law_law 482 = .ok (.iconst 1, 1) := by decide +kernel
theorem d_Law_law_483 : decode k_Law_law 483 = .ok (.iadd, 1) := by decide +kernel
theorem d_Law_law_484 : decode k_Law_law 484 = .ok (.iaload, 1) := by decide +kernel
theorem d_Law_law_485 : decode k_Law_law 485 = .ok (.invokevirtual 87, 3) := by decide +kernel
theorem d_Law_law_488 : decode k_Law_law 488 = .ok (.istore 6, 2) := by decide +kernel
theorem d_Law_law_490 : decode k_Law_law 490 = .ok (.aload_n 2, 1) := by decide +kernel
theorem d_Law_law_491 : decode k_Law_law 491 = .ok (.invokevirtual 63, 3) := by decide +kernel
theorem d_Law_law_494 : decode k_Law_law 494 = .ok (.iload 5, 2) := by decide +kernel
theorem d_Law_law_496 : decode k_Law_law 496 = .ok (.if_icmp .eq 5, 3) := by decide +kernel
theorem d_Law_law_499 : decode k_Law_law 499 = .ok (.iconst 0, 1) := by decide +kernel
theorem d_Law_law_500 : decode k_Law_law 500 = .ok (.ireturn, 1) := by decide +kernel
theorem d_Law_law_501 : decode k_Law_law 501 = .ok (.iload 5, 2) := by decide +kernel
theorem d_Law_law_503 : decode k_Law_law 503 = .ok (.ifCond .ne 15, 3) := by decide +kernel
theorem d_Law_law_506 : decode k_Law_law 506 = .ok (.aload_n 3, 1) := by decide +kernel
theorem d_Law_law_507 : decode k_Law_law 507 = .ok (.iconst 0, 1) := by decide +kernel
theorem d_Law_law_508 : decode k_Law_law 508 = .ok (.laload, 1) := by decide +kernel
theorem d_Law_law_509 : decode k_Law_law 509 = .ok (.iload 6, 2) := by decide +kernel
theorem d_Law_law_511 : decode k_Law_law 511 = .ok (.i2l, 1) := by decide +kernel
theorem d_Law_law_512 : decode k_Law_law 512 = .ok (.lcmp, 1) := by decide +kernel
theorem d_Law_law_513 : decode k_Law_law 513 = .ok (.ifCond .eq 5, 3) := by decide +kernel
theorem d_Law_law_516 : decode k_Law_law 516 = .ok (.iconst 0, 1) := by decide +kernel
theorem d_Law_law_517 : decode k_Law_law 517 = .ok (.ireturn, 1) := by decide +kernel
theorem d_Law_law_518 : decode k_Law_law 518 = .ok (.goto 151, 3) := by decide +kernel
theorem d_Law_law_521 : decode k_Law_law 521 = .ok (.aload_n 1, 1) := by decide +kernel
theorem d_Law_law_522 : decode k_Law_law 522 = .ok (.aload_n 0, 1) := by decide +kernel
