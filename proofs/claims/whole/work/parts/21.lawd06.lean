theorem d_Law_law_523 : decode k_Law_law 523 = .ok (.iload 4, 2) := by decide +kernel
theorem d_Law_law_525 : decode k_Law_law 525 = .ok (.iconst 1, 1) := by decide +kernel
theorem d_Law_law_526 : decode k_Law_law 526 = .ok (.iadd, 1) := by decide +kernel
theorem d_Law_law_527 : decode k_Law_law 527 = .ok (.iaload, 1) := by decide +kernel
theorem d_Law_law_528 : decode k_Law_law 528 = .ok (.aload_n 3, 1) := by decide +kernel
theorem d_Law_law_529 : decode k_Law_law 529 = .ok (.invokestatic 88, 3) := by decide +kernel
theorem d_Law_law_532 : decode k_Law_law 532 = .ok (.istore 5, 2) := by decide +kernel
theorem d_Law_law_534 : decode k_Law_law 534 = .ok (.aload_n 2, 1) := by decide +kernel
theorem d_Law_law_535 : decode k_Law_law 535 = .ok (.aload_n 0, 1) := by decide +kernel
theorem d_Law_law_536 : decode k_Law_law 536 = .ok (.iload 4, 2) := by decide +kernel
theorem d_Law_law_538 : decode k_Law_law 538 = .ok (.iconst 1, 1) := by decide +kernel
theorem d_Law_law_539 : decode k_Law_law 539 = .ok (.iadd, 1) := by decide +kernel
theorem d_Law_law_540 : decode k_Law_law 540 = .ok (.iaload, 1) := by decide +kernel
theorem d_Law_law_541 : decode k_Law_law 541 = .ok (.invokevirtual 90, 3) := by decide +kernel
theorem d_Law_law_544 : decode k_Law_law 544 = .ok (.istore 6, 2) := by decide +kernel
theorem d_Law_law_546 : decode k_Law_law 546 = .ok (.aload_n 2, 1) := by decide +kernel
theorem d_Law_law_547 : decode k_Law_law 547 = .ok (.invokevirtual 63, 3) := by decide +kernel
theorem d_Law_law_550 : decode k_Law_law 550 = .ok (.iload 5, 2) := by decide +kernel
theorem d_Law_law_552 : decode k_Law_law 552 = .ok (.if_icmp .eq 5, 3) := by decide +kernel
theorem d_Law_law_555 : decode k_Law_law 555 = .ok (.iconst 0, 1) := by decide +kernel
theorem d_Law_law_556 : decode k_Law_law 556 = .ok (.ireturn, 1) := by decide +kernel
theorem d_Law_law_557 : decode k_Law_law 557 = .ok (.iload 5, 2) := by decide +kernel
theorem d_Law_law_559 : decode k_Law_law 559 = .ok (.ifCond .ne 15, 3) := by decide +kernel
theorem d_Law_law_562 : decode k_Law_law 562 = .ok (.aload_n 3, 1) := by decide +kernel
theorem d_Law_law_563 : decode k_Law_law 563 = .ok (.iconst 0, 1) := by decide +kernel
theorem d_Law_law_564 : decode k_Law_law 564 = .ok (.laload, 1) := by decide +kernel
theorem d_Law_law_565 : decode k_Law_law 565 = .ok (.iload 6, 2) := by decide +kernel
theorem d_Law_law_567 : decode k_Law_law 567 = .ok (.i2l, 1) := by decide +kernel
theorem d_Law_law_568 : decode k_Law_law 568 = .ok (.lcmp, 1) := by decide +kernel
theorem d_Law_law_569 : decode k_Law_law 569 = .ok (.ifCond .eq 5, 3) := by decide +kernel
theorem d_Law_law_572 : decode k_Law_law 572 = .ok (.iconst 0, 1) := by decide +kernel
theorem d_Law_law_573 : decode k_Law_law 573 = .ok (.ireturn, 1) := by decide +kernel
theorem d_Law_law_574 : decode k_Law_law 574 = .ok (.goto 95, 3) := by decide +kernel
theorem d_Law_law_577 : decode k_Law_law 577 = .ok (.aload_n 1, 1) := by decide +kernel
theorem d_Law_law_578 : decode k_Law_law 578 = .ok (.aload_n 0, 1) := by decide +kernel
theorem d_Law_law_579 : decode k_Law_law 579 = .ok (.iload 4, 2) := by decide +kernel
theorem d_Law_law_581 : decode k_Law_law 581 = .ok (.iconst 1, 1) := by decide +kernel
theorem d_Law_law_582 : decode k_Law_law 582 = .ok (.iadd, 1) := by decide +kernel
theorem d_Law_law_583 : decode k_Law_law 583 = .ok (.iaload, 1) := by decide +kernel
theorem d_Law_law_584 : decode k_Law_law 584 = .ok (.aload_n 3, 1) := by decide +kernel
theorem d_Law_law_585 : decode k_Law_law 585 = .ok (.invokestatic 91, 3) := by decide +kernel
theorem d_Law_law_588 : decode k_Law_law 588 = .ok (.istore 5, 2) := by decide +kernel
theorem d_Law_law_590 : decode k_Law_law 590 = .ok (.aload_n 2, 1) := by decide +kernel
theorem d_Law_law_591 : decode k_Law_law 591 = .ok (.aload_n 0, 1) := by decide +kernel
theorem d_Law_law_592 : decode k_Law_law 592 = .ok (.iload 4, 2) := by decide +kernel
theorem d_Law_law_594 : decode k_Law_law 594 = .ok (.iconst 1, 1) := by decide +kernel
theorem d_Law_law_595 : decode k_Law_law 595 = .ok (.iadd, 1) := by decide +kernel
theorem d_Law_law_596 : decode k_Law_law 596 = .ok (.iaload, 1) := by decide +kernel
theorem d_Law_law_597 : decode k_Law_law 597 = .ok (.invokevirtual 93, 3) := by decide +kernel
theorem d_Law_law_600 : decode k_Law_law 600 = .ok (.istore 6, 2) := by decide +kernel
