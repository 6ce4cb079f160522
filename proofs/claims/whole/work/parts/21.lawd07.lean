theorem d_Law_law_602 : decode k_Law_law 602 = .ok (.aload_n 2, 1) := by decide +kernel
theorem d_Law_law_603 : decode k_Law_law 603 = .ok (.invokevirtual 63, 3) := by decide +kernel
theorem d_Law_law_606 : decode k_Law_law 606 = .ok (.iload 5, 2) := by decide +kernel
theorem d_Law_law_608 : decode k_Law_law 608 = .ok (.if_icmp .eq 5, 3) := by decide +kernel
theorem d_Law_law_611 : decode k_Law_law 611 = .ok (.iconst 0, 1) := by decide +kernel
theorem d_Law_law_612 : decode k_Law_law 612 = .ok (.ireturn, 1) := by decide +kernel
theorem d_Law_law_613 : decode k_Law_law 613 = .ok (.iload 5, 2) := by decide +kernel
theorem d_Law_law_615 : decode k_Law_law 615 = .ok (.ifCond .ne 15, 3) := by decide +kernel
theorem d_Law_law_618 : decode k_Law_law 618 = .ok (.aload_n 3, 1) := by decide +kernel
theorem d_Law_law_619 : decode k_Law_law 619 = .ok (.iconst 0, 1) := by decide +kernel
theorem d_Law_law_620 : decode k_Law_law 620 = .ok (.laload, 1) := by decide +kernel
theorem d_Law_law_621 : decode k_Law_law 621 = .ok (.iload 6, 2) := by decide +kernel
theorem d_Law_law_623 : decode k_Law_law 623 = .ok (.i2l, 1) := by decide +kernel
theorem d_Law_law_624 : decode k_Law_law 624 = .ok (.lcmp, 1) := by decide +kernel
theorem d_Law_law_625 : decode k_Law_law 625 = .ok (.ifCond .eq 5, 3) := by decide +kernel
theorem d_Law_law_628 : decode k_Law_law 628 = .ok (.iconst 0, 1) := by decide +kernel
theorem d_Law_law_629 : decode k_Law_law 629 = .ok (.ireturn, 1) := by decide +kernel
theorem d_Law_law_630 : decode k_Law_law 630 = .ok (.goto 39, 3) := by decide +kernel
theorem d_Law_law_633 : decode k_Law_law 633 = .ok (.aload_n 1, 1) := by decide +kernel
theorem d_Law_law_634 : decode k_Law_law 634 = .ok (.aload_n 0, 1) := by decide +kernel
theorem d_Law_law_635 : decode k_Law_law 635 = .ok (.iload 4, 2) := by decide +kernel
theorem d_Law_law_637 : decode k_Law_law 637 = .ok (.iconst 1, 1) := by decide +kernel
theorem d_Law_law_638 : decode k_Law_law 638 = .ok (.iadd, 1) := by decide +kernel
theorem d_Law_law_639 : decode k_Law_law 639 = .ok (.iaload, 1) := by decide +kernel
theorem d_Law_law_640 : decode k_Law_law 640 = .ok (.invokevirtual 94, 3) := by decide +kernel
theorem d_Law_law_643 : decode k_Law_law 643 = .ok (.aload_n 2, 1) := by decide +kernel
theorem d_Law_law_644 : decode k_Law_law 644 = .ok (.aload_n 0, 1) := by decide +kernel
theorem d_Law_law_645 : decode k_Law_law 645 = .ok (.iload 4, 2) := by decide +kernel
theorem d_Law_law_647 : decode k_Law_law 647 = .ok (.iconst 1, 1) := by decide +kernel
theorem d_Law_law_648 : decode k_Law_law 648 = .ok (.iadd, 1) := by decide +kernel
theorem d_Law_law_649 : decode k_Law_law 649 = .ok (.iaload, 1) := by decide +kernel
theorem d_Law_law_650 : decode k_Law_law 650 = .ok (.invokevirtual 97, 3) := by decide +kernel
theorem d_Law_law_653 : decode k_Law_law 653 = .ok (.if_icmp .eq 16, 3) := by decide +kernel
theorem d_Law_law_656 : decode k_Law_law 656 = .ok (.iconst 0, 1) := by decide +kernel
theorem d_Law_law_657 : decode k_Law_law 657 = .ok (.ireturn, 1) := by decide +kernel
theorem d_Law_law_658 : decode k_Law_law 658 = .ok (.aload_n 1, 1) := by decide +kernel
theorem d_Law_law_659 : decode k_Law_law 659 = .ok (.invokevirtual 98, 3) := by decide +kernel
theorem d_Law_law_662 : decode k_Law_law 662 = .ok (.aload_n 2, 1) := by decide +kernel
theorem d_Law_law_663 : decode k_Law_law 663 = .ok (.invokevirtual 101, 3) := by decide +kernel
theorem d_Law_law_666 : decode k_Law_law 666 = .ok (.goto 3, 3) := by decide +kernel
theorem d_Law_law_669 : decode k_Law_law 669 = .ok (.iinc 4 4, 3) := by decide +kernel
theorem d_Law_law_672 : decode k_Law_law 672 = .ok (.goto (-629), 3) := by decide +kernel
theorem d_Law_law_675 : decode k_Law_law 675 = .ok (.iconst 1, 1) := by decide +kernel
theorem d_Law_law_676 : decode k_Law_law 676 = .ok (.ireturn, 1) := by decide +kernel
