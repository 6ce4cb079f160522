theorem d_Law_law_0 : decode k_Law_law 0 = .ok (.new 8, 3) := by decide +kernel
theorem d_Law_law_3 : decode k_Law_law 3 = .ok (.dup, 1) := by decide +kernel
theorem d_Law_law_4 : decode k_Law_law 4 = .ok (.aload_n 0, 1) := by decide +kernel
theorem d_Law_law_5 : decode k_Law_law 5 = .ok (.iconst 0, 1) := by decide +kernel
theorem d_Law_law_6 : decode k_Law_law 6 = .ok (.invokestatic 45, 3) := by decide +kernel
theorem d_Law_law_9 : decode k_Law_law 9 = .ok (.aload_n 0, 1) := by decide +kernel
theorem d_Law_law_10 : decode k_Law_law 10 = .ok (.iconst 1, 1) := by decide +kernel
theorem d_Law_law_11 : decode k_Law_law 11 = .ok (.invokestatic 45, 3) := by decide +kernel
theorem d_Law_law_14 : decode k_Law_law 14 = .ok (.invokespecial 51, 3) := by decide +kernel
theorem d_Law_law_17 : decode k_Law_law 17 = .ok (.astore_n 1, 1) := by decide +kernel
theorem d_Law_law_18 : decode k_Law_law 18 = .ok (.new 54, 3) := by decide +kernel
theorem d_Law_law_21 : decode k_Law_law 21 = .ok (.dup, 1) := by decide +kernel
theorem d_Law_law_22 : decode k_Law_law 22 = .ok (.aload_n 0, 1) := by decide +kernel
theorem d_Law_law_23 : decode k_Law_law 23 = .ok (.iconst 0, 1) := by decide +kernel
theorem d_Law_law_24 : decode k_Law_law 24 = .ok (.invokestatic 45, 3) := by decide +kernel
theorem d_Law_law_27 : decode k_Law_law 27 = .ok (.aload_n 0, 1) := by decide +kernel
theorem d_Law_law_28 : decode k_Law_law 28 = .ok (.iconst 1, 1) := by decide +kernel
theorem d_Law_law_29 : decode k_Law_law 29 = .ok (.invokestatic 45, 3) := by decide +kernel
theorem d_Law_law_32 : decode k_Law_law 32 = .ok (.invokespecial 56, 3) := by decide +kernel
theorem d_Law_law_35 : decode k_Law_law 35 = .ok (.astore_n 2, 1) := by decide +kernel
theorem d_Law_law_36 : decode k_Law_law 36 = .ok (.iconst 1, 1) := by decide +kernel
theorem d_Law_law_37 : decode k_Law_law 37 = .ok (.newarray .long, 2) := by decide +kernel
theorem d_Law_law_39 : decode k_Law_law 39 = .ok (.astore_n 3, 1) := by decide +kernel
theorem d_Law_law_40 : decode k_Law_law 40 = .ok (.iconst 2, 1) := by decide +kernel
theorem d_Law_law_41 : decode k_Law_law 41 = .ok (.istore 4, 2) := by decide +kernel
theorem d_Law_law_43 : decode k_Law_law 43 = .ok (.iload 4, 2) := by decide +kernel
theorem d_Law_law_45 : decode k_Law_law 45 = .ok (.aload_n 0, 1) := by decide +kernel
theorem d_Law_law_46 : decode k_Law_law 46 = .ok (.arraylength, 1) := by decide +kernel
theorem d_Law_law_47 : decode k_Law_law 47 = .ok (.iconst 4, 1) := by decide +kernel
theorem d_Law_law_48 : decode k_Law_law 48 = .ok (.isub, 1) := by decide +kernel
theorem d_Law_law_49 : decode k_Law_law 49 = .ok (.if_icmp .gt 626, 3) := by decide +kernel
theorem d_Law_law_52 : decode k_Law_law 52 = .ok (.aload_n 0, 1) := by decide +kernel
theorem d_Law_law_53 : decode k_Law_law 53 = .ok (.iload 4, 2) := by decide +kernel
theorem d_Law_law_55 : decode k_Law_law 55 = .ok (.iaload, 1) := by decide +kernel
theorem d_Law_law_56 : decode k_Law_law 56 = .ok (.bipush 15, 2) := by decide +kernel
theorem d_Law_law_58 : decode k_Law_law 58 = .ok (.iand, 1) := by decide +kernel
theorem d_Law_law_59 : decode k_Law_law 59 = .ok (.tableswitch 610 0 10 #[57, 157, 225, 238, 306, 362, 406, 462, 518, 574, 599], 57) := by decide +kernel
theorem d_Law_law_116 : decode k_Law_law 116 = .ok (.aload_n 1, 1) := by decide +kernel
theorem d_Law_law_117 : decode k_Law_law 117 = .ok (.aload_n 0, 1) := by decide +kernel
theorem d_Law_law_118 : decode k_Law_law 118 = .ok (.iload 4, 2) := by decide +kernel
theorem d_Law_law_120 : decode k_Law_law 120 = .ok (.iconst 1, 1) := by decide +kernel
theorem d_Law_law_121 : decode k_Law_law 121 = .ok (.iadd, 1) := by decide +kernel
theorem d_Law_law_122 : decode k_Law_law 122 = .ok (.iaload, 1) := by decide +kernel
theorem d_Law_law_123 : decode k_Law_law 123 = .ok (.i2l, 1) := by decide +kernel
theorem d_Law_law_124 : decode k_Law_law 124 = .ok (.bipush 32, 2) := by decide +kernel
theorem d_Law_law_126 : decode k_Law_law 126 = .ok (.lshl, 1) := by decide +kernel
theorem d_Law_law_127 : decode k_Law_law 127 = .ok (.aload_n 0, 1) := by decide +kernel
theorem d_Law_law_128 : decode k_Law_law 128 = .ok (.iload 4, 2) := by decide +kernel
theorem d_Law_law_130 : decode k_Law_law 130 = .ok (.iconst 2, 1) := by decide +kernel
theorem d_Law_law_131 : decode k_Law_law 131 = .ok (.iadd, 1) := by decide +kernel
