theorem d_Boxes_init_0 : decode k_Boxes_init 0 = .ok (.aload_n 0, 1) := by decide +kernel
theorem d_Boxes_init_1 : decode k_Boxes_init 1 = .ok (.invokespecial 1, 3) := by decide +kernel
theorem d_Boxes_init_4 : decode k_Boxes_init 4 = .ok (.aload_n 0, 1) := by decide +kernel
theorem d_Boxes_init_5 : decode k_Boxes_init 5 = .ok (.bipush 8, 2) := by decide +kernel
theorem d_Boxes_init_7 : decode k_Boxes_init 7 = .ok (.newarray .int, 2) := by decide +kernel
theorem d_Boxes_init_9 : decode k_Boxes_init 9 = .ok (.putfield 9, 3) := by decide +kernel
theorem d_Boxes_init_12 : decode k_Boxes_init 12 = .ok (.aload_n 0, 1) := by decide +kernel
theorem d_Boxes_init_13 : decode k_Boxes_init 13 = .ok (.bipush 8, 2) := by decide +kernel
theorem d_Boxes_init_15 : decode k_Boxes_init 15 = .ok (.newarray .int, 2) := by decide +kernel
theorem d_Boxes_init_17 : decode k_Boxes_init 17 = .ok (.putfield 13, 3) := by decide +kernel
theorem d_Boxes_init_20 : decode k_Boxes_init 20 = .ok (.aload_n 0, 1) := by decide +kernel
theorem d_Boxes_init_21 : decode k_Boxes_init 21 = .ok (.bipush 8, 2) := by decide +kernel
theorem d_Boxes_init_23 : decode k_Boxes_init 23 = .ok (.newarray .int, 2) := by decide +kernel
theorem d_Boxes_init_25 : decode k_Boxes_init 25 = .ok (.putfield 16, 3) := by decide +kernel
theorem d_Boxes_init_28 : decode k_Boxes_init 28 = .ok (.aload_n 0, 1) := by decide +kernel
theorem d_Boxes_init_29 : decode k_Boxes_init 29 = .ok (.bipush 8, 2) := by decide +kernel
theorem d_Boxes_init_31 : decode k_Boxes_init 31 = .ok (.iconst 5, 1) := by decide +kernel
theorem d_Boxes_init_32 : decode k_Boxes_init 32 = .ok (.multianewarray 19 2, 4) := by decide +kernel
theorem d_Boxes_init_36 : decode k_Boxes_init 36 = .ok (.putfield 21, 3) := by decide +kernel
theorem d_Boxes_init_39 : decode k_Boxes_init 39 = .ok (.return_, 1) := by decide +kernel
theorem d_Boxes_emptyAll_0 : decode k_Boxes_emptyAll 0 = .ok (.iconst 0, 1) := by decide +kernel
theorem d_Boxes_emptyAll_1 : decode k_Boxes_emptyAll 1 = .ok (.istore_n 1, 1) := by decide +kernel
theorem d_Boxes_emptyAll_2 : decode k_Boxes_emptyAll 2 = .ok (.iload_n 1, 1) := by decide +kernel
theorem d_Boxes_emptyAll_3 : decode k_Boxes_emptyAll 3 = .ok (.bipush 8, 2) := by decide +kernel
theorem d_Boxes_emptyAll_5 : decode k_Boxes_emptyAll 5 = .ok (.if_icmp .ge 16, 3) := by decide +kernel
theorem d_Boxes_emptyAll_8 : decode k_Boxes_emptyAll 8 = .ok (.aload_n 0, 1) := by decide +kernel
theorem d_Boxes_emptyAll_9 : decode k_Boxes_emptyAll 9 = .ok (.getfield 9, 3) := by decide +kernel
theorem d_Boxes_emptyAll_12 : decode k_Boxes_emptyAll 12 = .ok (.iload_n 1, 1) := by decide +kernel
theorem d_Boxes_emptyAll_13 : decode k_Boxes_emptyAll 13 = .ok (.iconst 0, 1) := by decide +kernel
theorem d_Boxes_emptyAll_14 : decode k_Boxes_emptyAll 14 = .ok (.iastore, 1) := by decide +kernel
theorem d_Boxes_emptyAll_15 : decode k_Boxes_emptyAll 15 = .ok (.iinc 1 1, 3) := by decide +kernel
theorem d_Boxes_emptyAll_18 : decode k_Boxes_emptyAll 18 = .ok (.goto (-16), 3) := by decide +kernel
theorem d_Boxes_emptyAll_21 : decode k_Boxes_emptyAll 21 = .ok (.return_, 1) := by decide +kernel
theorem d_Boxes_putNumber_0 : decode k_Boxes_putNumber 0 = .ok (.aload_n 0, 1) := by decide +kernel
theorem d_Boxes_putNumber_1 : decode k_Boxes_putNumber 1 = .ok (.getfield 9, 3) := by decide +kernel
theorem d_Boxes_putNumber_4 : decode k_Boxes_putNumber 4 = .ok (.iload_n 1, 1) := by decide +kernel
theorem d_Boxes_putNumber_5 : decode k_Boxes_putNumber 5 = .ok (.iconst 1, 1) := by decide +kernel
theorem d_Boxes_putNumber_6 : decode k_Boxes_putNumber 6 = .ok (.iastore, 1) := by decide +kernel
theorem d_Boxes_putNumber_7 : decode k_Boxes_putNumber 7 = .ok (.aload_n 0, 1) := by decide +kernel
theorem d_Boxes_putNumber_8 : decode k_Boxes_putNumber 8 = .ok (.getfield 13, 3) := by decide +kernel
theorem d_Boxes_putNumber_11 : decode k_Boxes_putNumber 11 = .ok (.iload_n 1, 1) := by decide +kernel
theorem d_Boxes_putNumber_12 : decode k_Boxes_putNumber 12 = .ok (.iload_n 2, 1) := by decide +kernel
theorem d_Boxes_putNumber_13 : decode k_Boxes_putNumber 13 = .ok (.iastore, 1) := by decide +kernel
theorem d_Boxes_putNumber_14 : decode k_Boxes_putNumber 14 = .ok (.return_, 1) := by decide +kernel
theorem d_Boxes_putRow_0 : decode k_Boxes_putRow 0 = .ok (.aload_n 0, 1) := by decide +kernel
theorem d_Boxes_putRow_1 : decode k_Boxes_putRow 1 = .ok (.getfield 9, 3) := by decide +kernel
theorem d_Boxes_putRow_4 : decode k_Boxes_putRow 4 = .ok (.iload_n 1, 1) := by decide +kernel
theorem d_Boxes_putRow_5 : decode k_Boxes_putRow 5 = .ok (.iconst 2, 1) := by decide +kernel
theorem d_Boxes_putRow_6 : decode k_Boxes_putRow 6 = .ok (.iastore, 1) := by decide +kernel
theorem d_Boxes_putRow_7 : decode k_Boxes_putRow 7 = .ok (.aload_n 0, 1) := by decide +kernel
theorem d_Boxes_putRow_8 : decode k_Boxes_putRow 8 = .ok (.getfield 16, 3) := by decide +kernel
theorem d_Boxes_putRow_11 : decode k_Boxes_putRow 11 = .ok (.iload_n 1, 1) := by decide +kernel
theorem d_Boxes_putRow_12 : decode k_Boxes_putRow 12 = .ok (.iload_n 2, 1) := by decide +kernel
theorem d_Boxes_putRow_13 : decode k_Boxes_putRow 13 = .ok (.iastore, 1) := by decide +kernel
theorem d_Boxes_putRow_14 : decode k_Boxes_putRow 14 = .ok (.iconst 0, 1) := by decide +kernel
theorem d_Boxes_putRow_15 : decode k_Boxes_putRow 15 = .ok (.istore_n 3, 1) := by decide +kernel
theorem d_Boxes_putRow_16 : decode k_Boxes_putRow 16 = .ok (.iload_n 3, 1) := by decide +kernel
theorem d_Boxes_putRow_17 : decode k_Boxes_putRow 17 = .ok (.iconst 5, 1) := by decide +kernel
theorem d_Boxes_putRow_18 : decode k_Boxes_putRow 18 = .ok (.if_icmp .ge 18, 3) := by decide +kernel
theorem d_Boxes_putRow_21 : decode k_Boxes_putRow 21 = .ok (.aload_n 0, 1) := by decide +kernel
theorem d_Boxes_putRow_22 : decode k_Boxes_putRow 22 = .ok (.getfield 21, 3) := by decide +kernel
theorem d_Boxes_putRow_25 : decode k_Boxes_putRow 25 = .ok (.iload_n 1, 1) := by decide +kernel
theorem d_Boxes_putRow_26 : decode k_Boxes_putRow 26 = .ok (.aaload, 1) := by decide +kernel
theorem d_Boxes_putRow_27 : decode k_Boxes_putRow 27 = .ok (.iload_n 3, 1) := by decide +kernel
theorem d_Boxes_putRow_28 : decode k_Boxes_putRow 28 = .ok (.iconst 0, 1) := by decide +kernel
theorem d_Boxes_putRow_29 : decode k_Boxes_putRow 29 = .ok (.iastore, 1) := by decide +kernel
theorem d_Boxes_putRow_30 : decode k_Boxes_putRow 30 = .ok (.iinc 3 1, 3) := by decide +kernel
theorem d_Boxes_putRow_33 : decode k_Boxes_putRow 33 = .ok (.goto (-17), 3) := by decide +kernel
theorem d_Boxes_putRow_36 : decode k_Boxes_putRow 36 = .ok (.return_, 1) := by decide +kernel
theorem d_Boxes_rowLength_0 : decode k_Boxes_rowLength 0 = .ok (.iload_n 0, 1) := by decide +kernel
theorem d_Boxes_rowLength_1 : decode k_Boxes_rowLength 1 = .ok (.bipush 8, 2) := by decide +kernel
theorem d_Boxes_rowLength_3 : decode k_Boxes_rowLength 3 = .ok (.irem, 1) := by decide +kernel
theorem d_Boxes_rowLength_4 : decode k_Boxes_rowLength 4 = .ok (.iconst 2, 1) := by decide +kernel
theorem d_Boxes_rowLength_5 : decode k_Boxes_rowLength 5 = .ok (.isub, 1) := by decide +kernel
theorem d_Boxes_rowLength_6 : decode k_Boxes_rowLength 6 = .ok (.ireturn, 1) := by decide +kernel
theorem d_Boxes_thrownBy_0 : decode k_Boxes_thrownBy 0 = .ok (.iload_n 1, 1) := by decide +kernel
theorem d_Boxes_thrownBy_1 : decode k_Boxes_thrownBy 1 = .ok (.tableswitch 80 1 7 #[43, 56, 63, 70, 70, 80, 77], 43) := by decide +kernel
theorem d_Boxes_thrownBy_44 : decode k_Boxes_thrownBy 44 = .ok (.iload_n 3, 1) := by decide +kernel
theorem d_Boxes_thrownBy_45 : decode k_Boxes_thrownBy 45 = .ok (.invokestatic 24, 3) := by decide +kernel
theorem d_Boxes_thrownBy_48 : decode k_Boxes_thrownBy 48 = .ok (.ifCond .ge 7, 3) := by decide +kernel
theorem d_Boxes_thrownBy_51 : decode k_Boxes_thrownBy 51 = .ok (.iconst 5, 1) := by decide +kernel
theorem d_Boxes_thrownBy_52 : decode k_Boxes_thrownBy 52 = .ok (.goto 4, 3) := by decide +kernel
theorem d_Boxes_thrownBy_55 : decode k_Boxes_thrownBy 55 = .ok (.iconst 0, 1) := by decide +kernel
theorem d_Boxes_thrownBy_56 : decode k_Boxes_thrownBy 56 = .ok (.ireturn, 1) := by decide +kernel
theorem d_Boxes_thrownBy_57 : decode k_Boxes_thrownBy 57 = .ok (.aload_n 0, 1) := by decide +kernel
theorem d_Boxes_thrownBy_58 : decode k_Boxes_thrownBy 58 = .ok (.iload_n 2, 1) := by decide +kernel
theorem d_Boxes_thrownBy_59 : decode k_Boxes_thrownBy 59 = .ok (.iconst 1, 1) := by decide +kernel
theorem d_Boxes_thrownBy_60 : decode k_Boxes_thrownBy 60 = .ok (.invokevirtual 30, 3) := by decide +kernel
theorem d_Boxes_thrownBy_63 : decode k_Boxes_thrownBy 63 = .ok (.ireturn, 1) := by decide +kernel
theorem d_Boxes_thrownBy_64 : decode k_Boxes_thrownBy 64 = .ok (.aload_n 0, 1) := by decide +kernel
theorem d_Boxes_thrownBy_65 : decode k_Boxes_thrownBy 65 = .ok (.iload_n 2, 1) := by decide +kernel
theorem d_Boxes_thrownBy_66 : decode k_Boxes_thrownBy 66 = .ok (.iconst 2, 1) := by decide +kernel
theorem d_Boxes_thrownBy_67 : decode k_Boxes_thrownBy 67 = .ok (.invokevirtual 30, 3) := by decide +kernel
theorem d_Boxes_thrownBy_70 : decode k_Boxes_thrownBy 70 = .ok (.ireturn, 1) := by decide +kernel
theorem d_Boxes_thrownBy_71 : decode k_Boxes_thrownBy 71 = .ok (.aload_n 0, 1) := by decide +kernel
theorem d_Boxes_thrownBy_72 : decode k_Boxes_thrownBy 72 = .ok (.iload_n 2, 1) := by decide +kernel
theorem d_Boxes_thrownBy_73 : decode k_Boxes_thrownBy 73 = .ok (.iload_n 3, 1) := by decide +kernel
theorem d_Boxes_thrownBy_74 : decode k_Boxes_thrownBy 74 = .ok (.invokevirtual 34, 3) := by decide +kernel
theorem d_Boxes_thrownBy_77 : decode k_Boxes_thrownBy 77 = .ok (.ireturn, 1) := by decide +kernel
theorem d_Boxes_thrownBy_78 : decode k_Boxes_thrownBy 78 = .ok (.bipush 6, 2) := by decide +kernel
theorem d_Boxes_thrownBy_80 : decode k_Boxes_thrownBy 80 = .ok (.ireturn, 1) := by decide +kernel
theorem d_Boxes_thrownBy_81 : decode k_Boxes_thrownBy 81 = .ok (.iconst 0, 1) := by decide +kernel
theorem d_Boxes_thrownBy_82 : decode k_Boxes_thrownBy 82 = .ok (.ireturn, 1) := by decide +kernel
theorem d_Boxes_thrownUnless_0 : decode k_Boxes_thrownUnless 0 = .ok (.aload_n 0, 1) := by decide +kernel
theorem d_Boxes_thrownUnless_1 : decode k_Boxes_thrownUnless 1 = .ok (.getfield 9, 3) := by decide +kernel
theorem d_Boxes_thrownUnless_4 : decode k_Boxes_thrownUnless 4 = .ok (.iload_n 1, 1) := by decide +kernel
theorem d_Boxes_thrownUnless_5 : decode k_Boxes_thrownUnless 5 = .ok (.iaload, 1) := by decide +kernel
theorem d_Boxes_thrownUnless_6 : decode k_Boxes_thrownUnless 6 = .ok (.ifCond .ne 5, 3) := by decide +kernel
theorem d_Boxes_thrownUnless_9 : decode k_Boxes_thrownUnless 9 = .ok (.iconst 3, 1) := by decide +kernel
theorem d_Boxes_thrownUnless_10 : decode k_Boxes_thrownUnless 10 = .ok (.ireturn, 1) := by decide +kernel
theorem d_Boxes_thrownUnless_11 : decode k_Boxes_thrownUnless 11 = .ok (.aload_n 0, 1) := by decide +kernel
theorem d_Boxes_thrownUnless_12 : decode k_Boxes_thrownUnless 12 = .ok (.getfield 9, 3) := by decide +kernel
theorem d_Boxes_thrownUnless_15 : decode k_Boxes_thrownUnless 15 = .ok (.iload_n 1, 1) := by decide +kernel
theorem d_Boxes_thrownUnless_16 : decode k_Boxes_thrownUnless 16 = .ok (.iaload, 1) := by decide +kernel
theorem d_Boxes_thrownUnless_17 : decode k_Boxes_thrownUnless 17 = .ok (.iload_n 2, 1) := by decide +kernel
theorem d_Boxes_thrownUnless_18 : decode k_Boxes_thrownUnless 18 = .ok (.if_icmp .ne 7, 3) := by decide +kernel
theorem d_Boxes_thrownUnless_21 : decode k_Boxes_thrownUnless 21 = .ok (.iconst 0, 1) := by decide +kernel
theorem d_Boxes_thrownUnless_22 : decode k_Boxes_thrownUnless 22 = .ok (.goto 4, 3) := by decide +kernel
theorem d_Boxes_thrownUnless_25 : decode k_Boxes_thrownUnless 25 = .ok (.iconst 4, 1) := by decide +kernel
theorem d_Boxes_thrownUnless_26 : decode k_Boxes_thrownUnless 26 = .ok (.ireturn, 1) := by decide +kernel
theorem d_Boxes_thrownUnlessInRow_0 : decode k_Boxes_thrownUnlessInRow 0 = .ok (.aload_n 0, 1) := by decide +kernel
theorem d_Boxes_thrownUnlessInRow_1 : decode k_Boxes_thrownUnlessInRow 1 = .ok (.iload_n 1, 1) := by decide +kernel
theorem d_Boxes_thrownUnlessInRow_2 : decode k_Boxes_thrownUnlessInRow 2 = .ok (.iconst 2, 1) := by decide +kernel
theorem d_Boxes_thrownUnlessInRow_3 : decode k_Boxes_thrownUnlessInRow 3 = .ok (.invokevirtual 30, 3) := by decide +kernel
theorem d_Boxes_thrownUnlessInRow_6 : decode k_Boxes_thrownUnlessInRow 6 = .ok (.istore_n 3, 1) := by decide +kernel
theorem d_Boxes_thrownUnlessInRow_7 : decode k_Boxes_thrownUnlessInRow 7 = .ok (.iload_n 3, 1) := by decide +kernel
theorem d_Boxes_thrownUnlessInRow_8 : decode k_Boxes_thrownUnlessInRow 8 = .ok (.ifCond .eq 5, 3) := by decide +kernel
theorem d_Boxes_thrownUnlessInRow_11 : decode k_Boxes_thrownUnlessInRow 11 = .ok (.iload_n 3, 1) := by decide +kernel
theorem d_Boxes_thrownUnlessInRow_12 : decode k_Boxes_thrownUnlessInRow 12 = .ok (.ireturn, 1) := by decide +kernel
theorem d_Boxes_thrownUnlessInRow_13 : decode k_Boxes_thrownUnlessInRow 13 = .ok (.iload_n 2, 1) := by decide +kernel
theorem d_Boxes_thrownUnlessInRow_14 : decode k_Boxes_thrownUnlessInRow 14 = .ok (.aload_n 0, 1) := by decide +kernel
theorem d_Boxes_thrownUnlessInRow_15 : decode k_Boxes_thrownUnlessInRow 15 = .ok (.getfield 16, 3) := by decide +kernel
theorem d_Boxes_thrownUnlessInRow_18 : decode k_Boxes_thrownUnlessInRow 18 = .ok (.iload_n 1, 1) := by decide +kernel
theorem d_Boxes_thrownUnlessInRow_19 : decode k_Boxes_thrownUnlessInRow 19 = .ok (.iaload, 1) := by decide +kernel
theorem d_Boxes_thrownUnlessInRow_20 : decode k_Boxes_thrownUnlessInRow 20 = .ok (.if_icmp .ge 7, 3) := by decide +kernel
theorem d_Boxes_thrownUnlessInRow_23 : decode k_Boxes_thrownUnlessInRow 23 = .ok (.iconst 0, 1) := by decide +kernel
theorem d_Boxes_thrownUnlessInRow_24 : decode k_Boxes_thrownUnlessInRow 24 = .ok (.goto 4, 3) := by decide +kernel
theorem d_Boxes_thrownUnlessInRow_27 : decode k_Boxes_thrownUnlessInRow 27 = .ok (.iconst 1, 1) := by decide +kernel
theorem d_Boxes_thrownUnlessInRow_28 : decode k_Boxes_thrownUnlessInRow 28 = .ok (.ireturn, 1) := by decide +kernel
