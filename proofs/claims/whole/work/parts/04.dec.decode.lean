theorem d_Dec_init_0 : decode k_Dec_init 0 = .ok (.aload_n 0, 1) := by decide +kernel
theorem d_Dec_init_1 : decode k_Dec_init 1 = .ok (.invokespecial 3, 3) := by decide +kernel
theorem d_Dec_init_4 : decode k_Dec_init 4 = .ok (.aload_n 0, 1) := by decide +kernel
theorem d_Dec_init_5 : decode k_Dec_init 5 = .ok (.bipush 64, 2) := by decide +kernel
theorem d_Dec_init_7 : decode k_Dec_init 7 = .ok (.newarray .int, 2) := by decide +kernel
theorem d_Dec_init_9 : decode k_Dec_init 9 = .ok (.putfield 9, 3) := by decide +kernel
theorem d_Dec_init_12 : decode k_Dec_init 12 = .ok (.aload_n 0, 1) := by decide +kernel
theorem d_Dec_init_13 : decode k_Dec_init 13 = .ok (.bipush 16, 2) := by decide +kernel
theorem d_Dec_init_15 : decode k_Dec_init 15 = .ok (.newarray .int, 2) := by decide +kernel
theorem d_Dec_init_17 : decode k_Dec_init 17 = .ok (.putfield 17, 3) := by decide +kernel
theorem d_Dec_init_20 : decode k_Dec_init 20 = .ok (.aload_n 0, 1) := by decide +kernel
theorem d_Dec_init_21 : decode k_Dec_init 21 = .ok (.new 20, 3) := by decide +kernel
theorem d_Dec_init_24 : decode k_Dec_init 24 = .ok (.dup, 1) := by decide +kernel
theorem d_Dec_init_25 : decode k_Dec_init 25 = .ok (.invokespecial 22, 3) := by decide +kernel
theorem d_Dec_init_28 : decode k_Dec_init 28 = .ok (.putfield 23, 3) := by decide +kernel
theorem d_Dec_init_31 : decode k_Dec_init 31 = .ok (.return_, 1) := by decide +kernel
theorem d_Dec_load_0 : decode k_Dec_load 0 = .ok (.aload_n 0, 1) := by decide +kernel
theorem d_Dec_load_1 : decode k_Dec_load 1 = .ok (.iload_n 3, 1) := by decide +kernel
theorem d_Dec_load_2 : decode k_Dec_load 2 = .ok (.putfield 27, 3) := by decide +kernel
theorem d_Dec_load_5 : decode k_Dec_load 5 = .ok (.aload_n 0, 1) := by decide +kernel
theorem d_Dec_load_6 : decode k_Dec_load 6 = .ok (.iconst 0, 1) := by decide +kernel
theorem d_Dec_load_7 : decode k_Dec_load 7 = .ok (.putfield 31, 3) := by decide +kernel
theorem d_Dec_load_10 : decode k_Dec_load 10 = .ok (.aload_n 1, 1) := by decide +kernel
theorem d_Dec_load_11 : decode k_Dec_load 11 = .ok (.iload_n 2, 1) := by decide +kernel
theorem d_Dec_load_12 : decode k_Dec_load 12 = .ok (.aload_n 0, 1) := by decide +kernel
theorem d_Dec_load_13 : decode k_Dec_load 13 = .ok (.getfield 9, 3) := by decide +kernel
theorem d_Dec_load_16 : decode k_Dec_load 16 = .ok (.iconst 0, 1) := by decide +kernel
theorem d_Dec_load_17 : decode k_Dec_load 17 = .ok (.iload_n 3, 1) := by decide +kernel
theorem d_Dec_load_18 : decode k_Dec_load 18 = .ok (.invokestatic 34, 3) := by decide +kernel
theorem d_Dec_load_21 : decode k_Dec_load 21 = .ok (.return_, 1) := by decide +kernel
theorem d_Dec_makeSamples_0 : decode k_Dec_makeSamples 0 = .ok (.iload_n 1, 1) := by decide +kernel
theorem d_Dec_makeSamples_1 : decode k_Dec_makeSamples 1 = .ok (.tableswitch 51 0 3 #[31, 36, 41, 46], 31) := by decide +kernel
theorem d_Dec_makeSamples_32 : decode k_Dec_makeSamples 32 = .ok (.aload_n 0, 1) := by decide +kernel
theorem d_Dec_makeSamples_33 : decode k_Dec_makeSamples 33 = .ok (.invokevirtual 40, 3) := by decide +kernel
theorem d_Dec_makeSamples_36 : decode k_Dec_makeSamples 36 = .ok (.ireturn, 1) := by decide +kernel
theorem d_Dec_makeSamples_37 : decode k_Dec_makeSamples 37 = .ok (.aload_n 0, 1) := by decide +kernel
theorem d_Dec_makeSamples_38 : decode k_Dec_makeSamples 38 = .ok (.invokevirtual 44, 3) := by decide +kernel
theorem d_Dec_makeSamples_41 : decode k_Dec_makeSamples 41 = .ok (.ireturn, 1) := by decide +kernel
theorem d_Dec_makeSamples_42 : decode k_Dec_makeSamples 42 = .ok (.aload_n 0, 1) := by decide +kernel
theorem d_Dec_makeSamples_43 : decode k_Dec_makeSamples 43 = .ok (.invokevirtual 47, 3) := by decide +kernel
theorem d_Dec_makeSamples_46 : decode k_Dec_makeSamples 46 = .ok (.ireturn, 1) := by decide +kernel
theorem d_Dec_makeSamples_47 : decode k_Dec_makeSamples 47 = .ok (.aload_n 0, 1) := by decide +kernel
theorem d_Dec_makeSamples_48 : decode k_Dec_makeSamples 48 = .ok (.invokevirtual 50, 3) := by decide +kernel
theorem d_Dec_makeSamples_51 : decode k_Dec_makeSamples 51 = .ok (.ireturn, 1) := by decide +kernel
theorem d_Dec_makeSamples_52 : decode k_Dec_makeSamples 52 = .ok (.aload_n 0, 1) := by decide +kernel
theorem d_Dec_makeSamples_53 : decode k_Dec_makeSamples 53 = .ok (.invokevirtual 53, 3) := by decide +kernel
theorem d_Dec_makeSamples_56 : decode k_Dec_makeSamples 56 = .ok (.ireturn, 1) := by decide +kernel
theorem d_Dec_isFull_0 : decode k_Dec_isFull 0 = .ok (.aload_n 0, 1) := by decide +kernel
theorem d_Dec_isFull_1 : decode k_Dec_isFull 1 = .ok (.getfield 31, 3) := by decide +kernel
theorem d_Dec_isFull_4 : decode k_Dec_isFull 4 = .ok (.aload_n 0, 1) := by decide +kernel
theorem d_Dec_isFull_5 : decode k_Dec_isFull 5 = .ok (.getfield 17, 3) := by decide +kernel
theorem d_Dec_isFull_8 : decode k_Dec_isFull 8 = .ok (.arraylength, 1) := by decide +kernel
theorem d_Dec_isFull_9 : decode k_Dec_isFull 9 = .ok (.if_icmp .lt 7, 3) := by decide +kernel
theorem d_Dec_isFull_12 : decode k_Dec_isFull 12 = .ok (.iconst 1, 1) := by decide +kernel
theorem d_Dec_isFull_13 : decode k_Dec_isFull 13 = .ok (.goto 4, 3) := by decide +kernel
theorem d_Dec_isFull_16 : decode k_Dec_isFull 16 = .ok (.iconst 0, 1) := by decide +kernel
theorem d_Dec_isFull_17 : decode k_Dec_isFull 17 = .ok (.ireturn, 1) := by decide +kernel
theorem d_Dec_add_0 : decode k_Dec_add 0 = .ok (.aload_n 0, 1) := by decide +kernel
theorem d_Dec_add_1 : decode k_Dec_add 1 = .ok (.getfield 17, 3) := by decide +kernel
theorem d_Dec_add_4 : decode k_Dec_add 4 = .ok (.aload_n 0, 1) := by decide +kernel
theorem d_Dec_add_5 : decode k_Dec_add 5 = .ok (.getfield 31, 3) := by decide +kernel
theorem d_Dec_add_8 : decode k_Dec_add 8 = .ok (.iload_n 1, 1) := by decide +kernel
theorem d_Dec_add_9 : decode k_Dec_add 9 = .ok (.iastore, 1) := by decide +kernel
theorem d_Dec_add_10 : decode k_Dec_add 10 = .ok (.aload_n 0, 1) := by decide +kernel
theorem d_Dec_add_11 : decode k_Dec_add 11 = .ok (.dup, 1) := by decide +kernel
theorem d_Dec_add_12 : decode k_Dec_add 12 = .ok (.getfield 31, 3) := by decide +kernel
theorem d_Dec_add_15 : decode k_Dec_add 15 = .ok (.iconst 1, 1) := by decide +kernel
theorem d_Dec_add_16 : decode k_Dec_add 16 = .ok (.iadd, 1) := by decide +kernel
theorem d_Dec_add_17 : decode k_Dec_add 17 = .ok (.putfield 31, 3) := by decide +kernel
theorem d_Dec_add_20 : decode k_Dec_add 20 = .ok (.return_, 1) := by decide +kernel
theorem d_Dec_sampleBefore_0 : decode k_Dec_sampleBefore 0 = .ok (.aload_n 0, 1) := by decide +kernel
theorem d_Dec_sampleBefore_1 : decode k_Dec_sampleBefore 1 = .ok (.getfield 31, 3) := by decide +kernel
theorem d_Dec_sampleBefore_4 : decode k_Dec_sampleBefore 4 = .ok (.ifCond .le 17, 3) := by decide +kernel
theorem d_Dec_sampleBefore_7 : decode k_Dec_sampleBefore 7 = .ok (.aload_n 0, 1) := by decide +kernel
theorem d_Dec_sampleBefore_8 : decode k_Dec_sampleBefore 8 = .ok (.getfield 17, 3) := by decide +kernel
theorem d_Dec_sampleBefore_11 : decode k_Dec_sampleBefore 11 = .ok (.aload_n 0, 1) := by decide +kernel
theorem d_Dec_sampleBefore_12 : decode k_Dec_sampleBefore 12 = .ok (.getfield 31, 3) := by decide +kernel
theorem d_Dec_sampleBefore_15 : decode k_Dec_sampleBefore 15 = .ok (.iconst 1, 1) := by decide +kernel
theorem d_Dec_sampleBefore_16 : decode k_Dec_sampleBefore 16 = .ok (.isub, 1) := by decide +kernel
theorem d_Dec_sampleBefore_17 : decode k_Dec_sampleBefore 17 = .ok (.iaload, 1) := by decide +kernel
theorem d_Dec_sampleBefore_18 : decode k_Dec_sampleBefore 18 = .ok (.goto 4, 3) := by decide +kernel
theorem d_Dec_sampleBefore_21 : decode k_Dec_sampleBefore 21 = .ok (.iconst 0, 1) := by decide +kernel
theorem d_Dec_sampleBefore_22 : decode k_Dec_sampleBefore 22 = .ok (.ireturn, 1) := by decide +kernel
theorem d_Dec_atEnd_0 : decode k_Dec_atEnd 0 = .ok (.aload_n 0, 1) := by decide +kernel
theorem d_Dec_atEnd_1 : decode k_Dec_atEnd 1 = .ok (.invokevirtual 56, 3) := by decide +kernel
theorem d_Dec_atEnd_4 : decode k_Dec_atEnd 4 = .ok (.ifCond .eq 7, 3) := by decide +kernel
theorem d_Dec_atEnd_7 : decode k_Dec_atEnd 7 = .ok (.iconst 0, 1) := by decide +kernel
theorem d_Dec_atEnd_8 : decode k_Dec_atEnd 8 = .ok (.goto 4, 3) := by decide +kernel
theorem d_Dec_atEnd_11 : decode k_Dec_atEnd 11 = .ok (.iconst 1, 1) := by decide +kernel
theorem d_Dec_atEnd_12 : decode k_Dec_atEnd 12 = .ok (.ireturn, 1) := by decide +kernel
theorem d_Dec_copyBytes_0 : decode k_Dec_copyBytes 0 = .ok (.iconst 0, 1) := by decide +kernel
theorem d_Dec_copyBytes_1 : decode k_Dec_copyBytes 1 = .ok (.istore_n 1, 1) := by decide +kernel
theorem d_Dec_copyBytes_2 : decode k_Dec_copyBytes 2 = .ok (.iload_n 1, 1) := by decide +kernel
theorem d_Dec_copyBytes_3 : decode k_Dec_copyBytes 3 = .ok (.aload_n 0, 1) := by decide +kernel
theorem d_Dec_copyBytes_4 : decode k_Dec_copyBytes 4 = .ok (.getfield 27, 3) := by decide +kernel
theorem d_Dec_copyBytes_7 : decode k_Dec_copyBytes 7 = .ok (.if_icmp .ge 26, 3) := by decide +kernel
theorem d_Dec_copyBytes_10 : decode k_Dec_copyBytes 10 = .ok (.aload_n 0, 1) := by decide +kernel
theorem d_Dec_copyBytes_11 : decode k_Dec_copyBytes 11 = .ok (.invokevirtual 56, 3) := by decide +kernel
theorem d_Dec_copyBytes_14 : decode k_Dec_copyBytes 14 = .ok (.ifCond .ne 19, 3) := by decide +kernel
theorem d_Dec_copyBytes_17 : decode k_Dec_copyBytes 17 = .ok (.aload_n 0, 1) := by decide +kernel
theorem d_Dec_copyBytes_18 : decode k_Dec_copyBytes 18 = .ok (.aload_n 0, 1) := by decide +kernel
theorem d_Dec_copyBytes_19 : decode k_Dec_copyBytes 19 = .ok (.getfield 9, 3) := by decide +kernel
theorem d_Dec_copyBytes_22 : decode k_Dec_copyBytes 22 = .ok (.iload_n 1, 1) := by decide +kernel
theorem d_Dec_copyBytes_23 : decode k_Dec_copyBytes 23 = .ok (.iaload, 1) := by decide +kernel
theorem d_Dec_copyBytes_24 : decode k_Dec_copyBytes 24 = .ok (.invokevirtual 60, 3) := by decide +kernel
theorem d_Dec_copyBytes_27 : decode k_Dec_copyBytes 27 = .ok (.iinc 1 1, 3) := by decide +kernel
theorem d_Dec_copyBytes_30 : decode k_Dec_copyBytes 30 = .ok (.goto (-28), 3) := by decide +kernel
theorem d_Dec_copyBytes_33 : decode k_Dec_copyBytes 33 = .ok (.aload_n 0, 1) := by decide +kernel
theorem d_Dec_copyBytes_34 : decode k_Dec_copyBytes 34 = .ok (.invokevirtual 64, 3) := by decide +kernel
theorem d_Dec_copyBytes_37 : decode k_Dec_copyBytes 37 = .ok (.ireturn, 1) := by decide +kernel
theorem d_Dec_repeatValues_0 : decode k_Dec_repeatValues 0 = .ok (.iconst 0, 1) := by decide +kernel
theorem d_Dec_repeatValues_1 : decode k_Dec_repeatValues 1 = .ok (.istore_n 1, 1) := by decide +kernel
theorem d_Dec_repeatValues_2 : decode k_Dec_repeatValues 2 = .ok (.iload_n 1, 1) := by decide +kernel
theorem d_Dec_repeatValues_3 : decode k_Dec_repeatValues 3 = .ok (.iconst 1, 1) := by decide +kernel
theorem d_Dec_repeatValues_4 : decode k_Dec_repeatValues 4 = .ok (.iadd, 1) := by decide +kernel
theorem d_Dec_repeatValues_5 : decode k_Dec_repeatValues 5 = .ok (.aload_n 0, 1) := by decide +kernel
theorem d_Dec_repeatValues_6 : decode k_Dec_repeatValues 6 = .ok (.getfield 27, 3) := by decide +kernel
theorem d_Dec_repeatValues_9 : decode k_Dec_repeatValues 9 = .ok (.if_icmp .ge 67, 3) := by decide +kernel
theorem d_Dec_repeatValues_12 : decode k_Dec_repeatValues 12 = .ok (.aload_n 0, 1) := by decide +kernel
theorem d_Dec_repeatValues_13 : decode k_Dec_repeatValues 13 = .ok (.invokevirtual 56, 3) := by decide +kernel
theorem d_Dec_repeatValues_16 : decode k_Dec_repeatValues 16 = .ok (.ifCond .ne 60, 3) := by decide +kernel
theorem d_Dec_repeatValues_19 : decode k_Dec_repeatValues 19 = .ok (.aload_n 0, 1) := by decide +kernel
theorem d_Dec_repeatValues_20 : decode k_Dec_repeatValues 20 = .ok (.getfield 9, 3) := by decide +kernel
theorem d_Dec_repeatValues_23 : decode k_Dec_repeatValues 23 = .ok (.iload_n 1, 1) := by decide +kernel
theorem d_Dec_repeatValues_24 : decode k_Dec_repeatValues 24 = .ok (.iaload, 1) := by decide +kernel
theorem d_Dec_repeatValues_25 : decode k_Dec_repeatValues 25 = .ok (.aload_n 0, 1) := by decide +kernel
theorem d_Dec_repeatValues_26 : decode k_Dec_repeatValues 26 = .ok (.getfield 17, 3) := by decide +kernel
theorem d_Dec_repeatValues_29 : decode k_Dec_repeatValues 29 = .ok (.arraylength, 1) := by decide +kernel
theorem d_Dec_repeatValues_30 : decode k_Dec_repeatValues 30 = .ok (.aload_n 0, 1) := by decide +kernel
theorem d_Dec_repeatValues_31 : decode k_Dec_repeatValues 31 = .ok (.getfield 31, 3) := by decide +kernel
theorem d_Dec_repeatValues_34 : decode k_Dec_repeatValues 34 = .ok (.isub, 1) := by decide +kernel
theorem d_Dec_repeatValues_35 : decode k_Dec_repeatValues 35 = .ok (.if_icmp .le 5, 3) := by decide +kernel
theorem d_Dec_repeatValues_38 : decode k_Dec_repeatValues 38 = .ok (.iconst 1, 1) := by decide +kernel
theorem d_Dec_repeatValues_39 : decode k_Dec_repeatValues 39 = .ok (.ireturn, 1) := by decide +kernel
theorem d_Dec_repeatValues_40 : decode k_Dec_repeatValues 40 = .ok (.iconst 0, 1) := by decide +kernel
theorem d_Dec_repeatValues_41 : decode k_Dec_repeatValues 41 = .ok (.istore_n 2, 1) := by decide +kernel
theorem d_Dec_repeatValues_42 : decode k_Dec_repeatValues 42 = .ok (.iload_n 2, 1) := by decide +kernel
theorem d_Dec_repeatValues_43 : decode k_Dec_repeatValues 43 = .ok (.aload_n 0, 1) := by decide +kernel
theorem d_Dec_repeatValues_44 : decode k_Dec_repeatValues 44 = .ok (.getfield 9, 3) := by decide +kernel
theorem d_Dec_repeatValues_47 : decode k_Dec_repeatValues 47 = .ok (.iload_n 1, 1) := by decide +kernel
theorem d_Dec_repeatValues_48 : decode k_Dec_repeatValues 48 = .ok (.iaload, 1) := by decide +kernel
theorem d_Dec_repeatValues_49 : decode k_Dec_repeatValues 49 = .ok (.if_icmp .ge 21, 3) := by decide +kernel
theorem d_Dec_repeatValues_52 : decode k_Dec_repeatValues 52 = .ok (.aload_n 0, 1) := by decide +kernel
theorem d_Dec_repeatValues_53 : decode k_Dec_repeatValues 53 = .ok (.aload_n 0, 1) := by decide +kernel
theorem d_Dec_repeatValues_54 : decode k_Dec_repeatValues 54 = .ok (.getfield 9, 3) := by decide +kernel
theorem d_Dec_repeatValues_57 : decode k_Dec_repeatValues 57 = .ok (.iload_n 1, 1) := by decide +kernel
theorem d_Dec_repeatValues_58 : decode k_Dec_repeatValues 58 = .ok (.iconst 1, 1) := by decide +kernel
theorem d_Dec_repeatValues_59 : decode k_Dec_repeatValues 59 = .ok (.iadd, 1) := by decide +kernel
theorem d_Dec_repeatValues_60 : decode k_Dec_repeatValues 60 = .ok (.iaload, 1) := by decide +kernel
theorem d_Dec_repeatValues_61 : decode k_Dec_repeatValues 61 = .ok (.invokevirtual 60, 3) := by decide +kernel
theorem d_Dec_repeatValues_64 : decode k_Dec_repeatValues 64 = .ok (.iinc 2 1, 3) := by decide +kernel
theorem d_Dec_repeatValues_67 : decode k_Dec_repeatValues 67 = .ok (.goto (-25), 3) := by decide +kernel
theorem d_Dec_repeatValues_70 : decode k_Dec_repeatValues 70 = .ok (.iinc 1 2, 3) := by decide +kernel
theorem d_Dec_repeatValues_73 : decode k_Dec_repeatValues 73 = .ok (.goto (-71), 3) := by decide +kernel
theorem d_Dec_repeatValues_76 : decode k_Dec_repeatValues 76 = .ok (.aload_n 0, 1) := by decide +kernel
theorem d_Dec_repeatValues_77 : decode k_Dec_repeatValues 77 = .ok (.invokevirtual 64, 3) := by decide +kernel
theorem d_Dec_repeatValues_80 : decode k_Dec_repeatValues 80 = .ok (.ireturn, 1) := by decide +kernel
theorem d_Dec_divide_0 : decode k_Dec_divide 0 = .ok (.iconst 0, 1) := by decide +kernel
theorem d_Dec_divide_1 : decode k_Dec_divide 1 = .ok (.istore_n 1, 1) := by decide +kernel
theorem d_Dec_divide_2 : decode k_Dec_divide 2 = .ok (.iload_n 1, 1) := by decide +kernel
theorem d_Dec_divide_3 : decode k_Dec_divide 3 = .ok (.iconst 1, 1) := by decide +kernel
theorem d_Dec_divide_4 : decode k_Dec_divide 4 = .ok (.iadd, 1) := by decide +kernel
theorem d_Dec_divide_5 : decode k_Dec_divide 5 = .ok (.aload_n 0, 1) := by decide +kernel
theorem d_Dec_divide_6 : decode k_Dec_divide 6 = .ok (.getfield 27, 3) := by decide +kernel
theorem d_Dec_divide_9 : decode k_Dec_divide 9 = .ok (.if_icmp .ge 55, 3) := by decide +kernel
theorem d_Dec_divide_12 : decode k_Dec_divide 12 = .ok (.aload_n 0, 1) := by decide +kernel
theorem d_Dec_divide_13 : decode k_Dec_divide 13 = .ok (.invokevirtual 56, 3) := by decide +kernel
theorem d_Dec_divide_16 : decode k_Dec_divide 16 = .ok (.ifCond .ne 48, 3) := by decide +kernel
theorem d_Dec_divide_19 : decode k_Dec_divide 19 = .ok (.aload_n 0, 1) := by decide +kernel
theorem d_Dec_divide_20 : decode k_Dec_divide 20 = .ok (.getfield 9, 3) := by decide +kernel
theorem d_Dec_divide_23 : decode k_Dec_divide 23 = .ok (.iload_n 1, 1) := by decide +kernel
theorem d_Dec_divide_24 : decode k_Dec_divide 24 = .ok (.iconst 1, 1) := by decide +kernel
theorem d_Dec_divide_25 : decode k_Dec_divide 25 = .ok (.iadd, 1) := by decide +kernel
theorem d_Dec_divide_26 : decode k_Dec_divide 26 = .ok (.iaload, 1) := by decide +kernel
theorem d_Dec_divide_27 : decode k_Dec_divide 27 = .ok (.ifCond .ne 5, 3) := by decide +kernel
theorem d_Dec_divide_30 : decode k_Dec_divide 30 = .ok (.iconst 2, 1) := by decide +kernel
theorem d_Dec_divide_31 : decode k_Dec_divide 31 = .ok (.ireturn, 1) := by decide +kernel
theorem d_Dec_divide_32 : decode k_Dec_divide 32 = .ok (.aload_n 0, 1) := by decide +kernel
theorem d_Dec_divide_33 : decode k_Dec_divide 33 = .ok (.bipush 16, 2) := by decide +kernel
theorem d_Dec_divide_35 : decode k_Dec_divide 35 = .ok (.aload_n 0, 1) := by decide +kernel
theorem d_Dec_divide_36 : decode k_Dec_divide 36 = .ok (.getfield 9, 3) := by decide +kernel
theorem d_Dec_divide_39 : decode k_Dec_divide 39 = .ok (.iload_n 1, 1) := by decide +kernel
theorem d_Dec_divide_40 : decode k_Dec_divide 40 = .ok (.iaload, 1) := by decide +kernel
theorem d_Dec_divide_41 : decode k_Dec_divide 41 = .ok (.imul, 1) := by decide +kernel
theorem d_Dec_divide_42 : decode k_Dec_divide 42 = .ok (.aload_n 0, 1) := by decide +kernel
theorem d_Dec_divide_43 : decode k_Dec_divide 43 = .ok (.getfield 9, 3) := by decide +kernel
theorem d_Dec_divide_46 : decode k_Dec_divide 46 = .ok (.iload_n 1, 1) := by decide +kernel
theorem d_Dec_divide_47 : decode k_Dec_divide 47 = .ok (.iconst 1, 1) := by decide +kernel
theorem d_Dec_divide_48 : decode k_Dec_divide 48 = .ok (.iadd, 1) := by decide +kernel
theorem d_Dec_divide_49 : decode k_Dec_divide 49 = .ok (.iaload, 1) := by decide +kernel
theorem d_Dec_divide_50 : decode k_Dec_divide 50 = .ok (.idiv, 1) := by decide +kernel
theorem d_Dec_divide_51 : decode k_Dec_divide 51 = .ok (.sipush 256, 3) := by decide +kernel
theorem d_Dec_divide_54 : decode k_Dec_divide 54 = .ok (.irem, 1) := by decide +kernel
theorem d_Dec_divide_55 : decode k_Dec_divide 55 = .ok (.invokevirtual 60, 3) := by decide +kernel
theorem d_Dec_divide_58 : decode k_Dec_divide 58 = .ok (.iinc 1 2, 3) := by decide +kernel
theorem d_Dec_divide_61 : decode k_Dec_divide 61 = .ok (.goto (-59), 3) := by decide +kernel
theorem d_Dec_divide_64 : decode k_Dec_divide 64 = .ok (.aload_n 0, 1) := by decide +kernel
theorem d_Dec_divide_65 : decode k_Dec_divide 65 = .ok (.invokevirtual 64, 3) := by decide +kernel
theorem d_Dec_divide_68 : decode k_Dec_divide 68 = .ok (.ireturn, 1) := by decide +kernel
theorem d_Dec_addDifferences_0 : decode k_Dec_addDifferences 0 = .ok (.iconst 0, 1) := by decide +kernel
theorem d_Dec_addDifferences_1 : decode k_Dec_addDifferences 1 = .ok (.istore_n 1, 1) := by decide +kernel
theorem d_Dec_addDifferences_2 : decode k_Dec_addDifferences 2 = .ok (.iload_n 1, 1) := by decide +kernel
theorem d_Dec_addDifferences_3 : decode k_Dec_addDifferences 3 = .ok (.aload_n 0, 1) := by decide +kernel
theorem d_Dec_addDifferences_4 : decode k_Dec_addDifferences 4 = .ok (.getfield 27, 3) := by decide +kernel
theorem d_Dec_addDifferences_7 : decode k_Dec_addDifferences 7 = .ok (.if_icmp .ge 63, 3) := by decide +kernel
theorem d_Dec_addDifferences_10 : decode k_Dec_addDifferences 10 = .ok (.aload_n 0, 1) := by decide +kernel
theorem d_Dec_addDifferences_11 : decode k_Dec_addDifferences 11 = .ok (.invokevirtual 56, 3) := by decide +kernel
theorem d_Dec_addDifferences_14 : decode k_Dec_addDifferences 14 = .ok (.ifCond .ne 56, 3) := by decide +kernel
theorem d_Dec_addDifferences_17 : decode k_Dec_addDifferences 17 = .ok (.iload_n 1, 1) := by decide +kernel
theorem d_Dec_addDifferences_18 : decode k_Dec_addDifferences 18 = .ok (.ifCond .ne 12, 3) := by decide +kernel
theorem d_Dec_addDifferences_21 : decode k_Dec_addDifferences 21 = .ok (.aload_n 0, 1) := by decide +kernel
theorem d_Dec_addDifferences_22 : decode k_Dec_addDifferences 22 = .ok (.getfield 9, 3) := by decide +kernel
theorem d_Dec_addDifferences_25 : decode k_Dec_addDifferences 25 = .ok (.iconst 0, 1) := by decide +kernel
theorem d_Dec_addDifferences_26 : decode k_Dec_addDifferences 26 = .ok (.iaload, 1) := by decide +kernel
theorem d_Dec_addDifferences_27 : decode k_Dec_addDifferences 27 = .ok (.goto 17, 3) := by decide +kernel
theorem d_Dec_addDifferences_30 : decode k_Dec_addDifferences 30 = .ok (.aload_n 0, 1) := by decide +kernel
theorem d_Dec_addDifferences_31 : decode k_Dec_addDifferences 31 = .ok (.invokevirtual 67, 3) := by decide +kernel
theorem d_Dec_addDifferences_34 : decode k_Dec_addDifferences 34 = .ok (.aload_n 0, 1) := by decide +kernel
theorem d_Dec_addDifferences_35 : decode k_Dec_addDifferences 35 = .ok (.getfield 9, 3) := by decide +kernel
theorem d_Dec_addDifferences_38 : decode k_Dec_addDifferences 38 = .ok (.iload_n 1, 1) := by decide +kernel
theorem d_Dec_addDifferences_39 : decode k_Dec_addDifferences 39 = .ok (.iaload, 1) := by decide +kernel
theorem d_Dec_addDifferences_40 : decode k_Dec_addDifferences 40 = .ok (.invokestatic 70, 3) := by decide +kernel
theorem d_Dec_addDifferences_43 : decode k_Dec_addDifferences 43 = .ok (.iadd, 1) := by decide +kernel
theorem d_Dec_addDifferences_44 : decode k_Dec_addDifferences 44 = .ok (.istore_n 2, 1) := by decide +kernel
theorem d_Dec_addDifferences_45 : decode k_Dec_addDifferences 45 = .ok (.iload_n 2, 1) := by decide +kernel
theorem d_Dec_addDifferences_46 : decode k_Dec_addDifferences 46 = .ok (.ifCond .lt 10, 3) := by decide +kernel
theorem d_Dec_addDifferences_49 : decode k_Dec_addDifferences 49 = .ok (.iload_n 2, 1) := by decide +kernel
theorem d_Dec_addDifferences_50 : decode k_Dec_addDifferences 50 = .ok (.sipush 255, 3) := by decide +kernel
theorem d_Dec_addDifferences_53 : decode k_Dec_addDifferences 53 = .ok (.if_icmp .le 6, 3) := by decide +kernel
theorem d_Dec_addDifferences_56 : decode k_Dec_addDifferences 56 = .ok (.bipush 6, 2) := by decide +kernel
theorem d_Dec_addDifferences_58 : decode k_Dec_addDifferences 58 = .ok (.ireturn, 1) := by decide +kernel
theorem d_Dec_addDifferences_59 : decode k_Dec_addDifferences 59 = .ok (.aload_n 0, 1) := by decide +kernel
theorem d_Dec_addDifferences_60 : decode k_Dec_addDifferences 60 = .ok (.iload_n 2, 1) := by decide +kernel
theorem d_Dec_addDifferences_61 : decode k_Dec_addDifferences 61 = .ok (.invokevirtual 60, 3) := by decide +kernel
theorem d_Dec_addDifferences_64 : decode k_Dec_addDifferences 64 = .ok (.iinc 1 1, 3) := by decide +kernel
theorem d_Dec_addDifferences_67 : decode k_Dec_addDifferences 67 = .ok (.goto (-65), 3) := by decide +kernel
theorem d_Dec_addDifferences_70 : decode k_Dec_addDifferences 70 = .ok (.aload_n 0, 1) := by decide +kernel
theorem d_Dec_addDifferences_71 : decode k_Dec_addDifferences 71 = .ok (.invokevirtual 64, 3) := by decide +kernel
theorem d_Dec_addDifferences_74 : decode k_Dec_addDifferences 74 = .ok (.ireturn, 1) := by decide +kernel
theorem d_Dec_signed_0 : decode k_Dec_signed 0 = .ok (.iload_n 0, 1) := by decide +kernel
theorem d_Dec_signed_1 : decode k_Dec_signed 1 = .ok (.sipush 128, 3) := by decide +kernel
theorem d_Dec_signed_4 : decode k_Dec_signed 4 = .ok (.if_icmp .ge 7, 3) := by decide +kernel
theorem d_Dec_signed_7 : decode k_Dec_signed 7 = .ok (.iload_n 0, 1) := by decide +kernel
theorem d_Dec_signed_8 : decode k_Dec_signed 8 = .ok (.goto 8, 3) := by decide +kernel
theorem d_Dec_signed_11 : decode k_Dec_signed 11 = .ok (.iload_n 0, 1) := by decide +kernel
theorem d_Dec_signed_12 : decode k_Dec_signed 12 = .ok (.sipush 256, 3) := by decide +kernel
theorem d_Dec_signed_15 : decode k_Dec_signed 15 = .ok (.isub, 1) := by decide +kernel
theorem d_Dec_signed_16 : decode k_Dec_signed 16 = .ok (.ireturn, 1) := by decide +kernel
theorem d_Dec_useBoxes_0 : decode k_Dec_useBoxes 0 = .ok (.aload_n 0, 1) := by decide +kernel
theorem d_Dec_useBoxes_1 : decode k_Dec_useBoxes 1 = .ok (.getfield 23, 3) := by decide +kernel
theorem d_Dec_useBoxes_4 : decode k_Dec_useBoxes 4 = .ok (.invokevirtual 74, 3) := by decide +kernel
theorem d_Dec_useBoxes_7 : decode k_Dec_useBoxes 7 = .ok (.iconst 0, 1) := by decide +kernel
theorem d_Dec_useBoxes_8 : decode k_Dec_useBoxes 8 = .ok (.istore_n 1, 1) := by decide +kernel
theorem d_Dec_useBoxes_9 : decode k_Dec_useBoxes 9 = .ok (.iload_n 1, 1) := by decide +kernel
theorem d_Dec_useBoxes_10 : decode k_Dec_useBoxes 10 = .ok (.iconst 1, 1) := by decide +kernel
theorem d_Dec_useBoxes_11 : decode k_Dec_useBoxes 11 = .ok (.iadd, 1) := by decide +kernel
theorem d_Dec_useBoxes_12 : decode k_Dec_useBoxes 12 = .ok (.aload_n 0, 1) := by decide +kernel
theorem d_Dec_useBoxes_13 : decode k_Dec_useBoxes 13 = .ok (.getfield 27, 3) := by decide +kernel
theorem d_Dec_useBoxes_16 : decode k_Dec_useBoxes 16 = .ok (.if_icmp .ge 80, 3) := by decide +kernel
theorem d_Dec_useBoxes_19 : decode k_Dec_useBoxes 19 = .ok (.aload_n 0, 1) := by decide +kernel
theorem d_Dec_useBoxes_20 : decode k_Dec_useBoxes 20 = .ok (.invokevirtual 56, 3) := by decide +kernel
theorem d_Dec_useBoxes_23 : decode k_Dec_useBoxes 23 = .ok (.ifCond .ne 73, 3) := by decide +kernel
theorem d_Dec_useBoxes_26 : decode k_Dec_useBoxes 26 = .ok (.aload_n 0, 1) := by decide +kernel
theorem d_Dec_useBoxes_27 : decode k_Dec_useBoxes 27 = .ok (.getfield 9, 3) := by decide +kernel
theorem d_Dec_useBoxes_30 : decode k_Dec_useBoxes 30 = .ok (.iload_n 1, 1) := by decide +kernel
theorem d_Dec_useBoxes_31 : decode k_Dec_useBoxes 31 = .ok (.iaload, 1) := by decide +kernel
theorem d_Dec_useBoxes_32 : decode k_Dec_useBoxes 32 = .ok (.bipush 8, 2) := by decide +kernel
theorem d_Dec_useBoxes_34 : decode k_Dec_useBoxes 34 = .ok (.irem, 1) := by decide +kernel
theorem d_Dec_useBoxes_35 : decode k_Dec_useBoxes 35 = .ok (.istore_n 2, 1) := by decide +kernel
theorem d_Dec_useBoxes_36 : decode k_Dec_useBoxes 36 = .ok (.aload_n 0, 1) := by decide +kernel
theorem d_Dec_useBoxes_37 : decode k_Dec_useBoxes 37 = .ok (.getfield 9, 3) := by decide +kernel
theorem d_Dec_useBoxes_40 : decode k_Dec_useBoxes 40 = .ok (.iload_n 1, 1) := by decide +kernel
theorem d_Dec_useBoxes_41 : decode k_Dec_useBoxes 41 = .ok (.iconst 1, 1) := by decide +kernel
theorem d_Dec_useBoxes_42 : decode k_Dec_useBoxes 42 = .ok (.iadd, 1) := by decide +kernel
theorem d_Dec_useBoxes_43 : decode k_Dec_useBoxes 43 = .ok (.iaload, 1) := by decide +kernel
theorem d_Dec_useBoxes_44 : decode k_Dec_useBoxes 44 = .ok (.bipush 8, 2) := by decide +kernel
theorem d_Dec_useBoxes_46 : decode k_Dec_useBoxes 46 = .ok (.irem, 1) := by decide +kernel
theorem d_Dec_useBoxes_47 : decode k_Dec_useBoxes 47 = .ok (.istore_n 3, 1) := by decide +kernel
theorem d_Dec_useBoxes_48 : decode k_Dec_useBoxes 48 = .ok (.aload_n 0, 1) := by decide +kernel
theorem d_Dec_useBoxes_49 : decode k_Dec_useBoxes 49 = .ok (.getfield 9, 3) := by decide +kernel
theorem d_Dec_useBoxes_52 : decode k_Dec_useBoxes 52 = .ok (.iload_n 1, 1) := by decide +kernel
theorem d_Dec_useBoxes_53 : decode k_Dec_useBoxes 53 = .ok (.iconst 1, 1) := by decide +kernel
theorem d_Dec_useBoxes_54 : decode k_Dec_useBoxes 54 = .ok (.iadd, 1) := by decide +kernel
theorem d_Dec_useBoxes_55 : decode k_Dec_useBoxes 55 = .ok (.iaload, 1) := by decide +kernel
theorem d_Dec_useBoxes_56 : decode k_Dec_useBoxes 56 = .ok (.bipush 8, 2) := by decide +kernel
theorem d_Dec_useBoxes_58 : decode k_Dec_useBoxes 58 = .ok (.idiv, 1) := by decide +kernel
theorem d_Dec_useBoxes_59 : decode k_Dec_useBoxes 59 = .ok (.istore 4, 2) := by decide +kernel
theorem d_Dec_useBoxes_61 : decode k_Dec_useBoxes 61 = .ok (.aload_n 0, 1) := by decide +kernel
theorem d_Dec_useBoxes_62 : decode k_Dec_useBoxes 62 = .ok (.getfield 23, 3) := by decide +kernel
theorem d_Dec_useBoxes_65 : decode k_Dec_useBoxes 65 = .ok (.iload_n 2, 1) := by decide +kernel
theorem d_Dec_useBoxes_66 : decode k_Dec_useBoxes 66 = .ok (.iload_n 3, 1) := by decide +kernel
theorem d_Dec_useBoxes_67 : decode k_Dec_useBoxes 67 = .ok (.iload 4, 2) := by decide +kernel
theorem d_Dec_useBoxes_69 : decode k_Dec_useBoxes 69 = .ok (.invokevirtual 77, 3) := by decide +kernel
theorem d_Dec_useBoxes_72 : decode k_Dec_useBoxes 72 = .ok (.istore 5, 2) := by decide +kernel
theorem d_Dec_useBoxes_74 : decode k_Dec_useBoxes 74 = .ok (.iload 5, 2) := by decide +kernel
theorem d_Dec_useBoxes_76 : decode k_Dec_useBoxes 76 = .ok (.ifCond .eq 6, 3) := by decide +kernel
theorem d_Dec_useBoxes_79 : decode k_Dec_useBoxes 79 = .ok (.iload 5, 2) := by decide +kernel
theorem d_Dec_useBoxes_81 : decode k_Dec_useBoxes 81 = .ok (.ireturn, 1) := by decide +kernel
theorem d_Dec_useBoxes_82 : decode k_Dec_useBoxes 82 = .ok (.aload_n 0, 1) := by decide +kernel
theorem d_Dec_useBoxes_83 : decode k_Dec_useBoxes 83 = .ok (.iload_n 2, 1) := by decide +kernel
theorem d_Dec_useBoxes_84 : decode k_Dec_useBoxes 84 = .ok (.iload_n 3, 1) := by decide +kernel
theorem d_Dec_useBoxes_85 : decode k_Dec_useBoxes 85 = .ok (.iload 4, 2) := by decide +kernel
theorem d_Dec_useBoxes_87 : decode k_Dec_useBoxes 87 = .ok (.invokevirtual 81, 3) := by decide +kernel
theorem d_Dec_useBoxes_90 : decode k_Dec_useBoxes 90 = .ok (.iinc 1 2, 3) := by decide +kernel
theorem d_Dec_useBoxes_93 : decode k_Dec_useBoxes 93 = .ok (.goto (-84), 3) := by decide +kernel
theorem d_Dec_useBoxes_96 : decode k_Dec_useBoxes 96 = .ok (.aload_n 0, 1) := by decide +kernel
theorem d_Dec_useBoxes_97 : decode k_Dec_useBoxes 97 = .ok (.invokevirtual 64, 3) := by decide +kernel
theorem d_Dec_useBoxes_100 : decode k_Dec_useBoxes 100 = .ok (.ireturn, 1) := by decide +kernel
theorem d_Dec_doOperation_0 : decode k_Dec_doOperation 0 = .ok (.iload_n 1, 1) := by decide +kernel
theorem d_Dec_doOperation_1 : decode k_Dec_doOperation 1 = .ok (.tableswitch 134 0 5 #[39, 51, 66, 82, 98, 116], 39) := by decide +kernel
theorem d_Dec_doOperation_40 : decode k_Dec_doOperation 40 = .ok (.aload_n 0, 1) := by decide +kernel
theorem d_Dec_doOperation_41 : decode k_Dec_doOperation 41 = .ok (.getfield 23, 3) := by decide +kernel
theorem d_Dec_doOperation_44 : decode k_Dec_doOperation 44 = .ok (.iload_n 2, 1) := by decide +kernel
theorem d_Dec_doOperation_45 : decode k_Dec_doOperation 45 = .ok (.iload_n 3, 1) := by decide +kernel
theorem d_Dec_doOperation_46 : decode k_Dec_doOperation 46 = .ok (.invokevirtual 85, 3) := by decide +kernel
theorem d_Dec_doOperation_49 : decode k_Dec_doOperation 49 = .ok (.goto 96, 3) := by decide +kernel
theorem d_Dec_doOperation_52 : decode k_Dec_doOperation 52 = .ok (.aload_n 0, 1) := by decide +kernel
theorem d_Dec_doOperation_53 : decode k_Dec_doOperation 53 = .ok (.getfield 23, 3) := by decide +kernel
theorem d_Dec_doOperation_56 : decode k_Dec_doOperation 56 = .ok (.iload_n 2, 1) := by decide +kernel
theorem d_Dec_doOperation_57 : decode k_Dec_doOperation 57 = .ok (.iload_n 3, 1) := by decide +kernel
theorem d_Dec_doOperation_58 : decode k_Dec_doOperation 58 = .ok (.invokestatic 89, 3) := by decide +kernel
theorem d_Dec_doOperation_61 : decode k_Dec_doOperation 61 = .ok (.invokevirtual 92, 3) := by decide +kernel
theorem d_Dec_doOperation_64 : decode k_Dec_doOperation 64 = .ok (.goto 81, 3) := by decide +kernel
theorem d_Dec_doOperation_67 : decode k_Dec_doOperation 67 = .ok (.aload_n 0, 1) := by decide +kernel
theorem d_Dec_doOperation_68 : decode k_Dec_doOperation 68 = .ok (.aload_n 0, 1) := by decide +kernel
theorem d_Dec_doOperation_69 : decode k_Dec_doOperation 69 = .ok (.getfield 23, 3) := by decide +kernel
theorem d_Dec_doOperation_72 : decode k_Dec_doOperation 72 = .ok (.getfield 95, 3) := by decide +kernel
theorem d_Dec_doOperation_75 : decode k_Dec_doOperation 75 = .ok (.iload_n 2, 1) := by decide +kernel
theorem d_Dec_doOperation_76 : decode k_Dec_doOperation 76 = .ok (.iaload, 1) := by decide +kernel
theorem d_Dec_doOperation_77 : decode k_Dec_doOperation 77 = .ok (.invokevirtual 60, 3) := by decide +kernel
theorem d_Dec_doOperation_80 : decode k_Dec_doOperation 80 = .ok (.goto 65, 3) := by decide +kernel
theorem d_Dec_doOperation_83 : decode k_Dec_doOperation 83 = .ok (.aload_n 0, 1) := by decide +kernel
theorem d_Dec_doOperation_84 : decode k_Dec_doOperation 84 = .ok (.aload_n 0, 1) := by decide +kernel
theorem d_Dec_doOperation_85 : decode k_Dec_doOperation 85 = .ok (.getfield 23, 3) := by decide +kernel
theorem d_Dec_doOperation_88 : decode k_Dec_doOperation 88 = .ok (.getfield 98, 3) := by decide +kernel
theorem d_Dec_doOperation_91 : decode k_Dec_doOperation 91 = .ok (.iload_n 2, 1) := by decide +kernel
theorem d_Dec_doOperation_92 : decode k_Dec_doOperation 92 = .ok (.iaload, 1) := by decide +kernel
theorem d_Dec_doOperation_93 : decode k_Dec_doOperation 93 = .ok (.invokevirtual 60, 3) := by decide +kernel
theorem d_Dec_doOperation_96 : decode k_Dec_doOperation 96 = .ok (.goto 49, 3) := by decide +kernel
theorem d_Dec_doOperation_99 : decode k_Dec_doOperation 99 = .ok (.aload_n 0, 1) := by decide +kernel
theorem d_Dec_doOperation_100 : decode k_Dec_doOperation 100 = .ok (.getfield 23, 3) := by decide +kernel
theorem d_Dec_doOperation_103 : decode k_Dec_doOperation 103 = .ok (.getfield 101, 3) := by decide +kernel
theorem d_Dec_doOperation_106 : decode k_Dec_doOperation 106 = .ok (.iload_n 2, 1) := by decide +kernel
theorem d_Dec_doOperation_107 : decode k_Dec_doOperation 107 = .ok (.aaload, 1) := by decide +kernel
theorem d_Dec_doOperation_108 : decode k_Dec_doOperation 108 = .ok (.iload_n 3, 1) := by decide +kernel
theorem d_Dec_doOperation_109 : decode k_Dec_doOperation 109 = .ok (.aload_n 0, 1) := by decide +kernel
theorem d_Dec_doOperation_110 : decode k_Dec_doOperation 110 = .ok (.invokevirtual 67, 3) := by decide +kernel
theorem d_Dec_doOperation_113 : decode k_Dec_doOperation 113 = .ok (.iastore, 1) := by decide +kernel
theorem d_Dec_doOperation_114 : decode k_Dec_doOperation 114 = .ok (.goto 31, 3) := by decide +kernel
theorem d_Dec_doOperation_117 : decode k_Dec_doOperation 117 = .ok (.aload_n 0, 1) := by decide +kernel
theorem d_Dec_doOperation_118 : decode k_Dec_doOperation 118 = .ok (.aload_n 0, 1) := by decide +kernel
theorem d_Dec_doOperation_119 : decode k_Dec_doOperation 119 = .ok (.getfield 23, 3) := by decide +kernel
theorem d_Dec_doOperation_122 : decode k_Dec_doOperation 122 = .ok (.getfield 101, 3) := by decide +kernel
theorem d_Dec_doOperation_125 : decode k_Dec_doOperation 125 = .ok (.iload_n 2, 1) := by decide +kernel
theorem d_Dec_doOperation_126 : decode k_Dec_doOperation 126 = .ok (.aaload, 1) := by decide +kernel
theorem d_Dec_doOperation_127 : decode k_Dec_doOperation 127 = .ok (.iload_n 3, 1) := by decide +kernel
theorem d_Dec_doOperation_128 : decode k_Dec_doOperation 128 = .ok (.iaload, 1) := by decide +kernel
theorem d_Dec_doOperation_129 : decode k_Dec_doOperation 129 = .ok (.invokevirtual 60, 3) := by decide +kernel
theorem d_Dec_doOperation_132 : decode k_Dec_doOperation 132 = .ok (.goto 13, 3) := by decide +kernel
theorem d_Dec_doOperation_135 : decode k_Dec_doOperation 135 = .ok (.aload_n 0, 1) := by decide +kernel
theorem d_Dec_doOperation_136 : decode k_Dec_doOperation 136 = .ok (.getfield 23, 3) := by decide +kernel
theorem d_Dec_doOperation_139 : decode k_Dec_doOperation 139 = .ok (.getfield 105, 3) := by decide +kernel
theorem d_Dec_doOperation_142 : decode k_Dec_doOperation 142 = .ok (.iload_n 2, 1) := by decide +kernel
theorem d_Dec_doOperation_143 : decode k_Dec_doOperation 143 = .ok (.iconst 0, 1) := by decide +kernel
theorem d_Dec_doOperation_144 : decode k_Dec_doOperation 144 = .ok (.iastore, 1) := by decide +kernel
theorem d_Dec_doOperation_145 : decode k_Dec_doOperation 145 = .ok (.return_, 1) := by decide +kernel
