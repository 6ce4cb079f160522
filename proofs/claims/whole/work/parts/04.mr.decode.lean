theorem d_MR_init_0 : decode k_MR_init 0 = .ok (.aload_n 0, 1) := by decide +kernel
theorem d_MR_init_1 : decode k_MR_init 1 = .ok (.invokespecial 1, 3) := by decide +kernel
theorem d_MR_init_4 : decode k_MR_init 4 = .ok (.aload_n 0, 1) := by decide +kernel
theorem d_MR_init_5 : decode k_MR_init 5 = .ok (.sipush 1200, 3) := by decide +kernel
theorem d_MR_init_8 : decode k_MR_init 8 = .ok (.newarray .int, 2) := by decide +kernel
theorem d_MR_init_10 : decode k_MR_init 10 = .ok (.putfield 9, 3) := by decide +kernel
theorem d_MR_init_13 : decode k_MR_init 13 = .ok (.aload_n 0, 1) := by decide +kernel
theorem d_MR_init_14 : decode k_MR_init 14 = .ok (.bipush 16, 2) := by decide +kernel
theorem d_MR_init_16 : decode k_MR_init 16 = .ok (.bipush 6, 2) := by decide +kernel
theorem d_MR_init_18 : decode k_MR_init 18 = .ok (.multianewarray 13 2, 4) := by decide +kernel
theorem d_MR_init_22 : decode k_MR_init 22 = .ok (.putfield 15, 3) := by decide +kernel
theorem d_MR_init_25 : decode k_MR_init 25 = .ok (.aload_n 0, 1) := by decide +kernel
theorem d_MR_init_26 : decode k_MR_init 26 = .ok (.new 18, 3) := by decide +kernel
theorem d_MR_init_29 : decode k_MR_init 29 = .ok (.dup, 1) := by decide +kernel
theorem d_MR_init_30 : decode k_MR_init 30 = .ok (.invokespecial 20, 3) := by decide +kernel
theorem d_MR_init_33 : decode k_MR_init 33 = .ok (.putfield 21, 3) := by decide +kernel
theorem d_MR_init_36 : decode k_MR_init 36 = .ok (.aload_n 0, 1) := by decide +kernel
theorem d_MR_init_37 : decode k_MR_init 37 = .ok (.new 25, 3) := by decide +kernel
theorem d_MR_init_40 : decode k_MR_init 40 = .ok (.dup, 1) := by decide +kernel
theorem d_MR_init_41 : decode k_MR_init 41 = .ok (.invokespecial 27, 3) := by decide +kernel
theorem d_MR_init_44 : decode k_MR_init 44 = .ok (.putfield 28, 3) := by decide +kernel
theorem d_MR_init_47 : decode k_MR_init 47 = .ok (.aload_n 0, 1) := by decide +kernel
theorem d_MR_init_48 : decode k_MR_init 48 = .ok (.iconst 0, 1) := by decide +kernel
theorem d_MR_init_49 : decode k_MR_init 49 = .ok (.iconst 2, 1) := by decide +kernel
theorem d_MR_init_50 : decode k_MR_init 50 = .ok (.iload_n 1, 1) := by decide +kernel
theorem d_MR_init_51 : decode k_MR_init 51 = .ok (.invokestatic 32, 3) := by decide +kernel
theorem d_MR_init_54 : decode k_MR_init 54 = .ok (.invokestatic 38, 3) := by decide +kernel
theorem d_MR_init_57 : decode k_MR_init 57 = .ok (.putfield 41, 3) := by decide +kernel
theorem d_MR_init_60 : decode k_MR_init 60 = .ok (.aload_n 0, 1) := by decide +kernel
theorem d_MR_init_61 : decode k_MR_init 61 = .ok (.iconst 1, 1) := by decide +kernel
theorem d_MR_init_62 : decode k_MR_init 62 = .ok (.ldc 45, 2) := by decide +kernel
theorem d_MR_init_64 : decode k_MR_init 64 = .ok (.iload_n 2, 1) := by decide +kernel
theorem d_MR_init_65 : decode k_MR_init 65 = .ok (.invokestatic 32, 3) := by decide +kernel
theorem d_MR_init_68 : decode k_MR_init 68 = .ok (.invokestatic 38, 3) := by decide +kernel
theorem d_MR_init_71 : decode k_MR_init 71 = .ok (.putfield 46, 3) := by decide +kernel
theorem d_MR_init_74 : decode k_MR_init 74 = .ok (.return_, 1) := by decide +kernel
theorem d_MR_feed_0 : decode k_MR_feed 0 = .ok (.iload_n 3, 1) := by decide +kernel
theorem d_MR_feed_1 : decode k_MR_feed 1 = .ok (.iconst 1, 1) := by decide +kernel
theorem d_MR_feed_2 : decode k_MR_feed 2 = .ok (.if_icmp .lt 9, 3) := by decide +kernel
theorem d_MR_feed_5 : decode k_MR_feed 5 = .ok (.iload_n 3, 1) := by decide +kernel
theorem d_MR_feed_6 : decode k_MR_feed 6 = .ok (.bipush 8, 2) := by decide +kernel
theorem d_MR_feed_8 : decode k_MR_feed 8 = .ok (.if_icmp .le 13, 3) := by decide +kernel
theorem d_MR_feed_11 : decode k_MR_feed 11 = .ok (.new 49, 3) := by decide +kernel
theorem d_MR_feed_14 : decode k_MR_feed 14 = .ok (.dup, 1) := by decide +kernel
theorem d_MR_feed_15 : decode k_MR_feed 15 = .ok (.ldc 51, 2) := by decide +kernel
theorem d_MR_feed_17 : decode k_MR_feed 17 = .ok (.invokespecial 53, 3) := by decide +kernel
theorem d_MR_feed_20 : decode k_MR_feed 20 = .ok (.athrow, 1) := by decide +kernel
theorem d_MR_feed_21 : decode k_MR_feed 21 = .ok (.iload_n 3, 1) := by decide +kernel
theorem d_MR_feed_22 : decode k_MR_feed 22 = .ok (.sipush 1200, 3) := by decide +kernel
theorem d_MR_feed_25 : decode k_MR_feed 25 = .ok (.aload_n 0, 1) := by decide +kernel
theorem d_MR_feed_26 : decode k_MR_feed 26 = .ok (.getfield 56, 3) := by decide +kernel
theorem d_MR_feed_29 : decode k_MR_feed 29 = .ok (.isub, 1) := by decide +kernel
theorem d_MR_feed_30 : decode k_MR_feed 30 = .ok (.if_icmp .le 13, 3) := by decide +kernel
theorem d_MR_feed_33 : decode k_MR_feed 33 = .ok (.new 59, 3) := by decide +kernel
theorem d_MR_feed_36 : decode k_MR_feed 36 = .ok (.dup, 1) := by decide +kernel
theorem d_MR_feed_37 : decode k_MR_feed 37 = .ok (.ldc 61, 2) := by decide +kernel
theorem d_MR_feed_39 : decode k_MR_feed 39 = .ok (.invokespecial 63, 3) := by decide +kernel
theorem d_MR_feed_42 : decode k_MR_feed 42 = .ok (.athrow, 1) := by decide +kernel
theorem d_MR_feed_43 : decode k_MR_feed 43 = .ok (.iconst 0, 1) := by decide +kernel
theorem d_MR_feed_44 : decode k_MR_feed 44 = .ok (.istore 4, 2) := by decide +kernel
theorem d_MR_feed_46 : decode k_MR_feed 46 = .ok (.iload 4, 2) := by decide +kernel
theorem d_MR_feed_48 : decode k_MR_feed 48 = .ok (.iload_n 3, 1) := by decide +kernel
theorem d_MR_feed_49 : decode k_MR_feed 49 = .ok (.if_icmp .ge 33, 3) := by decide +kernel
theorem d_MR_feed_52 : decode k_MR_feed 52 = .ok (.aload_n 0, 1) := by decide +kernel
theorem d_MR_feed_53 : decode k_MR_feed 53 = .ok (.getfield 9, 3) := by decide +kernel
theorem d_MR_feed_56 : decode k_MR_feed 56 = .ok (.aload_n 0, 1) := by decide +kernel
theorem d_MR_feed_57 : decode k_MR_feed 57 = .ok (.getfield 56, 3) := by decide +kernel
theorem d_MR_feed_60 : decode k_MR_feed 60 = .ok (.iload 4, 2) := by decide +kernel
theorem d_MR_feed_62 : decode k_MR_feed 62 = .ok (.iadd, 1) := by decide +kernel
theorem d_MR_feed_63 : decode k_MR_feed 63 = .ok (.lload_n 1, 1) := by decide +kernel
theorem d_MR_feed_64 : decode k_MR_feed 64 = .ok (.bipush 8, 2) := by decide +kernel
theorem d_MR_feed_66 : decode k_MR_feed 66 = .ok (.iload 4, 2) := by decide +kernel
theorem d_MR_feed_68 : decode k_MR_feed 68 = .ok (.imul, 1) := by decide +kernel
theorem d_MR_feed_69 : decode k_MR_feed 69 = .ok (.lshr, 1) := by decide +kernel
theorem d_MR_feed_70 : decode k_MR_feed 70 = .ok (.l2i, 1) := by decide +kernel
theorem d_MR_feed_71 : decode k_MR_feed 71 = .ok (.sipush 255, 3) := by decide +kernel
theorem d_MR_feed_74 : decode k_MR_feed 74 = .ok (.iand, 1) := by decide +kernel
theorem d_MR_feed_75 : decode k_MR_feed 75 = .ok (.iastore, 1) := by decide +kernel
theorem d_MR_feed_76 : decode k_MR_feed 76 = .ok (.iinc 4 1, 3) := by decide +kernel
theorem d_MR_feed_79 : decode k_MR_feed 79 = .ok (.goto (-33), 3) := by decide +kernel
theorem d_MR_feed_82 : decode k_MR_feed 82 = .ok (.aload_n 0, 1) := by decide +kernel
theorem d_MR_feed_83 : decode k_MR_feed 83 = .ok (.dup, 1) := by decide +kernel
theorem d_MR_feed_84 : decode k_MR_feed 84 = .ok (.getfield 56, 3) := by decide +kernel
theorem d_MR_feed_87 : decode k_MR_feed 87 = .ok (.iload_n 3, 1) := by decide +kernel
theorem d_MR_feed_88 : decode k_MR_feed 88 = .ok (.iadd, 1) := by decide +kernel
theorem d_MR_feed_89 : decode k_MR_feed 89 = .ok (.putfield 56, 3) := by decide +kernel
theorem d_MR_feed_92 : decode k_MR_feed 92 = .ok (.aload_n 0, 1) := by decide +kernel
theorem d_MR_feed_93 : decode k_MR_feed 93 = .ok (.invokevirtual 64, 3) := by decide +kernel
theorem d_MR_feed_96 : decode k_MR_feed 96 = .ok (.aload_n 0, 1) := by decide +kernel
theorem d_MR_feed_97 : decode k_MR_feed 97 = .ok (.getfield 56, 3) := by decide +kernel
theorem d_MR_feed_100 : decode k_MR_feed 100 = .ok (.ireturn, 1) := by decide +kernel
theorem d_MR_alter_0 : decode k_MR_alter 0 = .ok (.iload_n 1, 1) := by decide +kernel
theorem d_MR_alter_1 : decode k_MR_alter 1 = .ok (.ifCond .lt 11, 3) := by decide +kernel
theorem d_MR_alter_4 : decode k_MR_alter 4 = .ok (.iload_n 1, 1) := by decide +kernel
theorem d_MR_alter_5 : decode k_MR_alter 5 = .ok (.aload_n 0, 1) := by decide +kernel
theorem d_MR_alter_6 : decode k_MR_alter 6 = .ok (.getfield 56, 3) := by decide +kernel
theorem d_MR_alter_9 : decode k_MR_alter 9 = .ok (.if_icmp .lt 13, 3) := by decide +kernel
theorem d_MR_alter_12 : decode k_MR_alter 12 = .ok (.new 67, 3) := by decide +kernel
theorem d_MR_alter_15 : decode k_MR_alter 15 = .ok (.dup, 1) := by decide +kernel
theorem d_MR_alter_16 : decode k_MR_alter 16 = .ok (.ldc 69, 2) := by decide +kernel
theorem d_MR_alter_18 : decode k_MR_alter 18 = .ok (.invokespecial 71, 3) := by decide +kernel
theorem d_MR_alter_21 : decode k_MR_alter 21 = .ok (.athrow, 1) := by decide +kernel
theorem d_MR_alter_22 : decode k_MR_alter 22 = .ok (.iload_n 2, 1) := by decide +kernel
theorem d_MR_alter_23 : decode k_MR_alter 23 = .ok (.ifCond .lt 10, 3) := by decide +kernel
theorem d_MR_alter_26 : decode k_MR_alter 26 = .ok (.iload_n 2, 1) := by decide +kernel
theorem d_MR_alter_27 : decode k_MR_alter 27 = .ok (.sipush 255, 3) := by decide +kernel
theorem d_MR_alter_30 : decode k_MR_alter 30 = .ok (.if_icmp .le 13, 3) := by decide +kernel
theorem d_MR_alter_33 : decode k_MR_alter 33 = .ok (.new 49, 3) := by decide +kernel
theorem d_MR_alter_36 : decode k_MR_alter 36 = .ok (.dup, 1) := by decide +kernel
theorem d_MR_alter_37 : decode k_MR_alter 37 = .ok (.ldc 72, 2) := by decide +kernel
theorem d_MR_alter_39 : decode k_MR_alter 39 = .ok (.invokespecial 53, 3) := by decide +kernel
theorem d_MR_alter_42 : decode k_MR_alter 42 = .ok (.athrow, 1) := by decide +kernel
theorem d_MR_alter_43 : decode k_MR_alter 43 = .ok (.aload_n 0, 1) := by decide +kernel
theorem d_MR_alter_44 : decode k_MR_alter 44 = .ok (.getfield 9, 3) := by decide +kernel
theorem d_MR_alter_47 : decode k_MR_alter 47 = .ok (.iload_n 1, 1) := by decide +kernel
theorem d_MR_alter_48 : decode k_MR_alter 48 = .ok (.iaload, 1) := by decide +kernel
theorem d_MR_alter_49 : decode k_MR_alter 49 = .ok (.istore_n 3, 1) := by decide +kernel
theorem d_MR_alter_50 : decode k_MR_alter 50 = .ok (.aload_n 0, 1) := by decide +kernel
theorem d_MR_alter_51 : decode k_MR_alter 51 = .ok (.getfield 9, 3) := by decide +kernel
theorem d_MR_alter_54 : decode k_MR_alter 54 = .ok (.iload_n 1, 1) := by decide +kernel
theorem d_MR_alter_55 : decode k_MR_alter 55 = .ok (.iload_n 2, 1) := by decide +kernel
theorem d_MR_alter_56 : decode k_MR_alter 56 = .ok (.iastore, 1) := by decide +kernel
theorem d_MR_alter_57 : decode k_MR_alter 57 = .ok (.aload_n 0, 1) := by decide +kernel
theorem d_MR_alter_58 : decode k_MR_alter 58 = .ok (.invokevirtual 64, 3) := by decide +kernel
theorem d_MR_alter_61 : decode k_MR_alter 61 = .ok (.iload_n 3, 1) := by decide +kernel
theorem d_MR_alter_62 : decode k_MR_alter 62 = .ok (.ireturn, 1) := by decide +kernel
theorem d_MR_run_0 : decode k_MR_run 0 = .ok (.aload_n 0, 1) := by decide +kernel
theorem d_MR_run_1 : decode k_MR_run 1 = .ok (.invokevirtual 64, 3) := by decide +kernel
theorem d_MR_run_4 : decode k_MR_run 4 = .ok (.aload_n 0, 1) := by decide +kernel
theorem d_MR_run_5 : decode k_MR_run 5 = .ok (.getfield 28, 3) := by decide +kernel
theorem d_MR_run_8 : decode k_MR_run 8 = .ok (.invokevirtual 74, 3) := by decide +kernel
theorem d_MR_run_11 : decode k_MR_run 11 = .ok (.aload_n 0, 1) := by decide +kernel
theorem d_MR_run_12 : decode k_MR_run 12 = .ok (.iconst 0, 1) := by decide +kernel
theorem d_MR_run_13 : decode k_MR_run 13 = .ok (.putfield 77, 3) := by decide +kernel
theorem d_MR_run_16 : decode k_MR_run 16 = .ok (.iconst 0, 1) := by decide +kernel
theorem d_MR_run_17 : decode k_MR_run 17 = .ok (.istore_n 1, 1) := by decide +kernel
theorem d_MR_run_18 : decode k_MR_run 18 = .ok (.aload_n 0, 1) := by decide +kernel
theorem d_MR_run_19 : decode k_MR_run 19 = .ok (.getfield 77, 3) := by decide +kernel
theorem d_MR_run_22 : decode k_MR_run 22 = .ok (.aload_n 0, 1) := by decide +kernel
theorem d_MR_run_23 : decode k_MR_run 23 = .ok (.getfield 46, 3) := by decide +kernel
theorem d_MR_run_26 : decode k_MR_run 26 = .ok (.if_icmp .ge 39, 3) := by decide +kernel
theorem d_MR_run_29 : decode k_MR_run 29 = .ok (.iload_n 1, 1) := by decide +kernel
theorem d_MR_run_30 : decode k_MR_run 30 = .ok (.aload_n 0, 1) := by decide +kernel
theorem d_MR_run_31 : decode k_MR_run 31 = .ok (.getfield 56, 3) := by decide +kernel
theorem d_MR_run_34 : decode k_MR_run 34 = .ok (.if_icmp .ge 31, 3) := by decide +kernel
theorem d_MR_run_37 : decode k_MR_run 37 = .ok (.aload_n 0, 1) := by decide +kernel
theorem d_MR_run_38 : decode k_MR_run 38 = .ok (.getfield 80, 3) := by decide +kernel
theorem d_MR_run_41 : decode k_MR_run 41 = .ok (.bipush 16, 2) := by decide +kernel
theorem d_MR_run_43 : decode k_MR_run 43 = .ok (.if_icmp .ge 22, 3) := by decide +kernel
theorem d_MR_run_46 : decode k_MR_run 46 = .ok (.aload_n 0, 1) := by decide +kernel
theorem d_MR_run_47 : decode k_MR_run 47 = .ok (.dup, 1) := by decide +kernel
theorem d_MR_run_48 : decode k_MR_run 48 = .ok (.getfield 77, 3) := by decide +kernel
theorem d_MR_run_51 : decode k_MR_run 51 = .ok (.iconst 1, 1) := by decide +kernel
theorem d_MR_run_52 : decode k_MR_run 52 = .ok (.iadd, 1) := by decide +kernel
theorem d_MR_run_53 : decode k_MR_run 53 = .ok (.putfield 77, 3) := by decide +kernel
theorem d_MR_run_56 : decode k_MR_run 56 = .ok (.aload_n 0, 1) := by decide +kernel
theorem d_MR_run_57 : decode k_MR_run 57 = .ok (.iload_n 1, 1) := by decide +kernel
theorem d_MR_run_58 : decode k_MR_run 58 = .ok (.invokevirtual 83, 3) := by decide +kernel
theorem d_MR_run_61 : decode k_MR_run 61 = .ok (.istore_n 1, 1) := by decide +kernel
theorem d_MR_run_62 : decode k_MR_run 62 = .ok (.goto (-44), 3) := by decide +kernel
theorem d_MR_run_65 : decode k_MR_run 65 = .ok (.aload_n 0, 1) := by decide +kernel
theorem d_MR_run_66 : decode k_MR_run 66 = .ok (.iload_n 1, 1) := by decide +kernel
theorem d_MR_run_67 : decode k_MR_run 67 = .ok (.aload_n 0, 1) := by decide +kernel
theorem d_MR_run_68 : decode k_MR_run 68 = .ok (.getfield 56, 3) := by decide +kernel
theorem d_MR_run_71 : decode k_MR_run 71 = .ok (.if_icmp .ge 16, 3) := by decide +kernel
theorem d_MR_run_74 : decode k_MR_run 74 = .ok (.aload_n 0, 1) := by decide +kernel
theorem d_MR_run_75 : decode k_MR_run 75 = .ok (.getfield 80, 3) := by decide +kernel
theorem d_MR_run_78 : decode k_MR_run 78 = .ok (.bipush 16, 2) := by decide +kernel
theorem d_MR_run_80 : decode k_MR_run 80 = .ok (.if_icmp .ge 7, 3) := by decide +kernel
theorem d_MR_run_83 : decode k_MR_run 83 = .ok (.iconst 1, 1) := by decide +kernel
theorem d_MR_run_84 : decode k_MR_run 84 = .ok (.goto 4, 3) := by decide +kernel
theorem d_MR_run_87 : decode k_MR_run 87 = .ok (.iconst 0, 1) := by decide +kernel
theorem d_MR_run_88 : decode k_MR_run 88 = .ok (.putfield 87, 3) := by decide +kernel
theorem d_MR_run_91 : decode k_MR_run 91 = .ok (.aload_n 0, 1) := by decide +kernel
theorem d_MR_run_92 : decode k_MR_run 92 = .ok (.iconst 1, 1) := by decide +kernel
theorem d_MR_run_93 : decode k_MR_run 93 = .ok (.putfield 91, 3) := by decide +kernel
theorem d_MR_run_96 : decode k_MR_run 96 = .ok (.aload_n 0, 1) := by decide +kernel
theorem d_MR_run_97 : decode k_MR_run 97 = .ok (.getfield 80, 3) := by decide +kernel
theorem d_MR_run_100 : decode k_MR_run 100 = .ok (.ireturn, 1) := by decide +kernel
theorem d_MR_part_0 : decode k_MR_part 0 = .ok (.aload_n 0, 1) := by decide +kernel
theorem d_MR_part_1 : decode k_MR_part 1 = .ok (.iload_n 1, 1) := by decide +kernel
theorem d_MR_part_2 : decode k_MR_part 2 = .ok (.invokevirtual 94, 3) := by decide +kernel
theorem d_MR_part_5 : decode k_MR_part 5 = .ok (.iload_n 2, 1) := by decide +kernel
theorem d_MR_part_6 : decode k_MR_part 6 = .ok (.ifCond .lt 20, 3) := by decide +kernel
theorem d_MR_part_9 : decode k_MR_part 9 = .ok (.iload_n 2, 1) := by decide +kernel
theorem d_MR_part_10 : decode k_MR_part 10 = .ok (.bipush 6, 2) := by decide +kernel
theorem d_MR_part_12 : decode k_MR_part 12 = .ok (.if_icmp .ge 14, 3) := by decide +kernel
theorem d_MR_part_15 : decode k_MR_part 15 = .ok (.aload_n 0, 1) := by decide +kernel
theorem d_MR_part_16 : decode k_MR_part 16 = .ok (.getfield 15, 3) := by decide +kernel
theorem d_MR_part_19 : decode k_MR_part 19 = .ok (.iload_n 1, 1) := by decide +kernel
theorem d_MR_part_20 : decode k_MR_part 20 = .ok (.aaload, 1) := by decide +kernel
theorem d_MR_part_21 : decode k_MR_part 21 = .ok (.iload_n 2, 1) := by decide +kernel
theorem d_MR_part_22 : decode k_MR_part 22 = .ok (.iaload, 1) := by decide +kernel
theorem d_MR_part_23 : decode k_MR_part 23 = .ok (.goto 4, 3) := by decide +kernel
theorem d_MR_part_26 : decode k_MR_part 26 = .ok (.iconst (-1), 1) := by decide +kernel
theorem d_MR_part_27 : decode k_MR_part 27 = .ok (.ireturn, 1) := by decide +kernel
theorem d_MR_decode_0 : decode k_MR_decode 0 = .ok (.aload_n 0, 1) := by decide +kernel
theorem d_MR_decode_1 : decode k_MR_decode 1 = .ok (.iload_n 1, 1) := by decide +kernel
theorem d_MR_decode_2 : decode k_MR_decode 2 = .ok (.invokevirtual 94, 3) := by decide +kernel
theorem d_MR_decode_5 : decode k_MR_decode 5 = .ok (.aload_n 0, 1) := by decide +kernel
theorem d_MR_decode_6 : decode k_MR_decode 6 = .ok (.aload_n 0, 1) := by decide +kernel
theorem d_MR_decode_7 : decode k_MR_decode 7 = .ok (.getfield 15, 3) := by decide +kernel
theorem d_MR_decode_10 : decode k_MR_decode 10 = .ok (.iload_n 1, 1) := by decide +kernel
theorem d_MR_decode_11 : decode k_MR_decode 11 = .ok (.aaload, 1) := by decide +kernel
theorem d_MR_decode_12 : decode k_MR_decode 12 = .ok (.invokevirtual 98, 3) := by decide +kernel
theorem d_MR_decode_15 : decode k_MR_decode 15 = .ok (.ireturn, 1) := by decide +kernel
theorem d_MR_decodeAll_0 : decode k_MR_decodeAll 0 = .ok (.aload_n 0, 1) := by decide +kernel
theorem d_MR_decodeAll_1 : decode k_MR_decodeAll 1 = .ok (.invokevirtual 102, 3) := by decide +kernel
theorem d_MR_decodeAll_4 : decode k_MR_decodeAll 4 = .ok (.iconst 0, 1) := by decide +kernel
theorem d_MR_decodeAll_5 : decode k_MR_decodeAll 5 = .ok (.istore_n 1, 1) := by decide +kernel
theorem d_MR_decodeAll_6 : decode k_MR_decodeAll 6 = .ok (.iconst 0, 1) := by decide +kernel
theorem d_MR_decodeAll_7 : decode k_MR_decodeAll 7 = .ok (.istore_n 2, 1) := by decide +kernel
theorem d_MR_decodeAll_8 : decode k_MR_decodeAll 8 = .ok (.iload_n 2, 1) := by decide +kernel
theorem d_MR_decodeAll_9 : decode k_MR_decodeAll 9 = .ok (.aload_n 0, 1) := by decide +kernel
theorem d_MR_decodeAll_10 : decode k_MR_decodeAll 10 = .ok (.getfield 80, 3) := by decide +kernel
theorem d_MR_decodeAll_13 : decode k_MR_decodeAll 13 = .ok (.if_icmp .ge 25, 3) := by decide +kernel
theorem d_MR_decodeAll_16 : decode k_MR_decodeAll 16 = .ok (.aload_n 0, 1) := by decide +kernel
theorem d_MR_decodeAll_17 : decode k_MR_decodeAll 17 = .ok (.aload_n 0, 1) := by decide +kernel
theorem d_MR_decodeAll_18 : decode k_MR_decodeAll 18 = .ok (.getfield 15, 3) := by decide +kernel
theorem d_MR_decodeAll_21 : decode k_MR_decodeAll 21 = .ok (.iload_n 2, 1) := by decide +kernel
theorem d_MR_decodeAll_22 : decode k_MR_decodeAll 22 = .ok (.aaload, 1) := by decide +kernel
theorem d_MR_decodeAll_23 : decode k_MR_decodeAll 23 = .ok (.invokevirtual 98, 3) := by decide +kernel
theorem d_MR_decodeAll_26 : decode k_MR_decodeAll 26 = .ok (.ifCond .eq 6, 3) := by decide +kernel
theorem d_MR_decodeAll_29 : decode k_MR_decodeAll 29 = .ok (.iinc 1 1, 3) := by decide +kernel
theorem d_MR_decodeAll_32 : decode k_MR_decodeAll 32 = .ok (.iinc 2 1, 3) := by decide +kernel
theorem d_MR_decodeAll_35 : decode k_MR_decodeAll 35 = .ok (.goto (-27), 3) := by decide +kernel
theorem d_MR_decodeAll_38 : decode k_MR_decodeAll 38 = .ok (.iload_n 1, 1) := by decide +kernel
theorem d_MR_decodeAll_39 : decode k_MR_decodeAll 39 = .ok (.ireturn, 1) := by decide +kernel
theorem d_MR_at_0 : decode k_MR_at 0 = .ok (.iload_n 1, 1) := by decide +kernel
theorem d_MR_at_1 : decode k_MR_at 1 = .ok (.invokestatic 105, 3) := by decide +kernel
theorem d_MR_at_4 : decode k_MR_at 4 = .ok (.aload_n 0, 1) := by decide +kernel
theorem d_MR_at_5 : decode k_MR_at 5 = .ok (.getfield 28, 3) := by decide +kernel
theorem d_MR_at_8 : decode k_MR_at 8 = .ok (.getfield 108, 3) := by decide +kernel
theorem d_MR_at_11 : decode k_MR_at 11 = .ok (.iload_n 1, 1) := by decide +kernel
theorem d_MR_at_12 : decode k_MR_at 12 = .ok (.iaload, 1) := by decide +kernel
theorem d_MR_at_13 : decode k_MR_at 13 = .ok (.ireturn, 1) := by decide +kernel
theorem d_MR_state_0 : decode k_MR_state 0 = .ok (.iload_n 1, 1) := by decide +kernel
theorem d_MR_state_1 : decode k_MR_state 1 = .ok (.invokestatic 105, 3) := by decide +kernel
theorem d_MR_state_4 : decode k_MR_state 4 = .ok (.aload_n 0, 1) := by decide +kernel
theorem d_MR_state_5 : decode k_MR_state 5 = .ok (.getfield 28, 3) := by decide +kernel
theorem d_MR_state_8 : decode k_MR_state 8 = .ok (.getfield 111, 3) := by decide +kernel
theorem d_MR_state_11 : decode k_MR_state 11 = .ok (.iload_n 1, 1) := by decide +kernel
theorem d_MR_state_12 : decode k_MR_state 12 = .ok (.iaload, 1) := by decide +kernel
theorem d_MR_state_13 : decode k_MR_state 13 = .ok (.ireturn, 1) := by decide +kernel
theorem d_MR_fill_0 : decode k_MR_fill 0 = .ok (.iload_n 1, 1) := by decide +kernel
theorem d_MR_fill_1 : decode k_MR_fill 1 = .ok (.ifCond .lt 8, 3) := by decide +kernel
theorem d_MR_fill_4 : decode k_MR_fill 4 = .ok (.iload_n 1, 1) := by decide +kernel
theorem d_MR_fill_5 : decode k_MR_fill 5 = .ok (.iconst 2, 1) := by decide +kernel
theorem d_MR_fill_6 : decode k_MR_fill 6 = .ok (.if_icmp .le 13, 3) := by decide +kernel
theorem d_MR_fill_9 : decode k_MR_fill 9 = .ok (.new 49, 3) := by decide +kernel
theorem d_MR_fill_12 : decode k_MR_fill 12 = .ok (.dup, 1) := by decide +kernel
theorem d_MR_fill_13 : decode k_MR_fill 13 = .ok (.ldc 114, 2) := by decide +kernel
theorem d_MR_fill_15 : decode k_MR_fill 15 = .ok (.invokespecial 53, 3) := by decide +kernel
theorem d_MR_fill_18 : decode k_MR_fill 18 = .ok (.athrow, 1) := by decide +kernel
theorem d_MR_fill_19 : decode k_MR_fill 19 = .ok (.aload_n 0, 1) := by decide +kernel
theorem d_MR_fill_20 : decode k_MR_fill 20 = .ok (.getfield 28, 3) := by decide +kernel
theorem d_MR_fill_23 : decode k_MR_fill 23 = .ok (.iload_n 1, 1) := by decide +kernel
theorem d_MR_fill_24 : decode k_MR_fill 24 = .ok (.invokevirtual 116, 3) := by decide +kernel
theorem d_MR_fill_27 : decode k_MR_fill 27 = .ok (.ireturn, 1) := by decide +kernel
theorem d_MR_told_0 : decode k_MR_told 0 = .ok (.iload_n 1, 1) := by decide +kernel
theorem d_MR_told_1 : decode k_MR_told 1 = .ok (.tableswitch 107 0 8 #[51, 56, 61, 66, 71, 76, 89, 94, 99], 51) := by decide +kernel
theorem d_MR_told_52 : decode k_MR_told 52 = .ok (.aload_n 0, 1) := by decide +kernel
theorem d_MR_told_53 : decode k_MR_told 53 = .ok (.getfield 41, 3) := by decide +kernel
theorem d_MR_told_56 : decode k_MR_told 56 = .ok (.ireturn, 1) := by decide +kernel
theorem d_MR_told_57 : decode k_MR_told 57 = .ok (.aload_n 0, 1) := by decide +kernel
theorem d_MR_told_58 : decode k_MR_told 58 = .ok (.getfield 46, 3) := by decide +kernel
theorem d_MR_told_61 : decode k_MR_told 61 = .ok (.ireturn, 1) := by decide +kernel
theorem d_MR_told_62 : decode k_MR_told 62 = .ok (.aload_n 0, 1) := by decide +kernel
theorem d_MR_told_63 : decode k_MR_told 63 = .ok (.getfield 56, 3) := by decide +kernel
theorem d_MR_told_66 : decode k_MR_told 66 = .ok (.ireturn, 1) := by decide +kernel
theorem d_MR_told_67 : decode k_MR_told 67 = .ok (.aload_n 0, 1) := by decide +kernel
theorem d_MR_told_68 : decode k_MR_told 68 = .ok (.getfield 80, 3) := by decide +kernel
theorem d_MR_told_71 : decode k_MR_told 71 = .ok (.ireturn, 1) := by decide +kernel
theorem d_MR_told_72 : decode k_MR_told 72 = .ok (.aload_n 0, 1) := by decide +kernel
theorem d_MR_told_73 : decode k_MR_told 73 = .ok (.getfield 77, 3) := by decide +kernel
theorem d_MR_told_76 : decode k_MR_told 76 = .ok (.ireturn, 1) := by decide +kernel
theorem d_MR_told_77 : decode k_MR_told 77 = .ok (.aload_n 0, 1) := by decide +kernel
theorem d_MR_told_78 : decode k_MR_told 78 = .ok (.getfield 87, 3) := by decide +kernel
theorem d_MR_told_81 : decode k_MR_told 81 = .ok (.ifCond .eq 7, 3) := by decide +kernel
theorem d_MR_told_84 : decode k_MR_told 84 = .ok (.iconst 1, 1) := by decide +kernel
theorem d_MR_told_85 : decode k_MR_told 85 = .ok (.goto 4, 3) := by decide +kernel
theorem d_MR_told_88 : decode k_MR_told 88 = .ok (.iconst 0, 1) := by decide +kernel
theorem d_MR_told_89 : decode k_MR_told 89 = .ok (.ireturn, 1) := by decide +kernel
theorem d_MR_told_90 : decode k_MR_told 90 = .ok (.aload_n 0, 1) := by decide +kernel
theorem d_MR_told_91 : decode k_MR_told 91 = .ok (.getfield 119, 3) := by decide +kernel
theorem d_MR_told_94 : decode k_MR_told 94 = .ok (.ireturn, 1) := by decide +kernel
theorem d_MR_told_95 : decode k_MR_told 95 = .ok (.aload_n 0, 1) := by decide +kernel
theorem d_MR_told_96 : decode k_MR_told 96 = .ok (.getfield 122, 3) := by decide +kernel
theorem d_MR_told_99 : decode k_MR_told 99 = .ok (.ireturn, 1) := by decide +kernel
theorem d_MR_told_100 : decode k_MR_told 100 = .ok (.aload_n 0, 1) := by decide +kernel
theorem d_MR_told_101 : decode k_MR_told 101 = .ok (.getfield 28, 3) := by decide +kernel
theorem d_MR_told_104 : decode k_MR_told 104 = .ok (.invokevirtual 125, 3) := by decide +kernel
theorem d_MR_told_107 : decode k_MR_told 107 = .ok (.ireturn, 1) := by decide +kernel
theorem d_MR_told_108 : decode k_MR_told 108 = .ok (.iconst (-1), 1) := by decide +kernel
theorem d_MR_told_109 : decode k_MR_told 109 = .ok (.ireturn, 1) := by decide +kernel
theorem d_MR_clear_0 : decode k_MR_clear 0 = .ok (.aload_n 0, 1) := by decide +kernel
theorem d_MR_clear_1 : decode k_MR_clear 1 = .ok (.iconst 0, 1) := by decide +kernel
theorem d_MR_clear_2 : decode k_MR_clear 2 = .ok (.putfield 56, 3) := by decide +kernel
theorem d_MR_clear_5 : decode k_MR_clear 5 = .ok (.aload_n 0, 1) := by decide +kernel
theorem d_MR_clear_6 : decode k_MR_clear 6 = .ok (.invokevirtual 64, 3) := by decide +kernel
theorem d_MR_clear_9 : decode k_MR_clear 9 = .ok (.aload_n 0, 1) := by decide +kernel
theorem d_MR_clear_10 : decode k_MR_clear 10 = .ok (.iconst 0, 1) := by decide +kernel
theorem d_MR_clear_11 : decode k_MR_clear 11 = .ok (.putfield 77, 3) := by decide +kernel
theorem d_MR_clear_14 : decode k_MR_clear 14 = .ok (.aload_n 0, 1) := by decide +kernel
theorem d_MR_clear_15 : decode k_MR_clear 15 = .ok (.iconst 0, 1) := by decide +kernel
theorem d_MR_clear_16 : decode k_MR_clear 16 = .ok (.putfield 87, 3) := by decide +kernel
theorem d_MR_clear_19 : decode k_MR_clear 19 = .ok (.aload_n 0, 1) := by decide +kernel
theorem d_MR_clear_20 : decode k_MR_clear 20 = .ok (.getfield 28, 3) := by decide +kernel
theorem d_MR_clear_23 : decode k_MR_clear 23 = .ok (.invokevirtual 74, 3) := by decide +kernel
theorem d_MR_clear_26 : decode k_MR_clear 26 = .ok (.return_, 1) := by decide +kernel
theorem d_MR_forgetParts_0 : decode k_MR_forgetParts 0 = .ok (.aload_n 0, 1) := by decide +kernel
theorem d_MR_forgetParts_1 : decode k_MR_forgetParts 1 = .ok (.iconst 0, 1) := by decide +kernel
theorem d_MR_forgetParts_2 : decode k_MR_forgetParts 2 = .ok (.putfield 80, 3) := by decide +kernel
theorem d_MR_forgetParts_5 : decode k_MR_forgetParts 5 = .ok (.aload_n 0, 1) := by decide +kernel
theorem d_MR_forgetParts_6 : decode k_MR_forgetParts 6 = .ok (.iconst 0, 1) := by decide +kernel
theorem d_MR_forgetParts_7 : decode k_MR_forgetParts 7 = .ok (.putfield 91, 3) := by decide +kernel
theorem d_MR_forgetParts_10 : decode k_MR_forgetParts 10 = .ok (.return_, 1) := by decide +kernel
theorem d_MR_requireRun_0 : decode k_MR_requireRun 0 = .ok (.aload_n 0, 1) := by decide +kernel
theorem d_MR_requireRun_1 : decode k_MR_requireRun 1 = .ok (.getfield 91, 3) := by decide +kernel
theorem d_MR_requireRun_4 : decode k_MR_requireRun 4 = .ok (.ifCond .ne 13, 3) := by decide +kernel
theorem d_MR_requireRun_7 : decode k_MR_requireRun 7 = .ok (.new 129, 3) := by decide +kernel
theorem d_MR_requireRun_10 : decode k_MR_requireRun 10 = .ok (.dup, 1) := by decide +kernel
theorem d_MR_requireRun_11 : decode k_MR_requireRun 11 = .ok (.ldc 131, 2) := by decide +kernel
theorem d_MR_requireRun_13 : decode k_MR_requireRun 13 = .ok (.invokespecial 133, 3) := by decide +kernel
theorem d_MR_requireRun_16 : decode k_MR_requireRun 16 = .ok (.athrow, 1) := by decide +kernel
theorem d_MR_requireRun_17 : decode k_MR_requireRun 17 = .ok (.return_, 1) := by decide +kernel
theorem d_MR_requirePart_0 : decode k_MR_requirePart 0 = .ok (.aload_n 0, 1) := by decide +kernel
theorem d_MR_requirePart_1 : decode k_MR_requirePart 1 = .ok (.invokevirtual 102, 3) := by decide +kernel
theorem d_MR_requirePart_4 : decode k_MR_requirePart 4 = .ok (.iload_n 1, 1) := by decide +kernel
theorem d_MR_requirePart_5 : decode k_MR_requirePart 5 = .ok (.ifCond .lt 11, 3) := by decide +kernel
theorem d_MR_requirePart_8 : decode k_MR_requirePart 8 = .ok (.iload_n 1, 1) := by decide +kernel
theorem d_MR_requirePart_9 : decode k_MR_requirePart 9 = .ok (.aload_n 0, 1) := by decide +kernel
theorem d_MR_requirePart_10 : decode k_MR_requirePart 10 = .ok (.getfield 80, 3) := by decide +kernel
theorem d_MR_requirePart_13 : decode k_MR_requirePart 13 = .ok (.if_icmp .lt 13, 3) := by decide +kernel
theorem d_MR_requirePart_16 : decode k_MR_requirePart 16 = .ok (.new 67, 3) := by decide +kernel
theorem d_MR_requirePart_19 : decode k_MR_requirePart 19 = .ok (.dup, 1) := by decide +kernel
theorem d_MR_requirePart_20 : decode k_MR_requirePart 20 = .ok (.ldc 134, 2) := by decide +kernel
theorem d_MR_requirePart_22 : decode k_MR_requirePart 22 = .ok (.invokespecial 71, 3) := by decide +kernel
theorem d_MR_requirePart_25 : decode k_MR_requirePart 25 = .ok (.athrow, 1) := by decide +kernel
theorem d_MR_requirePart_26 : decode k_MR_requirePart 26 = .ok (.return_, 1) := by decide +kernel
theorem d_MR_requireSample_0 : decode k_MR_requireSample 0 = .ok (.iload_n 0, 1) := by decide +kernel
theorem d_MR_requireSample_1 : decode k_MR_requireSample 1 = .ok (.ifCond .lt 10, 3) := by decide +kernel
theorem d_MR_requireSample_4 : decode k_MR_requireSample 4 = .ok (.iload_n 0, 1) := by decide +kernel
theorem d_MR_requireSample_5 : decode k_MR_requireSample 5 = .ok (.sipush 256, 3) := by decide +kernel
theorem d_MR_requireSample_8 : decode k_MR_requireSample 8 = .ok (.if_icmp .lt 13, 3) := by decide +kernel
theorem d_MR_requireSample_11 : decode k_MR_requireSample 11 = .ok (.new 67, 3) := by decide +kernel
theorem d_MR_requireSample_14 : decode k_MR_requireSample 14 = .ok (.dup, 1) := by decide +kernel
theorem d_MR_requireSample_15 : decode k_MR_requireSample 15 = .ok (.ldc 136, 2) := by decide +kernel
theorem d_MR_requireSample_17 : decode k_MR_requireSample 17 = .ok (.invokespecial 71, 3) := by decide +kernel
theorem d_MR_requireSample_20 : decode k_MR_requireSample 20 = .ok (.athrow, 1) := by decide +kernel
theorem d_MR_requireSample_21 : decode k_MR_requireSample 21 = .ok (.return_, 1) := by decide +kernel
theorem d_MR_lookAt_0 : decode k_MR_lookAt 0 = .ok (.aload_n 0, 1) := by decide +kernel
theorem d_MR_lookAt_1 : decode k_MR_lookAt 1 = .ok (.iload_n 1, 1) := by decide +kernel
theorem d_MR_lookAt_2 : decode k_MR_lookAt 2 = .ok (.invokevirtual 138, 3) := by decide +kernel
theorem d_MR_lookAt_5 : decode k_MR_lookAt 5 = .ok (.ifCond .eq 14, 3) := by decide +kernel
theorem d_MR_lookAt_8 : decode k_MR_lookAt 8 = .ok (.iload_n 1, 1) := by decide +kernel
theorem d_MR_lookAt_9 : decode k_MR_lookAt 9 = .ok (.bipush 6, 2) := by decide +kernel
theorem d_MR_lookAt_11 : decode k_MR_lookAt 11 = .ok (.iadd, 1) := by decide +kernel
theorem d_MR_lookAt_12 : decode k_MR_lookAt 12 = .ok (.aload_n 0, 1) := by decide +kernel
theorem d_MR_lookAt_13 : decode k_MR_lookAt 13 = .ok (.getfield 56, 3) := by decide +kernel
theorem d_MR_lookAt_16 : decode k_MR_lookAt 16 = .ok (.if_icmp .le 7, 3) := by decide +kernel
theorem d_MR_lookAt_19 : decode k_MR_lookAt 19 = .ok (.iload_n 1, 1) := by decide +kernel
theorem d_MR_lookAt_20 : decode k_MR_lookAt 20 = .ok (.iconst 1, 1) := by decide +kernel
theorem d_MR_lookAt_21 : decode k_MR_lookAt 21 = .ok (.iadd, 1) := by decide +kernel
theorem d_MR_lookAt_22 : decode k_MR_lookAt 22 = .ok (.ireturn, 1) := by decide +kernel
theorem d_MR_lookAt_23 : decode k_MR_lookAt 23 = .ok (.aload_n 0, 1) := by decide +kernel
theorem d_MR_lookAt_24 : decode k_MR_lookAt 24 = .ok (.iload_n 1, 1) := by decide +kernel
theorem d_MR_lookAt_25 : decode k_MR_lookAt 25 = .ok (.invokevirtual 142, 3) := by decide +kernel
theorem d_MR_lookAt_28 : decode k_MR_lookAt 28 = .ok (.ifCond .eq 42, 3) := by decide +kernel
theorem d_MR_lookAt_31 : decode k_MR_lookAt 31 = .ok (.aload_n 0, 1) := by decide +kernel
theorem d_MR_lookAt_32 : decode k_MR_lookAt 32 = .ok (.iload_n 1, 1) := by decide +kernel
theorem d_MR_lookAt_33 : decode k_MR_lookAt 33 = .ok (.invokevirtual 145, 3) := by decide +kernel
theorem d_MR_lookAt_36 : decode k_MR_lookAt 36 = .ok (.ifCond .eq 34, 3) := by decide +kernel
theorem d_MR_lookAt_39 : decode k_MR_lookAt 39 = .ok (.aload_n 0, 1) := by decide +kernel
theorem d_MR_lookAt_40 : decode k_MR_lookAt 40 = .ok (.iload_n 1, 1) := by decide +kernel
theorem d_MR_lookAt_41 : decode k_MR_lookAt 41 = .ok (.aload_n 0, 1) := by decide +kernel
theorem d_MR_lookAt_42 : decode k_MR_lookAt 42 = .ok (.getfield 9, 3) := by decide +kernel
theorem d_MR_lookAt_45 : decode k_MR_lookAt 45 = .ok (.iload_n 1, 1) := by decide +kernel
theorem d_MR_lookAt_46 : decode k_MR_lookAt 46 = .ok (.iconst 2, 1) := by decide +kernel
theorem d_MR_lookAt_47 : decode k_MR_lookAt 47 = .ok (.iadd, 1) := by decide +kernel
theorem d_MR_lookAt_48 : decode k_MR_lookAt 48 = .ok (.iaload, 1) := by decide +kernel
theorem d_MR_lookAt_49 : decode k_MR_lookAt 49 = .ok (.aload_n 0, 1) := by decide +kernel
theorem d_MR_lookAt_50 : decode k_MR_lookAt 50 = .ok (.getfield 9, 3) := by decide +kernel
theorem d_MR_lookAt_53 : decode k_MR_lookAt 53 = .ok (.iload_n 1, 1) := by decide +kernel
theorem d_MR_lookAt_54 : decode k_MR_lookAt 54 = .ok (.iconst 3, 1) := by decide +kernel
theorem d_MR_lookAt_55 : decode k_MR_lookAt 55 = .ok (.iadd, 1) := by decide +kernel
theorem d_MR_lookAt_56 : decode k_MR_lookAt 56 = .ok (.iaload, 1) := by decide +kernel
theorem d_MR_lookAt_57 : decode k_MR_lookAt 57 = .ok (.aload_n 0, 1) := by decide +kernel
theorem d_MR_lookAt_58 : decode k_MR_lookAt 58 = .ok (.getfield 9, 3) := by decide +kernel
theorem d_MR_lookAt_61 : decode k_MR_lookAt 61 = .ok (.iload_n 1, 1) := by decide +kernel
theorem d_MR_lookAt_62 : decode k_MR_lookAt 62 = .ok (.iconst 4, 1) := by decide +kernel
theorem d_MR_lookAt_63 : decode k_MR_lookAt 63 = .ok (.iadd, 1) := by decide +kernel
theorem d_MR_lookAt_64 : decode k_MR_lookAt 64 = .ok (.iaload, 1) := by decide +kernel
theorem d_MR_lookAt_65 : decode k_MR_lookAt 65 = .ok (.iconst 0, 1) := by decide +kernel
theorem d_MR_lookAt_66 : decode k_MR_lookAt 66 = .ok (.invokevirtual 148, 3) := by decide +kernel
theorem d_MR_lookAt_69 : decode k_MR_lookAt 69 = .ok (.ireturn, 1) := by decide +kernel
theorem d_MR_lookAt_70 : decode k_MR_lookAt 70 = .ok (.aload_n 0, 1) := by decide +kernel
theorem d_MR_lookAt_71 : decode k_MR_lookAt 71 = .ok (.getfield 80, 3) := by decide +kernel
theorem d_MR_lookAt_74 : decode k_MR_lookAt 74 = .ok (.ifCond .le 11, 3) := by decide +kernel
theorem d_MR_lookAt_77 : decode k_MR_lookAt 77 = .ok (.aload_n 0, 1) := by decide +kernel
theorem d_MR_lookAt_78 : decode k_MR_lookAt 78 = .ok (.iload_n 1, 1) := by decide +kernel
theorem d_MR_lookAt_79 : decode k_MR_lookAt 79 = .ok (.invokevirtual 152, 3) := by decide +kernel
theorem d_MR_lookAt_82 : decode k_MR_lookAt 82 = .ok (.goto 6, 3) := by decide +kernel
theorem d_MR_lookAt_85 : decode k_MR_lookAt 85 = .ok (.iload_n 1, 1) := by decide +kernel
theorem d_MR_lookAt_86 : decode k_MR_lookAt 86 = .ok (.iconst 1, 1) := by decide +kernel
theorem d_MR_lookAt_87 : decode k_MR_lookAt 87 = .ok (.iadd, 1) := by decide +kernel
theorem d_MR_lookAt_88 : decode k_MR_lookAt 88 = .ok (.ireturn, 1) := by decide +kernel
theorem d_MR_markStandsAt_0 : decode k_MR_markStandsAt 0 = .ok (.iload_n 1, 1) := by decide +kernel
theorem d_MR_markStandsAt_1 : decode k_MR_markStandsAt 1 = .ok (.iconst 1, 1) := by decide +kernel
theorem d_MR_markStandsAt_2 : decode k_MR_markStandsAt 2 = .ok (.iadd, 1) := by decide +kernel
theorem d_MR_markStandsAt_3 : decode k_MR_markStandsAt 3 = .ok (.aload_n 0, 1) := by decide +kernel
theorem d_MR_markStandsAt_4 : decode k_MR_markStandsAt 4 = .ok (.getfield 56, 3) := by decide +kernel
theorem d_MR_markStandsAt_7 : decode k_MR_markStandsAt 7 = .ok (.if_icmp .ge 43, 3) := by decide +kernel
theorem d_MR_markStandsAt_10 : decode k_MR_markStandsAt 10 = .ok (.aload_n 0, 1) := by decide +kernel
theorem d_MR_markStandsAt_11 : decode k_MR_markStandsAt 11 = .ok (.getfield 9, 3) := by decide +kernel
theorem d_MR_markStandsAt_14 : decode k_MR_markStandsAt 14 = .ok (.iload_n 1, 1) := by decide +kernel
theorem d_MR_markStandsAt_15 : decode k_MR_markStandsAt 15 = .ok (.iaload, 1) := by decide +kernel
theorem d_MR_markStandsAt_16 : decode k_MR_markStandsAt 16 = .ok (.getstatic 155, 3) := by decide +kernel
theorem d_MR_markStandsAt_19 : decode k_MR_markStandsAt 19 = .ok (.aload_n 0, 1) := by decide +kernel
theorem d_MR_markStandsAt_20 : decode k_MR_markStandsAt 20 = .ok (.getfield 41, 3) := by decide +kernel
theorem d_MR_markStandsAt_23 : decode k_MR_markStandsAt 23 = .ok (.iaload, 1) := by decide +kernel
theorem d_MR_markStandsAt_24 : decode k_MR_markStandsAt 24 = .ok (.if_icmp .ne 26, 3) := by decide +kernel
theorem d_MR_markStandsAt_27 : decode k_MR_markStandsAt 27 = .ok (.aload_n 0, 1) := by decide +kernel
theorem d_MR_markStandsAt_28 : decode k_MR_markStandsAt 28 = .ok (.getfield 9, 3) := by decide +kernel
theorem d_MR_markStandsAt_31 : decode k_MR_markStandsAt 31 = .ok (.iload_n 1, 1) := by decide +kernel
theorem d_MR_markStandsAt_32 : decode k_MR_markStandsAt 32 = .ok (.iconst 1, 1) := by decide +kernel
theorem d_MR_markStandsAt_33 : decode k_MR_markStandsAt 33 = .ok (.iadd, 1) := by decide +kernel
theorem d_MR_markStandsAt_34 : decode k_MR_markStandsAt 34 = .ok (.iaload, 1) := by decide +kernel
theorem d_MR_markStandsAt_35 : decode k_MR_markStandsAt 35 = .ok (.getstatic 158, 3) := by decide +kernel
theorem d_MR_markStandsAt_38 : decode k_MR_markStandsAt 38 = .ok (.aload_n 0, 1) := by decide +kernel
theorem d_MR_markStandsAt_39 : decode k_MR_markStandsAt 39 = .ok (.getfield 41, 3) := by decide +kernel
theorem d_MR_markStandsAt_42 : decode k_MR_markStandsAt 42 = .ok (.iaload, 1) := by decide +kernel
theorem d_MR_markStandsAt_43 : decode k_MR_markStandsAt 43 = .ok (.if_icmp .ne 7, 3) := by decide +kernel
theorem d_MR_markStandsAt_46 : decode k_MR_markStandsAt 46 = .ok (.iconst 1, 1) := by decide +kernel
theorem d_MR_markStandsAt_47 : decode k_MR_markStandsAt 47 = .ok (.goto 4, 3) := by decide +kernel
theorem d_MR_markStandsAt_50 : decode k_MR_markStandsAt 50 = .ok (.iconst 0, 1) := by decide +kernel
theorem d_MR_markStandsAt_51 : decode k_MR_markStandsAt 51 = .ok (.ireturn, 1) := by decide +kernel
theorem d_MR_headIsRight_0 : decode k_MR_headIsRight 0 = .ok (.aload_n 0, 1) := by decide +kernel
theorem d_MR_headIsRight_1 : decode k_MR_headIsRight 1 = .ok (.getfield 9, 3) := by decide +kernel
theorem d_MR_headIsRight_4 : decode k_MR_headIsRight 4 = .ok (.iload_n 1, 1) := by decide +kernel
theorem d_MR_headIsRight_5 : decode k_MR_headIsRight 5 = .ok (.iconst 2, 1) := by decide +kernel
theorem d_MR_headIsRight_6 : decode k_MR_headIsRight 6 = .ok (.iadd, 1) := by decide +kernel
theorem d_MR_headIsRight_7 : decode k_MR_headIsRight 7 = .ok (.iaload, 1) := by decide +kernel
theorem d_MR_headIsRight_8 : decode k_MR_headIsRight 8 = .ok (.istore_n 2, 1) := by decide +kernel
theorem d_MR_headIsRight_9 : decode k_MR_headIsRight 9 = .ok (.aload_n 0, 1) := by decide +kernel
theorem d_MR_headIsRight_10 : decode k_MR_headIsRight 10 = .ok (.getfield 9, 3) := by decide +kernel
theorem d_MR_headIsRight_13 : decode k_MR_headIsRight 13 = .ok (.iload_n 1, 1) := by decide +kernel
theorem d_MR_headIsRight_14 : decode k_MR_headIsRight 14 = .ok (.iconst 3, 1) := by decide +kernel
theorem d_MR_headIsRight_15 : decode k_MR_headIsRight 15 = .ok (.iadd, 1) := by decide +kernel
theorem d_MR_headIsRight_16 : decode k_MR_headIsRight 16 = .ok (.iaload, 1) := by decide +kernel
theorem d_MR_headIsRight_17 : decode k_MR_headIsRight 17 = .ok (.istore_n 3, 1) := by decide +kernel
theorem d_MR_headIsRight_18 : decode k_MR_headIsRight 18 = .ok (.aload_n 0, 1) := by decide +kernel
theorem d_MR_headIsRight_19 : decode k_MR_headIsRight 19 = .ok (.getfield 9, 3) := by decide +kernel
theorem d_MR_headIsRight_22 : decode k_MR_headIsRight 22 = .ok (.iload_n 1, 1) := by decide +kernel
theorem d_MR_headIsRight_23 : decode k_MR_headIsRight 23 = .ok (.iconst 4, 1) := by decide +kernel
theorem d_MR_headIsRight_24 : decode k_MR_headIsRight 24 = .ok (.iadd, 1) := by decide +kernel
theorem d_MR_headIsRight_25 : decode k_MR_headIsRight 25 = .ok (.iaload, 1) := by decide +kernel
theorem d_MR_headIsRight_26 : decode k_MR_headIsRight 26 = .ok (.istore 4, 2) := by decide +kernel
theorem d_MR_headIsRight_28 : decode k_MR_headIsRight 28 = .ok (.bipush 7, 2) := by decide +kernel
theorem d_MR_headIsRight_30 : decode k_MR_headIsRight 30 = .ok (.iload_n 2, 1) := by decide +kernel
theorem d_MR_headIsRight_31 : decode k_MR_headIsRight 31 = .ok (.imul, 1) := by decide +kernel
theorem d_MR_headIsRight_32 : decode k_MR_headIsRight 32 = .ok (.bipush 31, 2) := by decide +kernel
theorem d_MR_headIsRight_34 : decode k_MR_headIsRight 34 = .ok (.iload_n 3, 1) := by decide +kernel
theorem d_MR_headIsRight_35 : decode k_MR_headIsRight 35 = .ok (.imul, 1) := by decide +kernel
theorem d_MR_headIsRight_36 : decode k_MR_headIsRight 36 = .ok (.iadd, 1) := by decide +kernel
theorem d_MR_headIsRight_37 : decode k_MR_headIsRight 37 = .ok (.iload 4, 2) := by decide +kernel
theorem d_MR_headIsRight_39 : decode k_MR_headIsRight 39 = .ok (.iadd, 1) := by decide +kernel
theorem d_MR_headIsRight_40 : decode k_MR_headIsRight 40 = .ok (.sipush 165, 3) := by decide +kernel
theorem d_MR_headIsRight_43 : decode k_MR_headIsRight 43 = .ok (.iadd, 1) := by decide +kernel
theorem d_MR_headIsRight_44 : decode k_MR_headIsRight 44 = .ok (.sipush 256, 3) := by decide +kernel
theorem d_MR_headIsRight_47 : decode k_MR_headIsRight 47 = .ok (.irem, 1) := by decide +kernel
theorem d_MR_headIsRight_48 : decode k_MR_headIsRight 48 = .ok (.istore 5, 2) := by decide +kernel
theorem d_MR_headIsRight_50 : decode k_MR_headIsRight 50 = .ok (.iload_n 2, 1) := by decide +kernel
theorem d_MR_headIsRight_51 : decode k_MR_headIsRight 51 = .ok (.bipush 15, 2) := by decide +kernel
theorem d_MR_headIsRight_53 : decode k_MR_headIsRight 53 = .ok (.if_icmp .gt 32, 3) := by decide +kernel
theorem d_MR_headIsRight_56 : decode k_MR_headIsRight 56 = .ok (.iload_n 3, 1) := by decide +kernel
theorem d_MR_headIsRight_57 : decode k_MR_headIsRight 57 = .ok (.iconst 4, 1) := by decide +kernel
theorem d_MR_headIsRight_58 : decode k_MR_headIsRight 58 = .ok (.if_icmp .gt 27, 3) := by decide +kernel
theorem d_MR_headIsRight_61 : decode k_MR_headIsRight 61 = .ok (.iload 4, 2) := by decide +kernel
theorem d_MR_headIsRight_63 : decode k_MR_headIsRight 63 = .ok (.bipush 64, 2) := by decide +kernel
theorem d_MR_headIsRight_65 : decode k_MR_headIsRight 65 = .ok (.if_icmp .gt 20, 3) := by decide +kernel
theorem d_MR_headIsRight_68 : decode k_MR_headIsRight 68 = .ok (.aload_n 0, 1) := by decide +kernel
theorem d_MR_headIsRight_69 : decode k_MR_headIsRight 69 = .ok (.getfield 9, 3) := by decide +kernel
theorem d_MR_headIsRight_72 : decode k_MR_headIsRight 72 = .ok (.iload_n 1, 1) := by decide +kernel
theorem d_MR_headIsRight_73 : decode k_MR_headIsRight 73 = .ok (.iconst 5, 1) := by decide +kernel
theorem d_MR_headIsRight_74 : decode k_MR_headIsRight 74 = .ok (.iadd, 1) := by decide +kernel
theorem d_MR_headIsRight_75 : decode k_MR_headIsRight 75 = .ok (.iaload, 1) := by decide +kernel
theorem d_MR_headIsRight_76 : decode k_MR_headIsRight 76 = .ok (.iload 5, 2) := by decide +kernel
theorem d_MR_headIsRight_78 : decode k_MR_headIsRight 78 = .ok (.if_icmp .ne 7, 3) := by decide +kernel
theorem d_MR_headIsRight_81 : decode k_MR_headIsRight 81 = .ok (.iconst 1, 1) := by decide +kernel
theorem d_MR_headIsRight_82 : decode k_MR_headIsRight 82 = .ok (.goto 4, 3) := by decide +kernel
theorem d_MR_headIsRight_85 : decode k_MR_headIsRight 85 = .ok (.iconst 0, 1) := by decide +kernel
theorem d_MR_headIsRight_86 : decode k_MR_headIsRight 86 = .ok (.ireturn, 1) := by decide +kernel
theorem d_MR_dataAreThere_0 : decode k_MR_dataAreThere 0 = .ok (.iload_n 1, 1) := by decide +kernel
theorem d_MR_dataAreThere_1 : decode k_MR_dataAreThere 1 = .ok (.bipush 6, 2) := by decide +kernel
theorem d_MR_dataAreThere_3 : decode k_MR_dataAreThere 3 = .ok (.iadd, 1) := by decide +kernel
theorem d_MR_dataAreThere_4 : decode k_MR_dataAreThere 4 = .ok (.aload_n 0, 1) := by decide +kernel
theorem d_MR_dataAreThere_5 : decode k_MR_dataAreThere 5 = .ok (.getfield 9, 3) := by decide +kernel
theorem d_MR_dataAreThere_8 : decode k_MR_dataAreThere 8 = .ok (.iload_n 1, 1) := by decide +kernel
theorem d_MR_dataAreThere_9 : decode k_MR_dataAreThere 9 = .ok (.iconst 4, 1) := by decide +kernel
theorem d_MR_dataAreThere_10 : decode k_MR_dataAreThere 10 = .ok (.iadd, 1) := by decide +kernel
theorem d_MR_dataAreThere_11 : decode k_MR_dataAreThere 11 = .ok (.iaload, 1) := by decide +kernel
theorem d_MR_dataAreThere_12 : decode k_MR_dataAreThere 12 = .ok (.iadd, 1) := by decide +kernel
theorem d_MR_dataAreThere_13 : decode k_MR_dataAreThere 13 = .ok (.aload_n 0, 1) := by decide +kernel
theorem d_MR_dataAreThere_14 : decode k_MR_dataAreThere 14 = .ok (.getfield 56, 3) := by decide +kernel
theorem d_MR_dataAreThere_17 : decode k_MR_dataAreThere 17 = .ok (.if_icmp .gt 7, 3) := by decide +kernel
theorem d_MR_dataAreThere_20 : decode k_MR_dataAreThere 20 = .ok (.iconst 1, 1) := by decide +kernel
theorem d_MR_dataAreThere_21 : decode k_MR_dataAreThere 21 = .ok (.goto 4, 3) := by decide +kernel
theorem d_MR_dataAreThere_24 : decode k_MR_dataAreThere 24 = .ok (.iconst 0, 1) := by decide +kernel
theorem d_MR_dataAreThere_25 : decode k_MR_dataAreThere 25 = .ok (.ireturn, 1) := by decide +kernel
theorem d_MR_guessPart_0 : decode k_MR_guessPart 0 = .ok (.aload_n 0, 1) := by decide +kernel
theorem d_MR_guessPart_1 : decode k_MR_guessPart 1 = .ok (.getfield 15, 3) := by decide +kernel
theorem d_MR_guessPart_4 : decode k_MR_guessPart 4 = .ok (.aload_n 0, 1) := by decide +kernel
theorem d_MR_guessPart_5 : decode k_MR_guessPart 5 = .ok (.getfield 80, 3) := by decide +kernel
theorem d_MR_guessPart_8 : decode k_MR_guessPart 8 = .ok (.iconst 1, 1) := by decide +kernel
theorem d_MR_guessPart_9 : decode k_MR_guessPart 9 = .ok (.isub, 1) := by decide +kernel
theorem d_MR_guessPart_10 : decode k_MR_guessPart 10 = .ok (.aaload, 1) := by decide +kernel
theorem d_MR_guessPart_11 : decode k_MR_guessPart 11 = .ok (.astore_n 2, 1) := by decide +kernel
theorem d_MR_guessPart_12 : decode k_MR_guessPart 12 = .ok (.aload_n 2, 1) := by decide +kernel
theorem d_MR_guessPart_13 : decode k_MR_guessPart 13 = .ok (.iconst 1, 1) := by decide +kernel
theorem d_MR_guessPart_14 : decode k_MR_guessPart 14 = .ok (.iaload, 1) := by decide +kernel
theorem d_MR_guessPart_15 : decode k_MR_guessPart 15 = .ok (.iconst 1, 1) := by decide +kernel
theorem d_MR_guessPart_16 : decode k_MR_guessPart 16 = .ok (.iadd, 1) := by decide +kernel
theorem d_MR_guessPart_17 : decode k_MR_guessPart 17 = .ok (.bipush 16, 2) := by decide +kernel
theorem d_MR_guessPart_19 : decode k_MR_guessPart 19 = .ok (.irem, 1) := by decide +kernel
theorem d_MR_guessPart_20 : decode k_MR_guessPart 20 = .ok (.istore_n 3, 1) := by decide +kernel
theorem d_MR_guessPart_21 : decode k_MR_guessPart 21 = .ok (.aload_n 0, 1) := by decide +kernel
theorem d_MR_guessPart_22 : decode k_MR_guessPart 22 = .ok (.iload_n 1, 1) := by decide +kernel
theorem d_MR_guessPart_23 : decode k_MR_guessPart 23 = .ok (.iload_n 3, 1) := by decide +kernel
theorem d_MR_guessPart_24 : decode k_MR_guessPart 24 = .ok (.aload_n 2, 1) := by decide +kernel
theorem d_MR_guessPart_25 : decode k_MR_guessPart 25 = .ok (.iconst 2, 1) := by decide +kernel
theorem d_MR_guessPart_26 : decode k_MR_guessPart 26 = .ok (.iaload, 1) := by decide +kernel
theorem d_MR_guessPart_27 : decode k_MR_guessPart 27 = .ok (.aload_n 0, 1) := by decide +kernel
theorem d_MR_guessPart_28 : decode k_MR_guessPart 28 = .ok (.iload_n 1, 1) := by decide +kernel
theorem d_MR_guessPart_29 : decode k_MR_guessPart 29 = .ok (.bipush 6, 2) := by decide +kernel
theorem d_MR_guessPart_31 : decode k_MR_guessPart 31 = .ok (.iadd, 1) := by decide +kernel
theorem d_MR_guessPart_32 : decode k_MR_guessPart 32 = .ok (.invokevirtual 161, 3) := by decide +kernel
theorem d_MR_guessPart_35 : decode k_MR_guessPart 35 = .ok (.iconst 1, 1) := by decide +kernel
theorem d_MR_guessPart_36 : decode k_MR_guessPart 36 = .ok (.invokevirtual 148, 3) := by decide +kernel
theorem d_MR_guessPart_39 : decode k_MR_guessPart 39 = .ok (.ireturn, 1) := by decide +kernel
theorem d_MR_guessSize_0 : decode k_MR_guessSize 0 = .ok (.iconst 0, 1) := by decide +kernel
theorem d_MR_guessSize_1 : decode k_MR_guessSize 1 = .ok (.istore_n 2, 1) := by decide +kernel
theorem d_MR_guessSize_2 : decode k_MR_guessSize 2 = .ok (.iload_n 2, 1) := by decide +kernel
theorem d_MR_guessSize_3 : decode k_MR_guessSize 3 = .ok (.bipush 64, 2) := by decide +kernel
theorem d_MR_guessSize_5 : decode k_MR_guessSize 5 = .ok (.if_icmp .ge 50, 3) := by decide +kernel
theorem d_MR_guessSize_8 : decode k_MR_guessSize 8 = .ok (.aload_n 0, 1) := by decide +kernel
theorem d_MR_guessSize_9 : decode k_MR_guessSize 9 = .ok (.getfield 77, 3) := by decide +kernel
theorem d_MR_guessSize_12 : decode k_MR_guessSize 12 = .ok (.aload_n 0, 1) := by decide +kernel
theorem d_MR_guessSize_13 : decode k_MR_guessSize 13 = .ok (.getfield 46, 3) := by decide +kernel
theorem d_MR_guessSize_16 : decode k_MR_guessSize 16 = .ok (.if_icmp .ge 39, 3) := by decide +kernel
theorem d_MR_guessSize_19 : decode k_MR_guessSize 19 = .ok (.iload_n 1, 1) := by decide +kernel
theorem d_MR_guessSize_20 : decode k_MR_guessSize 20 = .ok (.iload_n 2, 1) := by decide +kernel
theorem d_MR_guessSize_21 : decode k_MR_guessSize 21 = .ok (.iadd, 1) := by decide +kernel
theorem d_MR_guessSize_22 : decode k_MR_guessSize 22 = .ok (.aload_n 0, 1) := by decide +kernel
theorem d_MR_guessSize_23 : decode k_MR_guessSize 23 = .ok (.getfield 56, 3) := by decide +kernel
theorem d_MR_guessSize_26 : decode k_MR_guessSize 26 = .ok (.if_icmp .ge 29, 3) := by decide +kernel
theorem d_MR_guessSize_29 : decode k_MR_guessSize 29 = .ok (.aload_n 0, 1) := by decide +kernel
theorem d_MR_guessSize_30 : decode k_MR_guessSize 30 = .ok (.iload_n 1, 1) := by decide +kernel
theorem d_MR_guessSize_31 : decode k_MR_guessSize 31 = .ok (.iload_n 2, 1) := by decide +kernel
theorem d_MR_guessSize_32 : decode k_MR_guessSize 32 = .ok (.iadd, 1) := by decide +kernel
theorem d_MR_guessSize_33 : decode k_MR_guessSize 33 = .ok (.invokevirtual 138, 3) := by decide +kernel
theorem d_MR_guessSize_36 : decode k_MR_guessSize 36 = .ok (.ifCond .ne 19, 3) := by decide +kernel
theorem d_MR_guessSize_39 : decode k_MR_guessSize 39 = .ok (.iinc 2 1, 3) := by decide +kernel
theorem d_MR_guessSize_42 : decode k_MR_guessSize 42 = .ok (.aload_n 0, 1) := by decide +kernel
theorem d_MR_guessSize_43 : decode k_MR_guessSize 43 = .ok (.dup, 1) := by decide +kernel
theorem d_MR_guessSize_44 : decode k_MR_guessSize 44 = .ok (.getfield 77, 3) := by decide +kernel
theorem d_MR_guessSize_47 : decode k_MR_guessSize 47 = .ok (.iconst 1, 1) := by decide +kernel
theorem d_MR_guessSize_48 : decode k_MR_guessSize 48 = .ok (.iadd, 1) := by decide +kernel
theorem d_MR_guessSize_49 : decode k_MR_guessSize 49 = .ok (.putfield 77, 3) := by decide +kernel
theorem d_MR_guessSize_52 : decode k_MR_guessSize 52 = .ok (.goto (-50), 3) := by decide +kernel
theorem d_MR_guessSize_55 : decode k_MR_guessSize 55 = .ok (.iload_n 2, 1) := by decide +kernel
theorem d_MR_guessSize_56 : decode k_MR_guessSize 56 = .ok (.ireturn, 1) := by decide +kernel
theorem d_MR_keepPart_0 : decode k_MR_keepPart 0 = .ok (.aload_n 0, 1) := by decide +kernel
theorem d_MR_keepPart_1 : decode k_MR_keepPart 1 = .ok (.getfield 15, 3) := by decide +kernel
theorem d_MR_keepPart_4 : decode k_MR_keepPart 4 = .ok (.aload_n 0, 1) := by decide +kernel
theorem d_MR_keepPart_5 : decode k_MR_keepPart 5 = .ok (.getfield 80, 3) := by decide +kernel
theorem d_MR_keepPart_8 : decode k_MR_keepPart 8 = .ok (.aaload, 1) := by decide +kernel
theorem d_MR_keepPart_9 : decode k_MR_keepPart 9 = .ok (.astore 6, 2) := by decide +kernel
theorem d_MR_keepPart_11 : decode k_MR_keepPart 11 = .ok (.aload 6, 2) := by decide +kernel
theorem d_MR_keepPart_13 : decode k_MR_keepPart 13 = .ok (.iconst 0, 1) := by decide +kernel
theorem d_MR_keepPart_14 : decode k_MR_keepPart 14 = .ok (.iload_n 1, 1) := by decide +kernel
theorem d_MR_keepPart_15 : decode k_MR_keepPart 15 = .ok (.iastore, 1) := by decide +kernel
theorem d_MR_keepPart_16 : decode k_MR_keepPart 16 = .ok (.aload 6, 2) := by decide +kernel
theorem d_MR_keepPart_18 : decode k_MR_keepPart 18 = .ok (.iconst 1, 1) := by decide +kernel
theorem d_MR_keepPart_19 : decode k_MR_keepPart 19 = .ok (.iload_n 2, 1) := by decide +kernel
theorem d_MR_keepPart_20 : decode k_MR_keepPart 20 = .ok (.iastore, 1) := by decide +kernel
theorem d_MR_keepPart_21 : decode k_MR_keepPart 21 = .ok (.aload 6, 2) := by decide +kernel
theorem d_MR_keepPart_23 : decode k_MR_keepPart 23 = .ok (.iconst 2, 1) := by decide +kernel
theorem d_MR_keepPart_24 : decode k_MR_keepPart 24 = .ok (.iload_n 3, 1) := by decide +kernel
theorem d_MR_keepPart_25 : decode k_MR_keepPart 25 = .ok (.iastore, 1) := by decide +kernel
theorem d_MR_keepPart_26 : decode k_MR_keepPart 26 = .ok (.aload 6, 2) := by decide +kernel
theorem d_MR_keepPart_28 : decode k_MR_keepPart 28 = .ok (.iconst 3, 1) := by decide +kernel
theorem d_MR_keepPart_29 : decode k_MR_keepPart 29 = .ok (.iload 4, 2) := by decide +kernel
theorem d_MR_keepPart_31 : decode k_MR_keepPart 31 = .ok (.iastore, 1) := by decide +kernel
theorem d_MR_keepPart_32 : decode k_MR_keepPart 32 = .ok (.aload 6, 2) := by decide +kernel
theorem d_MR_keepPart_34 : decode k_MR_keepPart 34 = .ok (.iconst 4, 1) := by decide +kernel
theorem d_MR_keepPart_35 : decode k_MR_keepPart 35 = .ok (.iload 5, 2) := by decide +kernel
theorem d_MR_keepPart_37 : decode k_MR_keepPart 37 = .ok (.iastore, 1) := by decide +kernel
theorem d_MR_keepPart_38 : decode k_MR_keepPart 38 = .ok (.aload 6, 2) := by decide +kernel
theorem d_MR_keepPart_40 : decode k_MR_keepPart 40 = .ok (.iconst 5, 1) := by decide +kernel
theorem d_MR_keepPart_41 : decode k_MR_keepPart 41 = .ok (.iconst (-1), 1) := by decide +kernel
theorem d_MR_keepPart_42 : decode k_MR_keepPart 42 = .ok (.iastore, 1) := by decide +kernel
theorem d_MR_keepPart_43 : decode k_MR_keepPart 43 = .ok (.aload_n 0, 1) := by decide +kernel
theorem d_MR_keepPart_44 : decode k_MR_keepPart 44 = .ok (.dup, 1) := by decide +kernel
theorem d_MR_keepPart_45 : decode k_MR_keepPart 45 = .ok (.getfield 80, 3) := by decide +kernel
theorem d_MR_keepPart_48 : decode k_MR_keepPart 48 = .ok (.iconst 1, 1) := by decide +kernel
theorem d_MR_keepPart_49 : decode k_MR_keepPart 49 = .ok (.iadd, 1) := by decide +kernel
theorem d_MR_keepPart_50 : decode k_MR_keepPart 50 = .ok (.putfield 80, 3) := by decide +kernel
theorem d_MR_keepPart_53 : decode k_MR_keepPart 53 = .ok (.iload_n 1, 1) := by decide +kernel
theorem d_MR_keepPart_54 : decode k_MR_keepPart 54 = .ok (.bipush 6, 2) := by decide +kernel
theorem d_MR_keepPart_56 : decode k_MR_keepPart 56 = .ok (.iadd, 1) := by decide +kernel
theorem d_MR_keepPart_57 : decode k_MR_keepPart 57 = .ok (.iload 4, 2) := by decide +kernel
theorem d_MR_keepPart_59 : decode k_MR_keepPart 59 = .ok (.iadd, 1) := by decide +kernel
theorem d_MR_keepPart_60 : decode k_MR_keepPart 60 = .ok (.ireturn, 1) := by decide +kernel
theorem d_MR_decodePart_0 : decode k_MR_decodePart 0 = .ok (.aload_n 0, 1) := by decide +kernel
theorem d_MR_decodePart_1 : decode k_MR_decodePart 1 = .ok (.getfield 21, 3) := by decide +kernel
theorem d_MR_decodePart_4 : decode k_MR_decodePart 4 = .ok (.aload_n 0, 1) := by decide +kernel
theorem d_MR_decodePart_5 : decode k_MR_decodePart 5 = .ok (.getfield 9, 3) := by decide +kernel
theorem d_MR_decodePart_8 : decode k_MR_decodePart 8 = .ok (.aload_n 1, 1) := by decide +kernel
theorem d_MR_decodePart_9 : decode k_MR_decodePart 9 = .ok (.iconst 0, 1) := by decide +kernel
theorem d_MR_decodePart_10 : decode k_MR_decodePart 10 = .ok (.iaload, 1) := by decide +kernel
theorem d_MR_decodePart_11 : decode k_MR_decodePart 11 = .ok (.bipush 6, 2) := by decide +kernel
theorem d_MR_decodePart_13 : decode k_MR_decodePart 13 = .ok (.iadd, 1) := by decide +kernel
theorem d_MR_decodePart_14 : decode k_MR_decodePart 14 = .ok (.aload_n 1, 1) := by decide +kernel
theorem d_MR_decodePart_15 : decode k_MR_decodePart 15 = .ok (.iconst 3, 1) := by decide +kernel
theorem d_MR_decodePart_16 : decode k_MR_decodePart 16 = .ok (.iaload, 1) := by decide +kernel
theorem d_MR_decodePart_17 : decode k_MR_decodePart 17 = .ok (.invokevirtual 164, 3) := by decide +kernel
theorem d_MR_decodePart_20 : decode k_MR_decodePart 20 = .ok (.aload_n 0, 1) := by decide +kernel
theorem d_MR_decodePart_21 : decode k_MR_decodePart 21 = .ok (.getfield 21, 3) := by decide +kernel
theorem d_MR_decodePart_24 : decode k_MR_decodePart 24 = .ok (.aload_n 1, 1) := by decide +kernel
theorem d_MR_decodePart_25 : decode k_MR_decodePart 25 = .ok (.iconst 2, 1) := by decide +kernel
theorem d_MR_decodePart_26 : decode k_MR_decodePart 26 = .ok (.iaload, 1) := by decide +kernel
theorem d_MR_decodePart_27 : decode k_MR_decodePart 27 = .ok (.invokevirtual 168, 3) := by decide +kernel
theorem d_MR_decodePart_30 : decode k_MR_decodePart 30 = .ok (.istore_n 2, 1) := by decide +kernel
theorem d_MR_decodePart_31 : decode k_MR_decodePart 31 = .ok (.aload_n 1, 1) := by decide +kernel
theorem d_MR_decodePart_32 : decode k_MR_decodePart 32 = .ok (.iconst 5, 1) := by decide +kernel
theorem d_MR_decodePart_33 : decode k_MR_decodePart 33 = .ok (.iload_n 2, 1) := by decide +kernel
theorem d_MR_decodePart_34 : decode k_MR_decodePart 34 = .ok (.iastore, 1) := by decide +kernel
theorem d_MR_decodePart_35 : decode k_MR_decodePart 35 = .ok (.aload_n 0, 1) := by decide +kernel
theorem d_MR_decodePart_36 : decode k_MR_decodePart 36 = .ok (.dup, 1) := by decide +kernel
theorem d_MR_decodePart_37 : decode k_MR_decodePart 37 = .ok (.getfield 119, 3) := by decide +kernel
theorem d_MR_decodePart_40 : decode k_MR_decodePart 40 = .ok (.iconst 1, 1) := by decide +kernel
theorem d_MR_decodePart_41 : decode k_MR_decodePart 41 = .ok (.iadd, 1) := by decide +kernel
theorem d_MR_decodePart_42 : decode k_MR_decodePart 42 = .ok (.putfield 119, 3) := by decide +kernel
theorem d_MR_decodePart_45 : decode k_MR_decodePart 45 = .ok (.iload_n 2, 1) := by decide +kernel
theorem d_MR_decodePart_46 : decode k_MR_decodePart 46 = .ok (.ifCond .eq 16, 3) := by decide +kernel
theorem d_MR_decodePart_49 : decode k_MR_decodePart 49 = .ok (.aload_n 0, 1) := by decide +kernel
theorem d_MR_decodePart_50 : decode k_MR_decodePart 50 = .ok (.dup, 1) := by decide +kernel
theorem d_MR_decodePart_51 : decode k_MR_decodePart 51 = .ok (.getfield 122, 3) := by decide +kernel
theorem d_MR_decodePart_54 : decode k_MR_decodePart 54 = .ok (.iconst 1, 1) := by decide +kernel
theorem d_MR_decodePart_55 : decode k_MR_decodePart 55 = .ok (.iadd, 1) := by decide +kernel
theorem d_MR_decodePart_56 : decode k_MR_decodePart 56 = .ok (.putfield 122, 3) := by decide +kernel
theorem d_MR_decodePart_59 : decode k_MR_decodePart 59 = .ok (.goto 32, 3) := by decide +kernel
theorem d_MR_decodePart_62 : decode k_MR_decodePart 62 = .ok (.aload_n 0, 1) := by decide +kernel
theorem d_MR_decodePart_63 : decode k_MR_decodePart 63 = .ok (.getfield 28, 3) := by decide +kernel
theorem d_MR_decodePart_66 : decode k_MR_decodePart 66 = .ok (.aload_n 1, 1) := by decide +kernel
theorem d_MR_decodePart_67 : decode k_MR_decodePart 67 = .ok (.iconst 1, 1) := by decide +kernel
theorem d_MR_decodePart_68 : decode k_MR_decodePart 68 = .ok (.iaload, 1) := by decide +kernel
theorem d_MR_decodePart_69 : decode k_MR_decodePart 69 = .ok (.aload_n 0, 1) := by decide +kernel
theorem d_MR_decodePart_70 : decode k_MR_decodePart 70 = .ok (.getfield 21, 3) := by decide +kernel
theorem d_MR_decodePart_73 : decode k_MR_decodePart 73 = .ok (.getfield 171, 3) := by decide +kernel
theorem d_MR_decodePart_76 : decode k_MR_decodePart 76 = .ok (.aload_n 1, 1) := by decide +kernel
theorem d_MR_decodePart_77 : decode k_MR_decodePart 77 = .ok (.iconst 4, 1) := by decide +kernel
theorem d_MR_decodePart_78 : decode k_MR_decodePart 78 = .ok (.iaload, 1) := by decide +kernel
theorem d_MR_decodePart_79 : decode k_MR_decodePart 79 = .ok (.iconst 1, 1) := by decide +kernel
theorem d_MR_decodePart_80 : decode k_MR_decodePart 80 = .ok (.if_icmp .ne 7, 3) := by decide +kernel
theorem d_MR_decodePart_83 : decode k_MR_decodePart 83 = .ok (.iconst 1, 1) := by decide +kernel
theorem d_MR_decodePart_84 : decode k_MR_decodePart 84 = .ok (.goto 4, 3) := by decide +kernel
theorem d_MR_decodePart_87 : decode k_MR_decodePart 87 = .ok (.iconst 0, 1) := by decide +kernel
theorem d_MR_decodePart_88 : decode k_MR_decodePart 88 = .ok (.invokevirtual 174, 3) := by decide +kernel
theorem d_MR_decodePart_91 : decode k_MR_decodePart 91 = .ok (.iload_n 2, 1) := by decide +kernel
theorem d_MR_decodePart_92 : decode k_MR_decodePart 92 = .ok (.ireturn, 1) := by decide +kernel
