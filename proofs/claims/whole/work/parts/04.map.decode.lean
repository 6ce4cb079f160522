theorem d_Map_init_0 : decode k_Map_init 0 = .ok (.aload_n 0, 1) := by decide +kernel
theorem d_Map_init_1 : decode k_Map_init 1 = .ok (.invokespecial 3, 3) := by decide +kernel
theorem d_Map_init_4 : decode k_Map_init 4 = .ok (.aload_n 0, 1) := by decide +kernel
theorem d_Map_init_5 : decode k_Map_init 5 = .ok (.sipush 256, 3) := by decide +kernel
theorem d_Map_init_8 : decode k_Map_init 8 = .ok (.newarray .int, 2) := by decide +kernel
theorem d_Map_init_10 : decode k_Map_init 10 = .ok (.putfield 11, 3) := by decide +kernel
theorem d_Map_init_13 : decode k_Map_init 13 = .ok (.aload_n 0, 1) := by decide +kernel
theorem d_Map_init_14 : decode k_Map_init 14 = .ok (.sipush 256, 3) := by decide +kernel
theorem d_Map_init_17 : decode k_Map_init 17 = .ok (.newarray .int, 2) := by decide +kernel
theorem d_Map_init_19 : decode k_Map_init 19 = .ok (.putfield 15, 3) := by decide +kernel
theorem d_Map_init_22 : decode k_Map_init 22 = .ok (.aload_n 0, 1) := by decide +kernel
theorem d_Map_init_23 : decode k_Map_init 23 = .ok (.invokevirtual 18, 3) := by decide +kernel
theorem d_Map_init_26 : decode k_Map_init 26 = .ok (.return_, 1) := by decide +kernel
theorem d_Map_forgetAll_0 : decode k_Map_forgetAll 0 = .ok (.iconst 0, 1) := by decide +kernel
theorem d_Map_forgetAll_1 : decode k_Map_forgetAll 1 = .ok (.istore_n 1, 1) := by decide +kernel
theorem d_Map_forgetAll_2 : decode k_Map_forgetAll 2 = .ok (.iload_n 1, 1) := by decide +kernel
theorem d_Map_forgetAll_3 : decode k_Map_forgetAll 3 = .ok (.sipush 256, 3) := by decide +kernel
theorem d_Map_forgetAll_6 : decode k_Map_forgetAll 6 = .ok (.if_icmp .ge 23, 3) := by decide +kernel
theorem d_Map_forgetAll_9 : decode k_Map_forgetAll 9 = .ok (.aload_n 0, 1) := by decide +kernel
theorem d_Map_forgetAll_10 : decode k_Map_forgetAll 10 = .ok (.getfield 11, 3) := by decide +kernel
theorem d_Map_forgetAll_13 : decode k_Map_forgetAll 13 = .ok (.iload_n 1, 1) := by decide +kernel
theorem d_Map_forgetAll_14 : decode k_Map_forgetAll 14 = .ok (.iconst (-1), 1) := by decide +kernel
theorem d_Map_forgetAll_15 : decode k_Map_forgetAll 15 = .ok (.iastore, 1) := by decide +kernel
theorem d_Map_forgetAll_16 : decode k_Map_forgetAll 16 = .ok (.aload_n 0, 1) := by decide +kernel
theorem d_Map_forgetAll_17 : decode k_Map_forgetAll 17 = .ok (.getfield 15, 3) := by decide +kernel
theorem d_Map_forgetAll_20 : decode k_Map_forgetAll 20 = .ok (.iload_n 1, 1) := by decide +kernel
theorem d_Map_forgetAll_21 : decode k_Map_forgetAll 21 = .ok (.iconst 0, 1) := by decide +kernel
theorem d_Map_forgetAll_22 : decode k_Map_forgetAll 22 = .ok (.iastore, 1) := by decide +kernel
theorem d_Map_forgetAll_23 : decode k_Map_forgetAll 23 = .ok (.iinc 1 1, 3) := by decide +kernel
theorem d_Map_forgetAll_26 : decode k_Map_forgetAll 26 = .ok (.goto (-24), 3) := by decide +kernel
theorem d_Map_forgetAll_29 : decode k_Map_forgetAll 29 = .ok (.return_, 1) := by decide +kernel
theorem d_Map_tellRow_0 : decode k_Map_tellRow 0 = .ok (.iconst 0, 1) := by decide +kernel
theorem d_Map_tellRow_1 : decode k_Map_tellRow 1 = .ok (.istore 4, 2) := by decide +kernel
theorem d_Map_tellRow_3 : decode k_Map_tellRow 3 = .ok (.iload 4, 2) := by decide +kernel
theorem d_Map_tellRow_5 : decode k_Map_tellRow 5 = .ok (.bipush 16, 2) := by decide +kernel
theorem d_Map_tellRow_7 : decode k_Map_tellRow 7 = .ok (.if_icmp .ge 60, 3) := by decide +kernel
theorem d_Map_tellRow_10 : decode k_Map_tellRow 10 = .ok (.iload_n 1, 1) := by decide +kernel
theorem d_Map_tellRow_11 : decode k_Map_tellRow 11 = .ok (.bipush 16, 2) := by decide +kernel
theorem d_Map_tellRow_13 : decode k_Map_tellRow 13 = .ok (.imul, 1) := by decide +kernel
theorem d_Map_tellRow_14 : decode k_Map_tellRow 14 = .ok (.iload 4, 2) := by decide +kernel
theorem d_Map_tellRow_16 : decode k_Map_tellRow 16 = .ok (.iadd, 1) := by decide +kernel
theorem d_Map_tellRow_17 : decode k_Map_tellRow 17 = .ok (.istore 5, 2) := by decide +kernel
theorem d_Map_tellRow_19 : decode k_Map_tellRow 19 = .ok (.iload_n 3, 1) := by decide +kernel
theorem d_Map_tellRow_20 : decode k_Map_tellRow 20 = .ok (.ifCond .eq 14, 3) := by decide +kernel
theorem d_Map_tellRow_23 : decode k_Map_tellRow 23 = .ok (.aload_n 0, 1) := by decide +kernel
theorem d_Map_tellRow_24 : decode k_Map_tellRow 24 = .ok (.getfield 15, 3) := by decide +kernel
theorem d_Map_tellRow_27 : decode k_Map_tellRow 27 = .ok (.iload 5, 2) := by decide +kernel
theorem d_Map_tellRow_29 : decode k_Map_tellRow 29 = .ok (.iaload, 1) := by decide +kernel
theorem d_Map_tellRow_30 : decode k_Map_tellRow 30 = .ok (.iconst 1, 1) := by decide +kernel
theorem d_Map_tellRow_31 : decode k_Map_tellRow 31 = .ok (.if_icmp .eq 30, 3) := by decide +kernel
theorem d_Map_tellRow_34 : decode k_Map_tellRow 34 = .ok (.aload_n 0, 1) := by decide +kernel
theorem d_Map_tellRow_35 : decode k_Map_tellRow 35 = .ok (.getfield 11, 3) := by decide +kernel
theorem d_Map_tellRow_38 : decode k_Map_tellRow 38 = .ok (.iload 5, 2) := by decide +kernel
theorem d_Map_tellRow_40 : decode k_Map_tellRow 40 = .ok (.aload_n 2, 1) := by decide +kernel
theorem d_Map_tellRow_41 : decode k_Map_tellRow 41 = .ok (.iload 4, 2) := by decide +kernel
theorem d_Map_tellRow_43 : decode k_Map_tellRow 43 = .ok (.iaload, 1) := by decide +kernel
theorem d_Map_tellRow_44 : decode k_Map_tellRow 44 = .ok (.iastore, 1) := by decide +kernel
theorem d_Map_tellRow_45 : decode k_Map_tellRow 45 = .ok (.aload_n 0, 1) := by decide +kernel
theorem d_Map_tellRow_46 : decode k_Map_tellRow 46 = .ok (.getfield 15, 3) := by decide +kernel
theorem d_Map_tellRow_49 : decode k_Map_tellRow 49 = .ok (.iload 5, 2) := by decide +kernel
theorem d_Map_tellRow_51 : decode k_Map_tellRow 51 = .ok (.iload_n 3, 1) := by decide +kernel
theorem d_Map_tellRow_52 : decode k_Map_tellRow 52 = .ok (.ifCond .eq 7, 3) := by decide +kernel
theorem d_Map_tellRow_55 : decode k_Map_tellRow 55 = .ok (.iconst 2, 1) := by decide +kernel
theorem d_Map_tellRow_56 : decode k_Map_tellRow 56 = .ok (.goto 4, 3) := by decide +kernel
theorem d_Map_tellRow_59 : decode k_Map_tellRow 59 = .ok (.iconst 1, 1) := by decide +kernel
theorem d_Map_tellRow_60 : decode k_Map_tellRow 60 = .ok (.iastore, 1) := by decide +kernel
theorem d_Map_tellRow_61 : decode k_Map_tellRow 61 = .ok (.iinc 4 1, 3) := by decide +kernel
theorem d_Map_tellRow_64 : decode k_Map_tellRow 64 = .ok (.goto (-61), 3) := by decide +kernel
theorem d_Map_tellRow_67 : decode k_Map_tellRow 67 = .ok (.return_, 1) := by decide +kernel
theorem d_Map_countSure_0 : decode k_Map_countSure 0 = .ok (.iconst 0, 1) := by decide +kernel
theorem d_Map_countSure_1 : decode k_Map_countSure 1 = .ok (.istore_n 1, 1) := by decide +kernel
theorem d_Map_countSure_2 : decode k_Map_countSure 2 = .ok (.iconst 0, 1) := by decide +kernel
theorem d_Map_countSure_3 : decode k_Map_countSure 3 = .ok (.istore_n 2, 1) := by decide +kernel
theorem d_Map_countSure_4 : decode k_Map_countSure 4 = .ok (.iload_n 2, 1) := by decide +kernel
theorem d_Map_countSure_5 : decode k_Map_countSure 5 = .ok (.sipush 256, 3) := by decide +kernel
theorem d_Map_countSure_8 : decode k_Map_countSure 8 = .ok (.if_icmp .ge 22, 3) := by decide +kernel
theorem d_Map_countSure_11 : decode k_Map_countSure 11 = .ok (.aload_n 0, 1) := by decide +kernel
theorem d_Map_countSure_12 : decode k_Map_countSure 12 = .ok (.getfield 15, 3) := by decide +kernel
theorem d_Map_countSure_15 : decode k_Map_countSure 15 = .ok (.iload_n 2, 1) := by decide +kernel
theorem d_Map_countSure_16 : decode k_Map_countSure 16 = .ok (.iaload, 1) := by decide +kernel
theorem d_Map_countSure_17 : decode k_Map_countSure 17 = .ok (.iconst 1, 1) := by decide +kernel
theorem d_Map_countSure_18 : decode k_Map_countSure 18 = .ok (.if_icmp .ne 6, 3) := by decide +kernel
theorem d_Map_countSure_21 : decode k_Map_countSure 21 = .ok (.iinc 1 1, 3) := by decide +kernel
theorem d_Map_countSure_24 : decode k_Map_countSure 24 = .ok (.iinc 2 1, 3) := by decide +kernel
theorem d_Map_countSure_27 : decode k_Map_countSure 27 = .ok (.goto (-23), 3) := by decide +kernel
theorem d_Map_countSure_30 : decode k_Map_countSure 30 = .ok (.iload_n 1, 1) := by decide +kernel
theorem d_Map_countSure_31 : decode k_Map_countSure 31 = .ok (.ireturn, 1) := by decide +kernel
theorem d_Map_fillUntold_0 : decode k_Map_fillUntold 0 = .ok (.iconst 0, 1) := by decide +kernel
theorem d_Map_fillUntold_1 : decode k_Map_fillUntold 1 = .ok (.istore_n 2, 1) := by decide +kernel
theorem d_Map_fillUntold_2 : decode k_Map_fillUntold 2 = .ok (.iconst 0, 1) := by decide +kernel
theorem d_Map_fillUntold_3 : decode k_Map_fillUntold 3 = .ok (.istore_n 3, 1) := by decide +kernel
theorem d_Map_fillUntold_4 : decode k_Map_fillUntold 4 = .ok (.iload_n 3, 1) := by decide +kernel
theorem d_Map_fillUntold_5 : decode k_Map_fillUntold 5 = .ok (.sipush 256, 3) := by decide +kernel
theorem d_Map_fillUntold_8 : decode k_Map_fillUntold 8 = .ok (.if_icmp .ge 50, 3) := by decide +kernel
theorem d_Map_fillUntold_11 : decode k_Map_fillUntold 11 = .ok (.aload_n 0, 1) := by decide +kernel
theorem d_Map_fillUntold_12 : decode k_Map_fillUntold 12 = .ok (.getfield 15, 3) := by decide +kernel
theorem d_Map_fillUntold_15 : decode k_Map_fillUntold 15 = .ok (.iload_n 3, 1) := by decide +kernel
theorem d_Map_fillUntold_16 : decode k_Map_fillUntold 16 = .ok (.iaload, 1) := by decide +kernel
theorem d_Map_fillUntold_17 : decode k_Map_fillUntold 17 = .ok (.ifCond .eq 13, 3) := by decide +kernel
theorem d_Map_fillUntold_20 : decode k_Map_fillUntold 20 = .ok (.aload_n 0, 1) := by decide +kernel
theorem d_Map_fillUntold_21 : decode k_Map_fillUntold 21 = .ok (.getfield 15, 3) := by decide +kernel
theorem d_Map_fillUntold_24 : decode k_Map_fillUntold 24 = .ok (.iload_n 3, 1) := by decide +kernel
theorem d_Map_fillUntold_25 : decode k_Map_fillUntold 25 = .ok (.iaload, 1) := by decide +kernel
theorem d_Map_fillUntold_26 : decode k_Map_fillUntold 26 = .ok (.iconst 3, 1) := by decide +kernel
theorem d_Map_fillUntold_27 : decode k_Map_fillUntold 27 = .ok (.if_icmp .ne 25, 3) := by decide +kernel
theorem d_Map_fillUntold_30 : decode k_Map_fillUntold 30 = .ok (.aload_n 0, 1) := by decide +kernel
theorem d_Map_fillUntold_31 : decode k_Map_fillUntold 31 = .ok (.getfield 11, 3) := by decide +kernel
theorem d_Map_fillUntold_34 : decode k_Map_fillUntold 34 = .ok (.iload_n 3, 1) := by decide +kernel
theorem d_Map_fillUntold_35 : decode k_Map_fillUntold 35 = .ok (.aload_n 0, 1) := by decide +kernel
theorem d_Map_fillUntold_36 : decode k_Map_fillUntold 36 = .ok (.iload_n 3, 1) := by decide +kernel
theorem d_Map_fillUntold_37 : decode k_Map_fillUntold 37 = .ok (.iload_n 1, 1) := by decide +kernel
theorem d_Map_fillUntold_38 : decode k_Map_fillUntold 38 = .ok (.invokevirtual 21, 3) := by decide +kernel
theorem d_Map_fillUntold_41 : decode k_Map_fillUntold 41 = .ok (.iastore, 1) := by decide +kernel
theorem d_Map_fillUntold_42 : decode k_Map_fillUntold 42 = .ok (.aload_n 0, 1) := by decide +kernel
theorem d_Map_fillUntold_43 : decode k_Map_fillUntold 43 = .ok (.getfield 15, 3) := by decide +kernel
theorem d_Map_fillUntold_46 : decode k_Map_fillUntold 46 = .ok (.iload_n 3, 1) := by decide +kernel
theorem d_Map_fillUntold_47 : decode k_Map_fillUntold 47 = .ok (.iconst 3, 1) := by decide +kernel
theorem d_Map_fillUntold_48 : decode k_Map_fillUntold 48 = .ok (.iastore, 1) := by decide +kernel
theorem d_Map_fillUntold_49 : decode k_Map_fillUntold 49 = .ok (.iinc 2 1, 3) := by decide +kernel
theorem d_Map_fillUntold_52 : decode k_Map_fillUntold 52 = .ok (.iinc 3 1, 3) := by decide +kernel
theorem d_Map_fillUntold_55 : decode k_Map_fillUntold 55 = .ok (.goto (-51), 3) := by decide +kernel
theorem d_Map_fillUntold_58 : decode k_Map_fillUntold 58 = .ok (.iload_n 2, 1) := by decide +kernel
theorem d_Map_fillUntold_59 : decode k_Map_fillUntold 59 = .ok (.ireturn, 1) := by decide +kernel
theorem d_Map_valueByRule_0 : decode k_Map_valueByRule 0 = .ok (.iload_n 2, 1) := by decide +kernel
theorem d_Map_valueByRule_1 : decode k_Map_valueByRule 1 = .ok (.lookupswitch 45 #[(0, 27), (1, 41)], 27) := by decide +kernel
theorem d_Map_valueByRule_28 : decode k_Map_valueByRule 28 = .ok (.aload_n 0, 1) := by decide +kernel
theorem d_Map_valueByRule_29 : decode k_Map_valueByRule 29 = .ok (.iload_n 1, 1) := by decide +kernel
theorem d_Map_valueByRule_30 : decode k_Map_valueByRule 30 = .ok (.invokevirtual 25, 3) := by decide +kernel
theorem d_Map_valueByRule_33 : decode k_Map_valueByRule 33 = .ok (.aload_n 0, 1) := by decide +kernel
theorem d_Map_valueByRule_34 : decode k_Map_valueByRule 34 = .ok (.iload_n 1, 1) := by decide +kernel
theorem d_Map_valueByRule_35 : decode k_Map_valueByRule 35 = .ok (.invokevirtual 29, 3) := by decide +kernel
theorem d_Map_valueByRule_38 : decode k_Map_valueByRule 38 = .ok (.invokestatic 32, 3) := by decide +kernel
theorem d_Map_valueByRule_41 : decode k_Map_valueByRule 41 = .ok (.ireturn, 1) := by decide +kernel
theorem d_Map_valueByRule_42 : decode k_Map_valueByRule 42 = .ok (.sipush 255, 3) := by decide +kernel
theorem d_Map_valueByRule_45 : decode k_Map_valueByRule 45 = .ok (.ireturn, 1) := by decide +kernel
theorem d_Map_valueByRule_46 : decode k_Map_valueByRule 46 = .ok (.iload_n 1, 1) := by decide +kernel
theorem d_Map_valueByRule_47 : decode k_Map_valueByRule 47 = .ok (.bipush 16, 2) := by decide +kernel
theorem d_Map_valueByRule_49 : decode k_Map_valueByRule 49 = .ok (.if_icmp .ge 9, 3) := by decide +kernel
theorem d_Map_valueByRule_52 : decode k_Map_valueByRule 52 = .ok (.sipush 255, 3) := by decide +kernel
theorem d_Map_valueByRule_55 : decode k_Map_valueByRule 55 = .ok (.goto 8, 3) := by decide +kernel
theorem d_Map_valueByRule_58 : decode k_Map_valueByRule 58 = .ok (.aload_n 0, 1) := by decide +kernel
theorem d_Map_valueByRule_59 : decode k_Map_valueByRule 59 = .ok (.iload_n 1, 1) := by decide +kernel
theorem d_Map_valueByRule_60 : decode k_Map_valueByRule 60 = .ok (.invokevirtual 29, 3) := by decide +kernel
theorem d_Map_valueByRule_63 : decode k_Map_valueByRule 63 = .ok (.ireturn, 1) := by decide +kernel
theorem d_Map_valueLeftOf_0 : decode k_Map_valueLeftOf 0 = .ok (.iload_n 1, 1) := by decide +kernel
theorem d_Map_valueLeftOf_1 : decode k_Map_valueLeftOf 1 = .ok (.bipush 16, 2) := by decide +kernel
theorem d_Map_valueLeftOf_3 : decode k_Map_valueLeftOf 3 = .ok (.irem, 1) := by decide +kernel
theorem d_Map_valueLeftOf_4 : decode k_Map_valueLeftOf 4 = .ok (.ifCond .ne 7, 3) := by decide +kernel
theorem d_Map_valueLeftOf_7 : decode k_Map_valueLeftOf 7 = .ok (.iconst (-1), 1) := by decide +kernel
theorem d_Map_valueLeftOf_8 : decode k_Map_valueLeftOf 8 = .ok (.goto 11, 3) := by decide +kernel
theorem d_Map_valueLeftOf_11 : decode k_Map_valueLeftOf 11 = .ok (.aload_n 0, 1) := by decide +kernel
theorem d_Map_valueLeftOf_12 : decode k_Map_valueLeftOf 12 = .ok (.getfield 11, 3) := by decide +kernel
theorem d_Map_valueLeftOf_15 : decode k_Map_valueLeftOf 15 = .ok (.iload_n 1, 1) := by decide +kernel
theorem d_Map_valueLeftOf_16 : decode k_Map_valueLeftOf 16 = .ok (.iconst 1, 1) := by decide +kernel
theorem d_Map_valueLeftOf_17 : decode k_Map_valueLeftOf 17 = .ok (.isub, 1) := by decide +kernel
theorem d_Map_valueLeftOf_18 : decode k_Map_valueLeftOf 18 = .ok (.iaload, 1) := by decide +kernel
theorem d_Map_valueLeftOf_19 : decode k_Map_valueLeftOf 19 = .ok (.ireturn, 1) := by decide +kernel
theorem d_Map_valueAbove_0 : decode k_Map_valueAbove 0 = .ok (.iload_n 1, 1) := by decide +kernel
theorem d_Map_valueAbove_1 : decode k_Map_valueAbove 1 = .ok (.bipush 16, 2) := by decide +kernel
theorem d_Map_valueAbove_3 : decode k_Map_valueAbove 3 = .ok (.if_icmp .ge 7, 3) := by decide +kernel
theorem d_Map_valueAbove_6 : decode k_Map_valueAbove 6 = .ok (.iconst (-1), 1) := by decide +kernel
theorem d_Map_valueAbove_7 : decode k_Map_valueAbove 7 = .ok (.goto 12, 3) := by decide +kernel
theorem d_Map_valueAbove_10 : decode k_Map_valueAbove 10 = .ok (.aload_n 0, 1) := by decide +kernel
theorem d_Map_valueAbove_11 : decode k_Map_valueAbove 11 = .ok (.getfield 11, 3) := by decide +kernel
theorem d_Map_valueAbove_14 : decode k_Map_valueAbove 14 = .ok (.iload_n 1, 1) := by decide +kernel
theorem d_Map_valueAbove_15 : decode k_Map_valueAbove 15 = .ok (.bipush 16, 2) := by decide +kernel
theorem d_Map_valueAbove_17 : decode k_Map_valueAbove 17 = .ok (.isub, 1) := by decide +kernel
theorem d_Map_valueAbove_18 : decode k_Map_valueAbove 18 = .ok (.iaload, 1) := by decide +kernel
theorem d_Map_valueAbove_19 : decode k_Map_valueAbove 19 = .ok (.ireturn, 1) := by decide +kernel
theorem d_Map_meanOf_0 : decode k_Map_meanOf 0 = .ok (.iload_n 0, 1) := by decide +kernel
theorem d_Map_meanOf_1 : decode k_Map_meanOf 1 = .ok (.iconst (-1), 1) := by decide +kernel
theorem d_Map_meanOf_2 : decode k_Map_meanOf 2 = .ok (.if_icmp .ne 12, 3) := by decide +kernel
theorem d_Map_meanOf_5 : decode k_Map_meanOf 5 = .ok (.iload_n 1, 1) := by decide +kernel
theorem d_Map_meanOf_6 : decode k_Map_meanOf 6 = .ok (.iconst (-1), 1) := by decide +kernel
theorem d_Map_meanOf_7 : decode k_Map_meanOf 7 = .ok (.if_icmp .ne 7, 3) := by decide +kernel
theorem d_Map_meanOf_10 : decode k_Map_meanOf 10 = .ok (.sipush 128, 3) := by decide +kernel
theorem d_Map_meanOf_13 : decode k_Map_meanOf 13 = .ok (.ireturn, 1) := by decide +kernel
theorem d_Map_meanOf_14 : decode k_Map_meanOf 14 = .ok (.iload_n 0, 1) := by decide +kernel
theorem d_Map_meanOf_15 : decode k_Map_meanOf 15 = .ok (.iconst (-1), 1) := by decide +kernel
theorem d_Map_meanOf_16 : decode k_Map_meanOf 16 = .ok (.if_icmp .ne 5, 3) := by decide +kernel
theorem d_Map_meanOf_19 : decode k_Map_meanOf 19 = .ok (.iload_n 1, 1) := by decide +kernel
theorem d_Map_meanOf_20 : decode k_Map_meanOf 20 = .ok (.ireturn, 1) := by decide +kernel
theorem d_Map_meanOf_21 : decode k_Map_meanOf 21 = .ok (.iload_n 1, 1) := by decide +kernel
theorem d_Map_meanOf_22 : decode k_Map_meanOf 22 = .ok (.iconst (-1), 1) := by decide +kernel
theorem d_Map_meanOf_23 : decode k_Map_meanOf 23 = .ok (.if_icmp .ne 7, 3) := by decide +kernel
theorem d_Map_meanOf_26 : decode k_Map_meanOf 26 = .ok (.iload_n 0, 1) := by decide +kernel
theorem d_Map_meanOf_27 : decode k_Map_meanOf 27 = .ok (.goto 8, 3) := by decide +kernel
theorem d_Map_meanOf_30 : decode k_Map_meanOf 30 = .ok (.iload_n 0, 1) := by decide +kernel
theorem d_Map_meanOf_31 : decode k_Map_meanOf 31 = .ok (.iload_n 1, 1) := by decide +kernel
theorem d_Map_meanOf_32 : decode k_Map_meanOf 32 = .ok (.iadd, 1) := by decide +kernel
theorem d_Map_meanOf_33 : decode k_Map_meanOf 33 = .ok (.iconst 2, 1) := by decide +kernel
theorem d_Map_meanOf_34 : decode k_Map_meanOf 34 = .ok (.idiv, 1) := by decide +kernel
theorem d_Map_meanOf_35 : decode k_Map_meanOf 35 = .ok (.ireturn, 1) := by decide +kernel
