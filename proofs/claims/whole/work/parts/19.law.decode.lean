theorem d_Law_cell_0 : decode k_Law_cell 0 = .ok (.iload_n 1, 1) := by decide +kernel
theorem d_Law_cell_1 : decode k_Law_cell 1 = .ok (.aload_n 0, 1) := by decide +kernel
theorem d_Law_cell_2 : decode k_Law_cell 2 = .ok (.arraylength, 1) := by decide +kernel
theorem d_Law_cell_3 : decode k_Law_cell 3 = .ok (.if_icmp .ge 9, 3) := by decide +kernel
theorem d_Law_cell_6 : decode k_Law_cell 6 = .ok (.aload_n 0, 1) := by decide +kernel
theorem d_Law_cell_7 : decode k_Law_cell 7 = .ok (.iload_n 1, 1) := by decide +kernel
theorem d_Law_cell_8 : decode k_Law_cell 8 = .ok (.iaload, 1) := by decide +kernel
theorem d_Law_cell_9 : decode k_Law_cell 9 = .ok (.goto 4, 3) := by decide +kernel
theorem d_Law_cell_12 : decode k_Law_cell 12 = .ok (.iconst 0, 1) := by decide +kernel
theorem d_Law_cell_13 : decode k_Law_cell 13 = .ok (.ireturn, 1) := by decide +kernel
theorem d_Law_feed_0 : decode k_Law_feed 0 = .ok (.aload 4, 2) := by decide +kernel
theorem d_Law_feed_2 : decode k_Law_feed 2 = .ok (.iconst 0, 1) := by decide +kernel
theorem d_Law_feed_3 : decode k_Law_feed 3 = .ok (.aload_n 0, 1) := by decide +kernel
theorem d_Law_feed_4 : decode k_Law_feed 4 = .ok (.lload_n 1, 1) := by decide +kernel
theorem d_Law_feed_5 : decode k_Law_feed 5 = .ok (.iload_n 3, 1) := by decide +kernel
theorem d_Law_feed_6 : decode k_Law_feed 6 = .ok (.invokevirtual 7, 3) := by decide +kernel
theorem d_Law_feed_9 : decode k_Law_feed 9 = .ok (.i2l, 1) := by decide +kernel
theorem d_Law_feed_10 : decode k_Law_feed 10 = .ok (.lastore, 1) := by decide +kernel
theorem d_Law_feed_11 : decode k_Law_feed 11 = .ok (.goto 11, 3) := by decide +kernel
theorem d_Law_feed_14 : decode k_Law_feed 14 = .ok (.astore 5, 2) := by decide +kernel
theorem d_Law_feed_16 : decode k_Law_feed 16 = .ok (.iconst 1, 1) := by decide +kernel
theorem d_Law_feed_17 : decode k_Law_feed 17 = .ok (.ireturn, 1) := by decide +kernel
theorem d_Law_feed_18 : decode k_Law_feed 18 = .ok (.astore 5, 2) := by decide +kernel
theorem d_Law_feed_20 : decode k_Law_feed 20 = .ok (.iconst 2, 1) := by decide +kernel
theorem d_Law_feed_21 : decode k_Law_feed 21 = .ok (.ireturn, 1) := by decide +kernel
theorem d_Law_feed_22 : decode k_Law_feed 22 = .ok (.iconst 0, 1) := by decide +kernel
theorem d_Law_feed_23 : decode k_Law_feed 23 = .ok (.ireturn, 1) := by decide +kernel
theorem d_Law_alter_0 : decode k_Law_alter 0 = .ok (.aload_n 3, 1) := by decide +kernel
theorem d_Law_alter_1 : decode k_Law_alter 1 = .ok (.iconst 0, 1) := by decide +kernel
theorem d_Law_alter_2 : decode k_Law_alter 2 = .ok (.aload_n 0, 1) := by decide +kernel
theorem d_Law_alter_3 : decode k_Law_alter 3 = .ok (.iload_n 1, 1) := by decide +kernel
theorem d_Law_alter_4 : decode k_Law_alter 4 = .ok (.iload_n 2, 1) := by decide +kernel
theorem d_Law_alter_5 : decode k_Law_alter 5 = .ok (.invokevirtual 17, 3) := by decide +kernel
theorem d_Law_alter_8 : decode k_Law_alter 8 = .ok (.i2l, 1) := by decide +kernel
theorem d_Law_alter_9 : decode k_Law_alter 9 = .ok (.lastore, 1) := by decide +kernel
theorem d_Law_alter_10 : decode k_Law_alter 10 = .ok (.goto 11, 3) := by decide +kernel
theorem d_Law_alter_13 : decode k_Law_alter 13 = .ok (.astore 4, 2) := by decide +kernel
theorem d_Law_alter_15 : decode k_Law_alter 15 = .ok (.iconst 1, 1) := by decide +kernel
theorem d_Law_alter_16 : decode k_Law_alter 16 = .ok (.ireturn, 1) := by decide +kernel
theorem d_Law_alter_17 : decode k_Law_alter 17 = .ok (.astore 4, 2) := by decide +kernel
theorem d_Law_alter_19 : decode k_Law_alter 19 = .ok (.iconst 2, 1) := by decide +kernel
theorem d_Law_alter_20 : decode k_Law_alter 20 = .ok (.ireturn, 1) := by decide +kernel
theorem d_Law_alter_21 : decode k_Law_alter 21 = .ok (.iconst 0, 1) := by decide +kernel
theorem d_Law_alter_22 : decode k_Law_alter 22 = .ok (.ireturn, 1) := by decide +kernel
theorem d_Law_part_0 : decode k_Law_part 0 = .ok (.aload_n 3, 1) := by decide +kernel
theorem d_Law_part_1 : decode k_Law_part 1 = .ok (.iconst 0, 1) := by decide +kernel
theorem d_Law_part_2 : decode k_Law_part 2 = .ok (.aload_n 0, 1) := by decide +kernel
theorem d_Law_part_3 : decode k_Law_part 3 = .ok (.iload_n 1, 1) := by decide +kernel
theorem d_Law_part_4 : decode k_Law_part 4 = .ok (.iload_n 2, 1) := by decide +kernel
theorem d_Law_part_5 : decode k_Law_part 5 = .ok (.invokevirtual 23, 3) := by decide +kernel
theorem d_Law_part_8 : decode k_Law_part 8 = .ok (.i2l, 1) := by decide +kernel
theorem d_Law_part_9 : decode k_Law_part 9 = .ok (.lastore, 1) := by decide +kernel
theorem d_Law_part_10 : decode k_Law_part 10 = .ok (.goto 11, 3) := by decide +kernel
theorem d_Law_part_13 : decode k_Law_part 13 = .ok (.astore 4, 2) := by decide +kernel
theorem d_Law_part_15 : decode k_Law_part 15 = .ok (.iconst 1, 1) := by decide +kernel
theorem d_Law_part_16 : decode k_Law_part 16 = .ok (.ireturn, 1) := by decide +kernel
theorem d_Law_part_17 : decode k_Law_part 17 = .ok (.astore 4, 2) := by decide +kernel
theorem d_Law_part_19 : decode k_Law_part 19 = .ok (.iconst 2, 1) := by decide +kernel
theorem d_Law_part_20 : decode k_Law_part 20 = .ok (.ireturn, 1) := by decide +kernel
theorem d_Law_part_21 : decode k_Law_part 21 = .ok (.iconst 0, 1) := by decide +kernel
theorem d_Law_part_22 : decode k_Law_part 22 = .ok (.ireturn, 1) := by decide +kernel
theorem d_Law_decode_0 : decode k_Law_decode 0 = .ok (.aload_n 2, 1) := by decide +kernel
theorem d_Law_decode_1 : decode k_Law_decode 1 = .ok (.iconst 0, 1) := by decide +kernel
theorem d_Law_decode_2 : decode k_Law_decode 2 = .ok (.aload_n 0, 1) := by decide +kernel
theorem d_Law_decode_3 : decode k_Law_decode 3 = .ok (.iload_n 1, 1) := by decide +kernel
theorem d_Law_decode_4 : decode k_Law_decode 4 = .ok (.invokevirtual 28, 3) := by decide +kernel
theorem d_Law_decode_7 : decode k_Law_decode 7 = .ok (.i2l, 1) := by decide +kernel
theorem d_Law_decode_8 : decode k_Law_decode 8 = .ok (.lastore, 1) := by decide +kernel
theorem d_Law_decode_9 : decode k_Law_decode 9 = .ok (.goto 9, 3) := by decide +kernel
theorem d_Law_decode_12 : decode k_Law_decode 12 = .ok (.astore_n 3, 1) := by decide +kernel
theorem d_Law_decode_13 : decode k_Law_decode 13 = .ok (.iconst 1, 1) := by decide +kernel
theorem d_Law_decode_14 : decode k_Law_decode 14 = .ok (.ireturn, 1) := by decide +kernel
theorem d_Law_decode_15 : decode k_Law_decode 15 = .ok (.astore_n 3, 1) := by decide +kernel
theorem d_Law_decode_16 : decode k_Law_decode 16 = .ok (.iconst 2, 1) := by decide +kernel
theorem d_Law_decode_17 : decode k_Law_decode 17 = .ok (.ireturn, 1) := by decide +kernel
theorem d_Law_decode_18 : decode k_Law_decode 18 = .ok (.iconst 0, 1) := by decide +kernel
theorem d_Law_decode_19 : decode k_Law_decode 19 = .ok (.ireturn, 1) := by decide +kernel
theorem d_Law_decodeAll_0 : decode k_Law_decodeAll 0 = .ok (.aload_n 1, 1) := by decide +kernel
theorem d_Law_decodeAll_1 : decode k_Law_decodeAll 1 = .ok (.iconst 0, 1) := by decide +kernel
theorem d_Law_decodeAll_2 : decode k_Law_decodeAll 2 = .ok (.aload_n 0, 1) := by decide +kernel
theorem d_Law_decodeAll_3 : decode k_Law_decodeAll 3 = .ok (.invokevirtual 32, 3) := by decide +kernel
theorem d_Law_decodeAll_6 : decode k_Law_decodeAll 6 = .ok (.i2l, 1) := by decide +kernel
theorem d_Law_decodeAll_7 : decode k_Law_decodeAll 7 = .ok (.lastore, 1) := by decide +kernel
theorem d_Law_decodeAll_8 : decode k_Law_decodeAll 8 = .ok (.goto 6, 3) := by decide +kernel
theorem d_Law_decodeAll_11 : decode k_Law_decodeAll 11 = .ok (.astore_n 2, 1) := by decide +kernel
theorem d_Law_decodeAll_12 : decode k_Law_decodeAll 12 = .ok (.iconst 1, 1) := by decide +kernel
theorem d_Law_decodeAll_13 : decode k_Law_decodeAll 13 = .ok (.ireturn, 1) := by decide +kernel
theorem d_Law_decodeAll_14 : decode k_Law_decodeAll 14 = .ok (.iconst 0, 1) := by decide +kernel
theorem d_Law_decodeAll_15 : decode k_Law_decodeAll 15 = .ok (.ireturn, 1) := by decide +kernel
theorem d_Law_at_0 : decode k_Law_at 0 = .ok (.aload_n 2, 1) := by decide +kernel
theorem d_Law_at_1 : decode k_Law_at 1 = .ok (.iconst 0, 1) := by decide +kernel
theorem d_Law_at_2 : decode k_Law_at 2 = .ok (.aload_n 0, 1) := by decide +kernel
theorem d_Law_at_3 : decode k_Law_at 3 = .ok (.iload_n 1, 1) := by decide +kernel
theorem d_Law_at_4 : decode k_Law_at 4 = .ok (.invokevirtual 36, 3) := by decide +kernel
theorem d_Law_at_7 : decode k_Law_at 7 = .ok (.i2l, 1) := by decide +kernel
theorem d_Law_at_8 : decode k_Law_at 8 = .ok (.lastore, 1) := by decide +kernel
theorem d_Law_at_9 : decode k_Law_at 9 = .ok (.goto 6, 3) := by decide +kernel
theorem d_Law_at_12 : decode k_Law_at 12 = .ok (.astore_n 3, 1) := by decide +kernel
theorem d_Law_at_13 : decode k_Law_at 13 = .ok (.iconst 1, 1) := by decide +kernel
theorem d_Law_at_14 : decode k_Law_at 14 = .ok (.ireturn, 1) := by decide +kernel
theorem d_Law_at_15 : decode k_Law_at 15 = .ok (.iconst 0, 1) := by decide +kernel
theorem d_Law_at_16 : decode k_Law_at 16 = .ok (.ireturn, 1) := by decide +kernel
theorem d_Law_state_0 : decode k_Law_state 0 = .ok (.aload_n 2, 1) := by decide +kernel
theorem d_Law_state_1 : decode k_Law_state 1 = .ok (.iconst 0, 1) := by decide +kernel
theorem d_Law_state_2 : decode k_Law_state 2 = .ok (.aload_n 0, 1) := by decide +kernel
theorem d_Law_state_3 : decode k_Law_state 3 = .ok (.iload_n 1, 1) := by decide +kernel
theorem d_Law_state_4 : decode k_Law_state 4 = .ok (.invokevirtual 39, 3) := by decide +kernel
theorem d_Law_state_7 : decode k_Law_state 7 = .ok (.i2l, 1) := by decide +kernel
theorem d_Law_state_8 : decode k_Law_state 8 = .ok (.lastore, 1) := by decide +kernel
theorem d_Law_state_9 : decode k_Law_state 9 = .ok (.goto 6, 3) := by decide +kernel
theorem d_Law_state_12 : decode k_Law_state 12 = .ok (.astore_n 3, 1) := by decide +kernel
theorem d_Law_state_13 : decode k_Law_state 13 = .ok (.iconst 1, 1) := by decide +kernel
theorem d_Law_state_14 : decode k_Law_state 14 = .ok (.ireturn, 1) := by decide +kernel
theorem d_Law_state_15 : decode k_Law_state 15 = .ok (.iconst 0, 1) := by decide +kernel
theorem d_Law_state_16 : decode k_Law_state 16 = .ok (.ireturn, 1) := by decide +kernel
theorem d_Law_fill_0 : decode k_Law_fill 0 = .ok (.aload_n 2, 1) := by decide +kernel
theorem d_Law_fill_1 : decode k_Law_fill 1 = .ok (.iconst 0, 1) := by decide +kernel
theorem d_Law_fill_2 : decode k_Law_fill 2 = .ok (.aload_n 0, 1) := by decide +kernel
theorem d_Law_fill_3 : decode k_Law_fill 3 = .ok (.iload_n 1, 1) := by decide +kernel
theorem d_Law_fill_4 : decode k_Law_fill 4 = .ok (.invokevirtual 42, 3) := by decide +kernel
theorem d_Law_fill_7 : decode k_Law_fill 7 = .ok (.i2l, 1) := by decide +kernel
theorem d_Law_fill_8 : decode k_Law_fill 8 = .ok (.lastore, 1) := by decide +kernel
theorem d_Law_fill_9 : decode k_Law_fill 9 = .ok (.goto 6, 3) := by decide +kernel
theorem d_Law_fill_12 : decode k_Law_fill 12 = .ok (.astore_n 3, 1) := by decide +kernel
theorem d_Law_fill_13 : decode k_Law_fill 13 = .ok (.iconst 1, 1) := by decide +kernel
theorem d_Law_fill_14 : decode k_Law_fill 14 = .ok (.ireturn, 1) := by decide +kernel
theorem d_Law_fill_15 : decode k_Law_fill 15 = .ok (.iconst 0, 1) := by decide +kernel
theorem d_Law_fill_16 : decode k_Law_fill 16 = .ok (.ireturn, 1) := by decide +kernel
