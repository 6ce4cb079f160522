theorem d_Mod_init_0 : decode k_Mod_init 0 = .ok (.aload_n 0, 1) := by decide +kernel
theorem d_Mod_init_1 : decode k_Mod_init 1 = .ok (.invokespecial 1, 3) := by decide +kernel
theorem d_Mod_init_4 : decode k_Mod_init 4 = .ok (.aload_n 0, 1) := by decide +kernel
theorem d_Mod_init_5 : decode k_Mod_init 5 = .ok (.sipush 1200, 3) := by decide +kernel
theorem d_Mod_init_8 : decode k_Mod_init 8 = .ok (.newarray .int, 2) := by decide +kernel
theorem d_Mod_init_10 : decode k_Mod_init 10 = .ok (.putfield 7, 3) := by decide +kernel
theorem d_Mod_init_13 : decode k_Mod_init 13 = .ok (.aload_n 0, 1) := by decide +kernel
theorem d_Mod_init_14 : decode k_Mod_init 14 = .ok (.bipush 16, 2) := by decide +kernel
theorem d_Mod_init_16 : decode k_Mod_init 16 = .ok (.newarray .int, 2) := by decide +kernel
theorem d_Mod_init_18 : decode k_Mod_init 18 = .ok (.putfield 13, 3) := by decide +kernel
theorem d_Mod_init_21 : decode k_Mod_init 21 = .ok (.aload_n 0, 1) := by decide +kernel
theorem d_Mod_init_22 : decode k_Mod_init 22 = .ok (.bipush 16, 2) := by decide +kernel
theorem d_Mod_init_24 : decode k_Mod_init 24 = .ok (.newarray .int, 2) := by decide +kernel
theorem d_Mod_init_26 : decode k_Mod_init 26 = .ok (.putfield 16, 3) := by decide +kernel
theorem d_Mod_init_29 : decode k_Mod_init 29 = .ok (.aload_n 0, 1) := by decide +kernel
theorem d_Mod_init_30 : decode k_Mod_init 30 = .ok (.bipush 16, 2) := by decide +kernel
theorem d_Mod_init_32 : decode k_Mod_init 32 = .ok (.newarray .int, 2) := by decide +kernel
theorem d_Mod_init_34 : decode k_Mod_init 34 = .ok (.putfield 19, 3) := by decide +kernel
theorem d_Mod_init_37 : decode k_Mod_init 37 = .ok (.aload_n 0, 1) := by decide +kernel
theorem d_Mod_init_38 : decode k_Mod_init 38 = .ok (.bipush 16, 2) := by decide +kernel
theorem d_Mod_init_40 : decode k_Mod_init 40 = .ok (.newarray .int, 2) := by decide +kernel
theorem d_Mod_init_42 : decode k_Mod_init 42 = .ok (.putfield 22, 3) := by decide +kernel
theorem d_Mod_init_45 : decode k_Mod_init 45 = .ok (.aload_n 0, 1) := by decide +kernel
theorem d_Mod_init_46 : decode k_Mod_init 46 = .ok (.bipush 16, 2) := by decide +kernel
theorem d_Mod_init_48 : decode k_Mod_init 48 = .ok (.newarray .boolean, 2) := by decide +kernel
theorem d_Mod_init_50 : decode k_Mod_init 50 = .ok (.putfield 25, 3) := by decide +kernel
theorem d_Mod_init_53 : decode k_Mod_init 53 = .ok (.aload_n 0, 1) := by decide +kernel
theorem d_Mod_init_54 : decode k_Mod_init 54 = .ok (.bipush 16, 2) := by decide +kernel
theorem d_Mod_init_56 : decode k_Mod_init 56 = .ok (.newarray .int, 2) := by decide +kernel
theorem d_Mod_init_58 : decode k_Mod_init 58 = .ok (.putfield 29, 3) := by decide +kernel
theorem d_Mod_init_61 : decode k_Mod_init 61 = .ok (.aload_n 0, 1) := by decide +kernel
theorem d_Mod_init_62 : decode k_Mod_init 62 = .ok (.sipush 256, 3) := by decide +kernel
theorem d_Mod_init_65 : decode k_Mod_init 65 = .ok (.newarray .int, 2) := by decide +kernel
theorem d_Mod_init_67 : decode k_Mod_init 67 = .ok (.putfield 32, 3) := by decide +kernel
theorem d_Mod_init_70 : decode k_Mod_init 70 = .ok (.aload_n 0, 1) := by decide +kernel
theorem d_Mod_init_71 : decode k_Mod_init 71 = .ok (.sipush 256, 3) := by decide +kernel
theorem d_Mod_init_74 : decode k_Mod_init 74 = .ok (.newarray .int, 2) := by decide +kernel
theorem d_Mod_init_76 : decode k_Mod_init 76 = .ok (.putfield 35, 3) := by decide +kernel
theorem d_Mod_init_79 : decode k_Mod_init 79 = .ok (.aload_n 0, 1) := by decide +kernel
theorem d_Mod_init_80 : decode k_Mod_init 80 = .ok (.bipush 16, 2) := by decide +kernel
theorem d_Mod_init_82 : decode k_Mod_init 82 = .ok (.newarray .int, 2) := by decide +kernel
theorem d_Mod_init_84 : decode k_Mod_init 84 = .ok (.putfield 38, 3) := by decide +kernel
theorem d_Mod_init_87 : decode k_Mod_init 87 = .ok (.aload_n 0, 1) := by decide +kernel
theorem d_Mod_init_88 : decode k_Mod_init 88 = .ok (.bipush 8, 2) := by decide +kernel
theorem d_Mod_init_90 : decode k_Mod_init 90 = .ok (.newarray .int, 2) := by decide +kernel
theorem d_Mod_init_92 : decode k_Mod_init 92 = .ok (.putfield 41, 3) := by decide +kernel
theorem d_Mod_init_95 : decode k_Mod_init 95 = .ok (.aload_n 0, 1) := by decide +kernel
theorem d_Mod_init_96 : decode k_Mod_init 96 = .ok (.bipush 8, 2) := by decide +kernel
theorem d_Mod_init_98 : decode k_Mod_init 98 = .ok (.newarray .int, 2) := by decide +kernel
theorem d_Mod_init_100 : decode k_Mod_init 100 = .ok (.putfield 44, 3) := by decide +kernel
theorem d_Mod_init_103 : decode k_Mod_init 103 = .ok (.aload_n 0, 1) := by decide +kernel
theorem d_Mod_init_104 : decode k_Mod_init 104 = .ok (.bipush 64, 2) := by decide +kernel
theorem d_Mod_init_106 : decode k_Mod_init 106 = .ok (.newarray .int, 2) := by decide +kernel
theorem d_Mod_init_108 : decode k_Mod_init 108 = .ok (.putfield 47, 3) := by decide +kernel
theorem d_Mod_init_111 : decode k_Mod_init 111 = .ok (.aload_n 0, 1) := by decide +kernel
theorem d_Mod_init_112 : decode k_Mod_init 112 = .ok (.iload_n 1, 1) := by decide +kernel
theorem d_Mod_init_113 : decode k_Mod_init 113 = .ok (.ifCond .ge 7, 3) := by decide +kernel
theorem d_Mod_init_116 : decode k_Mod_init 116 = .ok (.iconst 0, 1) := by decide +kernel
theorem d_Mod_init_117 : decode k_Mod_init 117 = .ok (.goto 13, 3) := by decide +kernel
theorem d_Mod_init_120 : decode k_Mod_init 120 = .ok (.iload_n 1, 1) := by decide +kernel
theorem d_Mod_init_121 : decode k_Mod_init 121 = .ok (.iconst 2, 1) := by decide +kernel
theorem d_Mod_init_122 : decode k_Mod_init 122 = .ok (.if_icmp .le 7, 3) := by decide +kernel
theorem d_Mod_init_125 : decode k_Mod_init 125 = .ok (.iconst 2, 1) := by decide +kernel
theorem d_Mod_init_126 : decode k_Mod_init 126 = .ok (.goto 4, 3) := by decide +kernel
theorem d_Mod_init_129 : decode k_Mod_init 129 = .ok (.iload_n 1, 1) := by decide +kernel
theorem d_Mod_init_130 : decode k_Mod_init 130 = .ok (.putfield 50, 3) := by decide +kernel
theorem d_Mod_init_133 : decode k_Mod_init 133 = .ok (.aload_n 0, 1) := by decide +kernel
theorem d_Mod_init_134 : decode k_Mod_init 134 = .ok (.iload_n 2, 1) := by decide +kernel
theorem d_Mod_init_135 : decode k_Mod_init 135 = .ok (.iconst 1, 1) := by decide +kernel
theorem d_Mod_init_136 : decode k_Mod_init 136 = .ok (.if_icmp .ge 7, 3) := by decide +kernel
theorem d_Mod_init_139 : decode k_Mod_init 139 = .ok (.iconst 1, 1) := by decide +kernel
theorem d_Mod_init_140 : decode k_Mod_init 140 = .ok (.goto 15, 3) := by decide +kernel
theorem d_Mod_init_143 : decode k_Mod_init 143 = .ok (.iload_n 2, 1) := by decide +kernel
theorem d_Mod_init_144 : decode k_Mod_init 144 = .ok (.ldc 54, 2) := by decide +kernel
theorem d_Mod_init_146 : decode k_Mod_init 146 = .ok (.if_icmp .le 8, 3) := by decide +kernel
theorem d_Mod_init_149 : decode k_Mod_init 149 = .ok (.ldc 54, 2) := by decide +kernel
theorem d_Mod_init_151 : decode k_Mod_init 151 = .ok (.goto 4, 3) := by decide +kernel
theorem d_Mod_init_154 : decode k_Mod_init 154 = .ok (.iload_n 2, 1) := by decide +kernel
theorem d_Mod_init_155 : decode k_Mod_init 155 = .ok (.putfield 55, 3) := by decide +kernel
theorem d_Mod_init_158 : decode k_Mod_init 158 = .ok (.return_, 1) := by decide +kernel
theorem d_Mod_thrown_0 : decode k_Mod_thrown 0 = .ok (.aload_n 0, 1) := by decide +kernel
theorem d_Mod_thrown_1 : decode k_Mod_thrown 1 = .ok (.getfield 58, 3) := by decide +kernel
theorem d_Mod_thrown_4 : decode k_Mod_thrown 4 = .ok (.ireturn, 1) := by decide +kernel
theorem d_Mod_lose_0 : decode k_Mod_lose 0 = .ok (.aload_n 0, 1) := by decide +kernel
theorem d_Mod_lose_1 : decode k_Mod_lose 1 = .ok (.iconst 0, 1) := by decide +kernel
theorem d_Mod_lose_2 : decode k_Mod_lose 2 = .ok (.putfield 61, 3) := by decide +kernel
theorem d_Mod_lose_5 : decode k_Mod_lose 5 = .ok (.aload_n 0, 1) := by decide +kernel
theorem d_Mod_lose_6 : decode k_Mod_lose 6 = .ok (.iconst 0, 1) := by decide +kernel
theorem d_Mod_lose_7 : decode k_Mod_lose 7 = .ok (.putfield 65, 3) := by decide +kernel
theorem d_Mod_lose_10 : decode k_Mod_lose 10 = .ok (.return_, 1) := by decide +kernel
theorem d_Mod_feed_0 : decode k_Mod_feed 0 = .ok (.aload_n 0, 1) := by decide +kernel
theorem d_Mod_feed_1 : decode k_Mod_feed 1 = .ok (.iload_n 3, 1) := by decide +kernel
theorem d_Mod_feed_2 : decode k_Mod_feed 2 = .ok (.iconst 1, 1) := by decide +kernel
theorem d_Mod_feed_3 : decode k_Mod_feed 3 = .ok (.if_icmp .lt 9, 3) := by decide +kernel
theorem d_Mod_feed_6 : decode k_Mod_feed 6 = .ok (.iload_n 3, 1) := by decide +kernel
theorem d_Mod_feed_7 : decode k_Mod_feed 7 = .ok (.bipush 8, 2) := by decide +kernel
theorem d_Mod_feed_9 : decode k_Mod_feed 9 = .ok (.if_icmp .le 7, 3) := by decide +kernel
theorem d_Mod_feed_12 : decode k_Mod_feed 12 = .ok (.iconst 1, 1) := by decide +kernel
theorem d_Mod_feed_13 : decode k_Mod_feed 13 = .ok (.goto 20, 3) := by decide +kernel
theorem d_Mod_feed_16 : decode k_Mod_feed 16 = .ok (.aload_n 0, 1) := by decide +kernel
theorem d_Mod_feed_17 : decode k_Mod_feed 17 = .ok (.getfield 68, 3) := by decide +kernel
theorem d_Mod_feed_20 : decode k_Mod_feed 20 = .ok (.iload_n 3, 1) := by decide +kernel
theorem d_Mod_feed_21 : decode k_Mod_feed 21 = .ok (.iadd, 1) := by decide +kernel
theorem d_Mod_feed_22 : decode k_Mod_feed 22 = .ok (.sipush 1200, 3) := by decide +kernel
theorem d_Mod_feed_25 : decode k_Mod_feed 25 = .ok (.if_icmp .le 7, 3) := by decide +kernel
theorem d_Mod_feed_28 : decode k_Mod_feed 28 = .ok (.iconst 2, 1) := by decide +kernel
theorem d_Mod_feed_29 : decode k_Mod_feed 29 = .ok (.goto 4, 3) := by decide +kernel
theorem d_Mod_feed_32 : decode k_Mod_feed 32 = .ok (.iconst 0, 1) := by decide +kernel
theorem d_Mod_feed_33 : decode k_Mod_feed 33 = .ok (.putfield 58, 3) := by decide +kernel
theorem d_Mod_feed_36 : decode k_Mod_feed 36 = .ok (.aload_n 0, 1) := by decide +kernel
theorem d_Mod_feed_37 : decode k_Mod_feed 37 = .ok (.getfield 58, 3) := by decide +kernel
theorem d_Mod_feed_40 : decode k_Mod_feed 40 = .ok (.ifCond .le 5, 3) := by decide +kernel
theorem d_Mod_feed_43 : decode k_Mod_feed 43 = .ok (.iconst 0, 1) := by decide +kernel
theorem d_Mod_feed_44 : decode k_Mod_feed 44 = .ok (.ireturn, 1) := by decide +kernel
theorem d_Mod_feed_45 : decode k_Mod_feed 45 = .ok (.iconst 0, 1) := by decide +kernel
theorem d_Mod_feed_46 : decode k_Mod_feed 46 = .ok (.istore 4, 2) := by decide +kernel
theorem d_Mod_feed_48 : decode k_Mod_feed 48 = .ok (.iload 4, 2) := by decide +kernel
theorem d_Mod_feed_50 : decode k_Mod_feed 50 = .ok (.iload_n 3, 1) := by decide +kernel
theorem d_Mod_feed_51 : decode k_Mod_feed 51 = .ok (.if_icmp .ge 40, 3) := by decide +kernel
theorem d_Mod_feed_54 : decode k_Mod_feed 54 = .ok (.aload_n 0, 1) := by decide +kernel
theorem d_Mod_feed_55 : decode k_Mod_feed 55 = .ok (.getfield 7, 3) := by decide +kernel
theorem d_Mod_feed_58 : decode k_Mod_feed 58 = .ok (.aload_n 0, 1) := by decide +kernel
theorem d_Mod_feed_59 : decode k_Mod_feed 59 = .ok (.getfield 68, 3) := by decide +kernel
theorem d_Mod_feed_62 : decode k_Mod_feed 62 = .ok (.lload_n 1, 1) := by decide +kernel
theorem d_Mod_feed_63 : decode k_Mod_feed 63 = .ok (.bipush 8, 2) := by decide +kernel
theorem d_Mod_feed_65 : decode k_Mod_feed 65 = .ok (.iload 4, 2) := by decide +kernel
theorem d_Mod_feed_67 : decode k_Mod_feed 67 = .ok (.imul, 1) := by decide +kernel
theorem d_Mod_feed_68 : decode k_Mod_feed 68 = .ok (.lushr, 1) := by decide +kernel
theorem d_Mod_feed_69 : decode k_Mod_feed 69 = .ok (.ldc2_w 71, 3) := by decide +kernel
theorem d_Mod_feed_72 : decode k_Mod_feed 72 = .ok (.land, 1) := by decide +kernel
theorem d_Mod_feed_73 : decode k_Mod_feed 73 = .ok (.l2i, 1) := by decide +kernel
theorem d_Mod_feed_74 : decode k_Mod_feed 74 = .ok (.iastore, 1) := by decide +kernel
theorem d_Mod_feed_75 : decode k_Mod_feed 75 = .ok (.aload_n 0, 1) := by decide +kernel
theorem d_Mod_feed_76 : decode k_Mod_feed 76 = .ok (.dup, 1) := by decide +kernel
theorem d_Mod_feed_77 : decode k_Mod_feed 77 = .ok (.getfield 68, 3) := by decide +kernel
theorem d_Mod_feed_80 : decode k_Mod_feed 80 = .ok (.iconst 1, 1) := by decide +kernel
theorem d_Mod_feed_81 : decode k_Mod_feed 81 = .ok (.iadd, 1) := by decide +kernel
theorem d_Mod_feed_82 : decode k_Mod_feed 82 = .ok (.putfield 68, 3) := by decide +kernel
theorem d_Mod_feed_85 : decode k_Mod_feed 85 = .ok (.iinc 4 1, 3) := by decide +kernel
theorem d_Mod_feed_88 : decode k_Mod_feed 88 = .ok (.goto (-40), 3) := by decide +kernel
theorem d_Mod_feed_91 : decode k_Mod_feed 91 = .ok (.aload_n 0, 1) := by decide +kernel
theorem d_Mod_feed_92 : decode k_Mod_feed 92 = .ok (.invokevirtual 73, 3) := by decide +kernel
theorem d_Mod_feed_95 : decode k_Mod_feed 95 = .ok (.aload_n 0, 1) := by decide +kernel
theorem d_Mod_feed_96 : decode k_Mod_feed 96 = .ok (.getfield 68, 3) := by decide +kernel
theorem d_Mod_feed_99 : decode k_Mod_feed 99 = .ok (.ireturn, 1) := by decide +kernel
theorem d_Mod_alter_0 : decode k_Mod_alter 0 = .ok (.aload_n 0, 1) := by decide +kernel
theorem d_Mod_alter_1 : decode k_Mod_alter 1 = .ok (.iload_n 1, 1) := by decide +kernel
theorem d_Mod_alter_2 : decode k_Mod_alter 2 = .ok (.ifCond .lt 11, 3) := by decide +kernel
theorem d_Mod_alter_5 : decode k_Mod_alter 5 = .ok (.iload_n 1, 1) := by decide +kernel
theorem d_Mod_alter_6 : decode k_Mod_alter 6 = .ok (.aload_n 0, 1) := by decide +kernel
theorem d_Mod_alter_7 : decode k_Mod_alter 7 = .ok (.getfield 68, 3) := by decide +kernel
theorem d_Mod_alter_10 : decode k_Mod_alter 10 = .ok (.if_icmp .lt 7, 3) := by decide +kernel
theorem d_Mod_alter_13 : decode k_Mod_alter 13 = .ok (.iconst 1, 1) := by decide +kernel
theorem d_Mod_alter_14 : decode k_Mod_alter 14 = .ok (.goto 19, 3) := by decide +kernel
theorem d_Mod_alter_17 : decode k_Mod_alter 17 = .ok (.iload_n 2, 1) := by decide +kernel
theorem d_Mod_alter_18 : decode k_Mod_alter 18 = .ok (.ifCond .lt 10, 3) := by decide +kernel
theorem d_Mod_alter_21 : decode k_Mod_alter 21 = .ok (.iload_n 2, 1) := by decide +kernel
theorem d_Mod_alter_22 : decode k_Mod_alter 22 = .ok (.sipush 255, 3) := by decide +kernel
theorem d_Mod_alter_25 : decode k_Mod_alter 25 = .ok (.if_icmp .le 7, 3) := by decide +kernel
theorem d_Mod_alter_28 : decode k_Mod_alter 28 = .ok (.iconst 2, 1) := by decide +kernel
theorem d_Mod_alter_29 : decode k_Mod_alter 29 = .ok (.goto 4, 3) := by decide +kernel
theorem d_Mod_alter_32 : decode k_Mod_alter 32 = .ok (.iconst 0, 1) := by decide +kernel
theorem d_Mod_alter_33 : decode k_Mod_alter 33 = .ok (.putfield 58, 3) := by decide +kernel
theorem d_Mod_alter_36 : decode k_Mod_alter 36 = .ok (.aload_n 0, 1) := by decide +kernel
theorem d_Mod_alter_37 : decode k_Mod_alter 37 = .ok (.getfield 58, 3) := by decide +kernel
theorem d_Mod_alter_40 : decode k_Mod_alter 40 = .ok (.ifCond .le 5, 3) := by decide +kernel
theorem d_Mod_alter_43 : decode k_Mod_alter 43 = .ok (.iconst 0, 1) := by decide +kernel
theorem d_Mod_alter_44 : decode k_Mod_alter 44 = .ok (.ireturn, 1) := by decide +kernel
theorem d_Mod_alter_45 : decode k_Mod_alter 45 = .ok (.aload_n 0, 1) := by decide +kernel
theorem d_Mod_alter_46 : decode k_Mod_alter 46 = .ok (.getfield 7, 3) := by decide +kernel
theorem d_Mod_alter_49 : decode k_Mod_alter 49 = .ok (.iload_n 1, 1) := by decide +kernel
theorem d_Mod_alter_50 : decode k_Mod_alter 50 = .ok (.iaload, 1) := by decide +kernel
theorem d_Mod_alter_51 : decode k_Mod_alter 51 = .ok (.istore_n 3, 1) := by decide +kernel
theorem d_Mod_alter_52 : decode k_Mod_alter 52 = .ok (.aload_n 0, 1) := by decide +kernel
theorem d_Mod_alter_53 : decode k_Mod_alter 53 = .ok (.getfield 7, 3) := by decide +kernel
theorem d_Mod_alter_56 : decode k_Mod_alter 56 = .ok (.iload_n 1, 1) := by decide +kernel
theorem d_Mod_alter_57 : decode k_Mod_alter 57 = .ok (.iload_n 2, 1) := by decide +kernel
theorem d_Mod_alter_58 : decode k_Mod_alter 58 = .ok (.iastore, 1) := by decide +kernel
theorem d_Mod_alter_59 : decode k_Mod_alter 59 = .ok (.aload_n 0, 1) := by decide +kernel
theorem d_Mod_alter_60 : decode k_Mod_alter 60 = .ok (.invokevirtual 73, 3) := by decide +kernel
theorem d_Mod_alter_63 : decode k_Mod_alter 63 = .ok (.iload_n 3, 1) := by decide +kernel
theorem d_Mod_alter_64 : decode k_Mod_alter 64 = .ok (.ireturn, 1) := by decide +kernel
theorem d_Mod_isMark_0 : decode k_Mod_isMark 0 = .ok (.aload_n 0, 1) := by decide +kernel
theorem d_Mod_isMark_1 : decode k_Mod_isMark 1 = .ok (.getfield 50, 3) := by decide +kernel
theorem d_Mod_isMark_4 : decode k_Mod_isMark 4 = .ok (.ifCond .ne 9, 3) := by decide +kernel
theorem d_Mod_isMark_7 : decode k_Mod_isMark 7 = .ok (.sipush 255, 3) := by decide +kernel
theorem d_Mod_isMark_10 : decode k_Mod_isMark 10 = .ok (.goto 19, 3) := by decide +kernel
theorem d_Mod_isMark_13 : decode k_Mod_isMark 13 = .ok (.aload_n 0, 1) := by decide +kernel
theorem d_Mod_isMark_14 : decode k_Mod_isMark 14 = .ok (.getfield 50, 3) := by decide +kernel
theorem d_Mod_isMark_17 : decode k_Mod_isMark 17 = .ok (.iconst 1, 1) := by decide +kernel
theorem d_Mod_isMark_18 : decode k_Mod_isMark 18 = .ok (.if_icmp .ne 8, 3) := by decide +kernel
theorem d_Mod_isMark_21 : decode k_Mod_isMark 21 = .ok (.bipush 80, 2) := by decide +kernel
theorem d_Mod_isMark_23 : decode k_Mod_isMark 23 = .ok (.goto 6, 3) := by decide +kernel
theorem d_Mod_isMark_26 : decode k_Mod_isMark 26 = .ok (.sipush 151, 3) := by decide +kernel
theorem d_Mod_isMark_29 : decode k_Mod_isMark 29 = .ok (.istore_n 2, 1) := by decide +kernel
theorem d_Mod_isMark_30 : decode k_Mod_isMark 30 = .ok (.aload_n 0, 1) := by decide +kernel
theorem d_Mod_isMark_31 : decode k_Mod_isMark 31 = .ok (.getfield 50, 3) := by decide +kernel
theorem d_Mod_isMark_34 : decode k_Mod_isMark 34 = .ok (.ifCond .ne 9, 3) := by decide +kernel
theorem d_Mod_isMark_37 : decode k_Mod_isMark 37 = .ok (.sipush 217, 3) := by decide +kernel
theorem d_Mod_isMark_40 : decode k_Mod_isMark 40 = .ok (.goto 18, 3) := by decide +kernel
theorem d_Mod_isMark_43 : decode k_Mod_isMark 43 = .ok (.aload_n 0, 1) := by decide +kernel
theorem d_Mod_isMark_44 : decode k_Mod_isMark 44 = .ok (.getfield 50, 3) := by decide +kernel
theorem d_Mod_isMark_47 : decode k_Mod_isMark 47 = .ok (.iconst 1, 1) := by decide +kernel
theorem d_Mod_isMark_48 : decode k_Mod_isMark 48 = .ok (.if_icmp .ne 8, 3) := by decide +kernel
theorem d_Mod_isMark_51 : decode k_Mod_isMark 51 = .ok (.bipush 65, 2) := by decide +kernel
theorem d_Mod_isMark_53 : decode k_Mod_isMark 53 = .ok (.goto 5, 3) := by decide +kernel
theorem d_Mod_isMark_56 : decode k_Mod_isMark 56 = .ok (.bipush 74, 2) := by decide +kernel
theorem d_Mod_isMark_58 : decode k_Mod_isMark 58 = .ok (.istore_n 3, 1) := by decide +kernel
theorem d_Mod_isMark_59 : decode k_Mod_isMark 59 = .ok (.iload_n 1, 1) := by decide +kernel
theorem d_Mod_isMark_60 : decode k_Mod_isMark 60 = .ok (.iconst 1, 1) := by decide +kernel
theorem d_Mod_isMark_61 : decode k_Mod_isMark 61 = .ok (.iadd, 1) := by decide +kernel
theorem d_Mod_isMark_62 : decode k_Mod_isMark 62 = .ok (.aload_n 0, 1) := by decide +kernel
theorem d_Mod_isMark_63 : decode k_Mod_isMark 63 = .ok (.getfield 68, 3) := by decide +kernel
theorem d_Mod_isMark_66 : decode k_Mod_isMark 66 = .ok (.if_icmp .ge 29, 3) := by decide +kernel
theorem d_Mod_isMark_69 : decode k_Mod_isMark 69 = .ok (.aload_n 0, 1) := by decide +kernel
theorem d_Mod_isMark_70 : decode k_Mod_isMark 70 = .ok (.getfield 7, 3) := by decide +kernel
theorem d_Mod_isMark_73 : decode k_Mod_isMark 73 = .ok (.iload_n 1, 1) := by decide +kernel
theorem d_Mod_isMark_74 : decode k_Mod_isMark 74 = .ok (.iaload, 1) := by decide +kernel
theorem d_Mod_isMark_75 : decode k_Mod_isMark 75 = .ok (.iload_n 2, 1) := by decide +kernel
theorem d_Mod_isMark_76 : decode k_Mod_isMark 76 = .ok (.if_icmp .ne 19, 3) := by decide +kernel
theorem d_Mod_isMark_79 : decode k_Mod_isMark 79 = .ok (.aload_n 0, 1) := by decide +kernel
theorem d_Mod_isMark_80 : decode k_Mod_isMark 80 = .ok (.getfield 7, 3) := by decide +kernel
theorem d_Mod_isMark_83 : decode k_Mod_isMark 83 = .ok (.iload_n 1, 1) := by decide +kernel
theorem d_Mod_isMark_84 : decode k_Mod_isMark 84 = .ok (.iconst 1, 1) := by decide +kernel
theorem d_Mod_isMark_85 : decode k_Mod_isMark 85 = .ok (.iadd, 1) := by decide +kernel
theorem d_Mod_isMark_86 : decode k_Mod_isMark 86 = .ok (.iaload, 1) := by decide +kernel
theorem d_Mod_isMark_87 : decode k_Mod_isMark 87 = .ok (.iload_n 3, 1) := by decide +kernel
theorem d_Mod_isMark_88 : decode k_Mod_isMark 88 = .ok (.if_icmp .ne 7, 3) := by decide +kernel
theorem d_Mod_isMark_91 : decode k_Mod_isMark 91 = .ok (.iconst 1, 1) := by decide +kernel
theorem d_Mod_isMark_92 : decode k_Mod_isMark 92 = .ok (.goto 4, 3) := by decide +kernel
theorem d_Mod_isMark_95 : decode k_Mod_isMark 95 = .ok (.iconst 0, 1) := by decide +kernel
theorem d_Mod_isMark_96 : decode k_Mod_isMark 96 = .ok (.ireturn, 1) := by decide +kernel
theorem d_Mod_isHead_0 : decode k_Mod_isHead 0 = .ok (.aload_n 0, 1) := by decide +kernel
theorem d_Mod_isHead_1 : decode k_Mod_isHead 1 = .ok (.iload_n 1, 1) := by decide +kernel
theorem d_Mod_isHead_2 : decode k_Mod_isHead 2 = .ok (.invokevirtual 76, 3) := by decide +kernel
theorem d_Mod_isHead_5 : decode k_Mod_isHead 5 = .ok (.ifCond .eq 18, 3) := by decide +kernel
theorem d_Mod_isHead_8 : decode k_Mod_isHead 8 = .ok (.iload_n 1, 1) := by decide +kernel
theorem d_Mod_isHead_9 : decode k_Mod_isHead 9 = .ok (.bipush 6, 2) := by decide +kernel
theorem d_Mod_isHead_11 : decode k_Mod_isHead 11 = .ok (.iadd, 1) := by decide +kernel
theorem d_Mod_isHead_12 : decode k_Mod_isHead 12 = .ok (.aload_n 0, 1) := by decide +kernel
theorem d_Mod_isHead_13 : decode k_Mod_isHead 13 = .ok (.getfield 68, 3) := by decide +kernel
theorem d_Mod_isHead_16 : decode k_Mod_isHead 16 = .ok (.if_icmp .gt 7, 3) := by decide +kernel
theorem d_Mod_isHead_19 : decode k_Mod_isHead 19 = .ok (.iconst 1, 1) := by decide +kernel
theorem d_Mod_isHead_20 : decode k_Mod_isHead 20 = .ok (.goto 4, 3) := by decide +kernel
theorem d_Mod_isHead_23 : decode k_Mod_isHead 23 = .ok (.iconst 0, 1) := by decide +kernel
theorem d_Mod_isHead_24 : decode k_Mod_isHead 24 = .ok (.ireturn, 1) := by decide +kernel
theorem d_Mod_isRight_0 : decode k_Mod_isRight 0 = .ok (.aload_n 0, 1) := by decide +kernel
theorem d_Mod_isRight_1 : decode k_Mod_isRight 1 = .ok (.getfield 7, 3) := by decide +kernel
theorem d_Mod_isRight_4 : decode k_Mod_isRight 4 = .ok (.iload_n 1, 1) := by decide +kernel
theorem d_Mod_isRight_5 : decode k_Mod_isRight 5 = .ok (.iconst 2, 1) := by decide +kernel
theorem d_Mod_isRight_6 : decode k_Mod_isRight 6 = .ok (.iadd, 1) := by decide +kernel
theorem d_Mod_isRight_7 : decode k_Mod_isRight 7 = .ok (.iaload, 1) := by decide +kernel
theorem d_Mod_isRight_8 : decode k_Mod_isRight 8 = .ok (.istore_n 2, 1) := by decide +kernel
theorem d_Mod_isRight_9 : decode k_Mod_isRight 9 = .ok (.aload_n 0, 1) := by decide +kernel
theorem d_Mod_isRight_10 : decode k_Mod_isRight 10 = .ok (.getfield 7, 3) := by decide +kernel
theorem d_Mod_isRight_13 : decode k_Mod_isRight 13 = .ok (.iload_n 1, 1) := by decide +kernel
theorem d_Mod_isRight_14 : decode k_Mod_isRight 14 = .ok (.iconst 3, 1) := by decide +kernel
theorem d_Mod_isRight_15 : decode k_Mod_isRight 15 = .ok (.iadd, 1) := by decide +kernel
theorem d_Mod_isRight_16 : decode k_Mod_isRight 16 = .ok (.iaload, 1) := by decide +kernel
theorem d_Mod_isRight_17 : decode k_Mod_isRight 17 = .ok (.istore_n 3, 1) := by decide +kernel
theorem d_Mod_isRight_18 : decode k_Mod_isRight 18 = .ok (.aload_n 0, 1) := by decide +kernel
theorem d_Mod_isRight_19 : decode k_Mod_isRight 19 = .ok (.getfield 7, 3) := by decide +kernel
theorem d_Mod_isRight_22 : decode k_Mod_isRight 22 = .ok (.iload_n 1, 1) := by decide +kernel
theorem d_Mod_isRight_23 : decode k_Mod_isRight 23 = .ok (.iconst 4, 1) := by decide +kernel
theorem d_Mod_isRight_24 : decode k_Mod_isRight 24 = .ok (.iadd, 1) := by decide +kernel
theorem d_Mod_isRight_25 : decode k_Mod_isRight 25 = .ok (.iaload, 1) := by decide +kernel
theorem d_Mod_isRight_26 : decode k_Mod_isRight 26 = .ok (.istore 4, 2) := by decide +kernel
theorem d_Mod_isRight_28 : decode k_Mod_isRight 28 = .ok (.iload_n 2, 1) := by decide +kernel
theorem d_Mod_isRight_29 : decode k_Mod_isRight 29 = .ok (.bipush 15, 2) := by decide +kernel
theorem d_Mod_isRight_31 : decode k_Mod_isRight 31 = .ok (.if_icmp .gt 19, 3) := by decide +kernel
theorem d_Mod_isRight_34 : decode k_Mod_isRight 34 = .ok (.iload_n 3, 1) := by decide +kernel
theorem d_Mod_isRight_35 : decode k_Mod_isRight 35 = .ok (.iconst 4, 1) := by decide +kernel
theorem d_Mod_isRight_36 : decode k_Mod_isRight 36 = .ok (.if_icmp .gt 14, 3) := by decide +kernel
theorem d_Mod_isRight_39 : decode k_Mod_isRight 39 = .ok (.iload 4, 2) := by decide +kernel
theorem d_Mod_isRight_41 : decode k_Mod_isRight 41 = .ok (.bipush 64, 2) := by decide +kernel
theorem d_Mod_isRight_43 : decode k_Mod_isRight 43 = .ok (.if_icmp .gt 7, 3) := by decide +kernel
theorem d_Mod_isRight_46 : decode k_Mod_isRight 46 = .ok (.iconst 1, 1) := by decide +kernel
theorem d_Mod_isRight_47 : decode k_Mod_isRight 47 = .ok (.goto 4, 3) := by decide +kernel
theorem d_Mod_isRight_50 : decode k_Mod_isRight 50 = .ok (.iconst 0, 1) := by decide +kernel
theorem d_Mod_isRight_51 : decode k_Mod_isRight 51 = .ok (.istore 5, 2) := by decide +kernel
theorem d_Mod_isRight_53 : decode k_Mod_isRight 53 = .ok (.iload 5, 2) := by decide +kernel
theorem d_Mod_isRight_55 : decode k_Mod_isRight 55 = .ok (.ifCond .eq 52, 3) := by decide +kernel
theorem d_Mod_isRight_58 : decode k_Mod_isRight 58 = .ok (.aload_n 0, 1) := by decide +kernel
theorem d_Mod_isRight_59 : decode k_Mod_isRight 59 = .ok (.getfield 7, 3) := by decide +kernel
theorem d_Mod_isRight_62 : decode k_Mod_isRight 62 = .ok (.iload_n 1, 1) := by decide +kernel
theorem d_Mod_isRight_63 : decode k_Mod_isRight 63 = .ok (.iconst 5, 1) := by decide +kernel
theorem d_Mod_isRight_64 : decode k_Mod_isRight 64 = .ok (.iadd, 1) := by decide +kernel
theorem d_Mod_isRight_65 : decode k_Mod_isRight 65 = .ok (.iaload, 1) := by decide +kernel
theorem d_Mod_isRight_66 : decode k_Mod_isRight 66 = .ok (.bipush 7, 2) := by decide +kernel
theorem d_Mod_isRight_68 : decode k_Mod_isRight 68 = .ok (.iload_n 2, 1) := by decide +kernel
theorem d_Mod_isRight_69 : decode k_Mod_isRight 69 = .ok (.imul, 1) := by decide +kernel
theorem d_Mod_isRight_70 : decode k_Mod_isRight 70 = .ok (.bipush 31, 2) := by decide +kernel
theorem d_Mod_isRight_72 : decode k_Mod_isRight 72 = .ok (.iload_n 3, 1) := by decide +kernel
theorem d_Mod_isRight_73 : decode k_Mod_isRight 73 = .ok (.imul, 1) := by decide +kernel
theorem d_Mod_isRight_74 : decode k_Mod_isRight 74 = .ok (.iadd, 1) := by decide +kernel
theorem d_Mod_isRight_75 : decode k_Mod_isRight 75 = .ok (.iload 4, 2) := by decide +kernel
theorem d_Mod_isRight_77 : decode k_Mod_isRight 77 = .ok (.iadd, 1) := by decide +kernel
theorem d_Mod_isRight_78 : decode k_Mod_isRight 78 = .ok (.sipush 165, 3) := by decide +kernel
theorem d_Mod_isRight_81 : decode k_Mod_isRight 81 = .ok (.iadd, 1) := by decide +kernel
theorem d_Mod_isRight_82 : decode k_Mod_isRight 82 = .ok (.sipush 256, 3) := by decide +kernel
theorem d_Mod_isRight_85 : decode k_Mod_isRight 85 = .ok (.irem, 1) := by decide +kernel
theorem d_Mod_isRight_86 : decode k_Mod_isRight 86 = .ok (.if_icmp .ne 21, 3) := by decide +kernel
theorem d_Mod_isRight_89 : decode k_Mod_isRight 89 = .ok (.iload_n 1, 1) := by decide +kernel
theorem d_Mod_isRight_90 : decode k_Mod_isRight 90 = .ok (.bipush 6, 2) := by decide +kernel
theorem d_Mod_isRight_92 : decode k_Mod_isRight 92 = .ok (.iadd, 1) := by decide +kernel
theorem d_Mod_isRight_93 : decode k_Mod_isRight 93 = .ok (.iload 4, 2) := by decide +kernel
theorem d_Mod_isRight_95 : decode k_Mod_isRight 95 = .ok (.iadd, 1) := by decide +kernel
theorem d_Mod_isRight_96 : decode k_Mod_isRight 96 = .ok (.aload_n 0, 1) := by decide +kernel
theorem d_Mod_isRight_97 : decode k_Mod_isRight 97 = .ok (.getfield 68, 3) := by decide +kernel
theorem d_Mod_isRight_100 : decode k_Mod_isRight 100 = .ok (.if_icmp .gt 7, 3) := by decide +kernel
theorem d_Mod_isRight_103 : decode k_Mod_isRight 103 = .ok (.iconst 1, 1) := by decide +kernel
theorem d_Mod_isRight_104 : decode k_Mod_isRight 104 = .ok (.goto 4, 3) := by decide +kernel
theorem d_Mod_isRight_107 : decode k_Mod_isRight 107 = .ok (.iconst 0, 1) := by decide +kernel
theorem d_Mod_isRight_108 : decode k_Mod_isRight 108 = .ok (.ireturn, 1) := by decide +kernel
theorem d_Mod_add_0 : decode k_Mod_add 0 = .ok (.aload_n 0, 1) := by decide +kernel
theorem d_Mod_add_1 : decode k_Mod_add 1 = .ok (.getfield 13, 3) := by decide +kernel
theorem d_Mod_add_4 : decode k_Mod_add 4 = .ok (.aload_n 0, 1) := by decide +kernel
theorem d_Mod_add_5 : decode k_Mod_add 5 = .ok (.getfield 65, 3) := by decide +kernel
theorem d_Mod_add_8 : decode k_Mod_add 8 = .ok (.iload_n 1, 1) := by decide +kernel
theorem d_Mod_add_9 : decode k_Mod_add 9 = .ok (.iastore, 1) := by decide +kernel
theorem d_Mod_add_10 : decode k_Mod_add 10 = .ok (.aload_n 0, 1) := by decide +kernel
theorem d_Mod_add_11 : decode k_Mod_add 11 = .ok (.getfield 16, 3) := by decide +kernel
theorem d_Mod_add_14 : decode k_Mod_add 14 = .ok (.aload_n 0, 1) := by decide +kernel
theorem d_Mod_add_15 : decode k_Mod_add 15 = .ok (.getfield 65, 3) := by decide +kernel
theorem d_Mod_add_18 : decode k_Mod_add 18 = .ok (.iload_n 2, 1) := by decide +kernel
theorem d_Mod_add_19 : decode k_Mod_add 19 = .ok (.iastore, 1) := by decide +kernel
theorem d_Mod_add_20 : decode k_Mod_add 20 = .ok (.aload_n 0, 1) := by decide +kernel
theorem d_Mod_add_21 : decode k_Mod_add 21 = .ok (.getfield 19, 3) := by decide +kernel
theorem d_Mod_add_24 : decode k_Mod_add 24 = .ok (.aload_n 0, 1) := by decide +kernel
theorem d_Mod_add_25 : decode k_Mod_add 25 = .ok (.getfield 65, 3) := by decide +kernel
theorem d_Mod_add_28 : decode k_Mod_add 28 = .ok (.iload_n 3, 1) := by decide +kernel
theorem d_Mod_add_29 : decode k_Mod_add 29 = .ok (.iastore, 1) := by decide +kernel
theorem d_Mod_add_30 : decode k_Mod_add 30 = .ok (.aload_n 0, 1) := by decide +kernel
theorem d_Mod_add_31 : decode k_Mod_add 31 = .ok (.getfield 22, 3) := by decide +kernel
theorem d_Mod_add_34 : decode k_Mod_add 34 = .ok (.aload_n 0, 1) := by decide +kernel
theorem d_Mod_add_35 : decode k_Mod_add 35 = .ok (.getfield 65, 3) := by decide +kernel
theorem d_Mod_add_38 : decode k_Mod_add 38 = .ok (.iload 4, 2) := by decide +kernel
theorem d_Mod_add_40 : decode k_Mod_add 40 = .ok (.iastore, 1) := by decide +kernel
theorem d_Mod_add_41 : decode k_Mod_add 41 = .ok (.aload_n 0, 1) := by decide +kernel
theorem d_Mod_add_42 : decode k_Mod_add 42 = .ok (.getfield 25, 3) := by decide +kernel
theorem d_Mod_add_45 : decode k_Mod_add 45 = .ok (.aload_n 0, 1) := by decide +kernel
theorem d_Mod_add_46 : decode k_Mod_add 46 = .ok (.getfield 65, 3) := by decide +kernel
theorem d_Mod_add_49 : decode k_Mod_add 49 = .ok (.iload 5, 2) := by decide +kernel
theorem d_Mod_add_51 : decode k_Mod_add 51 = .ok (.bastore, 1) := by decide +kernel
theorem d_Mod_add_52 : decode k_Mod_add 52 = .ok (.aload_n 0, 1) := by decide +kernel
theorem d_Mod_add_53 : decode k_Mod_add 53 = .ok (.getfield 29, 3) := by decide +kernel
theorem d_Mod_add_56 : decode k_Mod_add 56 = .ok (.aload_n 0, 1) := by decide +kernel
theorem d_Mod_add_57 : decode k_Mod_add 57 = .ok (.getfield 65, 3) := by decide +kernel
theorem d_Mod_add_60 : decode k_Mod_add 60 = .ok (.iconst (-1), 1) := by decide +kernel
theorem d_Mod_add_61 : decode k_Mod_add 61 = .ok (.iastore, 1) := by decide +kernel
theorem d_Mod_add_62 : decode k_Mod_add 62 = .ok (.aload_n 0, 1) := by decide +kernel
theorem d_Mod_add_63 : decode k_Mod_add 63 = .ok (.dup, 1) := by decide +kernel
theorem d_Mod_add_64 : decode k_Mod_add 64 = .ok (.getfield 65, 3) := by decide +kernel
theorem d_Mod_add_67 : decode k_Mod_add 67 = .ok (.iconst 1, 1) := by decide +kernel
theorem d_Mod_add_68 : decode k_Mod_add 68 = .ok (.iadd, 1) := by decide +kernel
theorem d_Mod_add_69 : decode k_Mod_add 69 = .ok (.putfield 65, 3) := by decide +kernel
theorem d_Mod_add_72 : decode k_Mod_add 72 = .ok (.return_, 1) := by decide +kernel
theorem d_Mod_guess_0 : decode k_Mod_guess 0 = .ok (.iconst 0, 1) := by decide +kernel
theorem d_Mod_guess_1 : decode k_Mod_guess 1 = .ok (.istore_n 2, 1) := by decide +kernel
theorem d_Mod_guess_2 : decode k_Mod_guess 2 = .ok (.iload_n 2, 1) := by decide +kernel
theorem d_Mod_guess_3 : decode k_Mod_guess 3 = .ok (.bipush 64, 2) := by decide +kernel
theorem d_Mod_guess_5 : decode k_Mod_guess 5 = .ok (.if_icmp .ge 56, 3) := by decide +kernel
theorem d_Mod_guess_8 : decode k_Mod_guess 8 = .ok (.aload_n 0, 1) := by decide +kernel
theorem d_Mod_guess_9 : decode k_Mod_guess 9 = .ok (.getfield 80, 3) := by decide +kernel
theorem d_Mod_guess_12 : decode k_Mod_guess 12 = .ok (.aload_n 0, 1) := by decide +kernel
theorem d_Mod_guess_13 : decode k_Mod_guess 13 = .ok (.getfield 55, 3) := by decide +kernel
theorem d_Mod_guess_16 : decode k_Mod_guess 16 = .ok (.if_icmp .ge 45, 3) := by decide +kernel
theorem d_Mod_guess_19 : decode k_Mod_guess 19 = .ok (.iload_n 1, 1) := by decide +kernel
theorem d_Mod_guess_20 : decode k_Mod_guess 20 = .ok (.bipush 6, 2) := by decide +kernel
theorem d_Mod_guess_22 : decode k_Mod_guess 22 = .ok (.iadd, 1) := by decide +kernel
theorem d_Mod_guess_23 : decode k_Mod_guess 23 = .ok (.iload_n 2, 1) := by decide +kernel
theorem d_Mod_guess_24 : decode k_Mod_guess 24 = .ok (.iadd, 1) := by decide +kernel
theorem d_Mod_guess_25 : decode k_Mod_guess 25 = .ok (.aload_n 0, 1) := by decide +kernel
theorem d_Mod_guess_26 : decode k_Mod_guess 26 = .ok (.getfield 68, 3) := by decide +kernel
theorem d_Mod_guess_29 : decode k_Mod_guess 29 = .ok (.if_icmp .ge 32, 3) := by decide +kernel
theorem d_Mod_guess_32 : decode k_Mod_guess 32 = .ok (.aload_n 0, 1) := by decide +kernel
theorem d_Mod_guess_33 : decode k_Mod_guess 33 = .ok (.iload_n 1, 1) := by decide +kernel
theorem d_Mod_guess_34 : decode k_Mod_guess 34 = .ok (.bipush 6, 2) := by decide +kernel
theorem d_Mod_guess_36 : decode k_Mod_guess 36 = .ok (.iadd, 1) := by decide +kernel
theorem d_Mod_guess_37 : decode k_Mod_guess 37 = .ok (.iload_n 2, 1) := by decide +kernel
theorem d_Mod_guess_38 : decode k_Mod_guess 38 = .ok (.iadd, 1) := by decide +kernel
theorem d_Mod_guess_39 : decode k_Mod_guess 39 = .ok (.invokevirtual 76, 3) := by decide +kernel
theorem d_Mod_guess_42 : decode k_Mod_guess 42 = .ok (.ifCond .ne 19, 3) := by decide +kernel
theorem d_Mod_guess_45 : decode k_Mod_guess 45 = .ok (.iinc 2 1, 3) := by decide +kernel
theorem d_Mod_guess_48 : decode k_Mod_guess 48 = .ok (.aload_n 0, 1) := by decide +kernel
theorem d_Mod_guess_49 : decode k_Mod_guess 49 = .ok (.dup, 1) := by decide +kernel
theorem d_Mod_guess_50 : decode k_Mod_guess 50 = .ok (.getfield 80, 3) := by decide +kernel
theorem d_Mod_guess_53 : decode k_Mod_guess 53 = .ok (.iconst 1, 1) := by decide +kernel
theorem d_Mod_guess_54 : decode k_Mod_guess 54 = .ok (.iadd, 1) := by decide +kernel
theorem d_Mod_guess_55 : decode k_Mod_guess 55 = .ok (.putfield 80, 3) := by decide +kernel
theorem d_Mod_guess_58 : decode k_Mod_guess 58 = .ok (.goto (-56), 3) := by decide +kernel
theorem d_Mod_guess_61 : decode k_Mod_guess 61 = .ok (.aload_n 0, 1) := by decide +kernel
theorem d_Mod_guess_62 : decode k_Mod_guess 62 = .ok (.iload_n 1, 1) := by decide +kernel
theorem d_Mod_guess_63 : decode k_Mod_guess 63 = .ok (.aload_n 0, 1) := by decide +kernel
theorem d_Mod_guess_64 : decode k_Mod_guess 64 = .ok (.getfield 16, 3) := by decide +kernel
theorem d_Mod_guess_67 : decode k_Mod_guess 67 = .ok (.aload_n 0, 1) := by decide +kernel
theorem d_Mod_guess_68 : decode k_Mod_guess 68 = .ok (.getfield 65, 3) := by decide +kernel
theorem d_Mod_guess_71 : decode k_Mod_guess 71 = .ok (.iconst 1, 1) := by decide +kernel
theorem d_Mod_guess_72 : decode k_Mod_guess 72 = .ok (.isub, 1) := by decide +kernel
theorem d_Mod_guess_73 : decode k_Mod_guess 73 = .ok (.iaload, 1) := by decide +kernel
theorem d_Mod_guess_74 : decode k_Mod_guess 74 = .ok (.iconst 1, 1) := by decide +kernel
theorem d_Mod_guess_75 : decode k_Mod_guess 75 = .ok (.iadd, 1) := by decide +kernel
theorem d_Mod_guess_76 : decode k_Mod_guess 76 = .ok (.bipush 16, 2) := by decide +kernel
theorem d_Mod_guess_78 : decode k_Mod_guess 78 = .ok (.irem, 1) := by decide +kernel
theorem d_Mod_guess_79 : decode k_Mod_guess 79 = .ok (.aload_n 0, 1) := by decide +kernel
theorem d_Mod_guess_80 : decode k_Mod_guess 80 = .ok (.getfield 19, 3) := by decide +kernel
theorem d_Mod_guess_83 : decode k_Mod_guess 83 = .ok (.aload_n 0, 1) := by decide +kernel
theorem d_Mod_guess_84 : decode k_Mod_guess 84 = .ok (.getfield 65, 3) := by decide +kernel
theorem d_Mod_guess_87 : decode k_Mod_guess 87 = .ok (.iconst 1, 1) := by decide +kernel
theorem d_Mod_guess_88 : decode k_Mod_guess 88 = .ok (.isub, 1) := by decide +kernel
theorem d_Mod_guess_89 : decode k_Mod_guess 89 = .ok (.iaload, 1) := by decide +kernel
theorem d_Mod_guess_90 : decode k_Mod_guess 90 = .ok (.iload_n 2, 1) := by decide +kernel
theorem d_Mod_guess_91 : decode k_Mod_guess 91 = .ok (.iconst 1, 1) := by decide +kernel
theorem d_Mod_guess_92 : decode k_Mod_guess 92 = .ok (.invokevirtual 83, 3) := by decide +kernel
theorem d_Mod_guess_95 : decode k_Mod_guess 95 = .ok (.iload_n 1, 1) := by decide +kernel
theorem d_Mod_guess_96 : decode k_Mod_guess 96 = .ok (.bipush 6, 2) := by decide +kernel
theorem d_Mod_guess_98 : decode k_Mod_guess 98 = .ok (.iadd, 1) := by decide +kernel
theorem d_Mod_guess_99 : decode k_Mod_guess 99 = .ok (.iload_n 2, 1) := by decide +kernel
theorem d_Mod_guess_100 : decode k_Mod_guess 100 = .ok (.iadd, 1) := by decide +kernel
theorem d_Mod_guess_101 : decode k_Mod_guess 101 = .ok (.ireturn, 1) := by decide +kernel
theorem d_Mod_run_0 : decode k_Mod_run 0 = .ok (.aload_n 0, 1) := by decide +kernel
theorem d_Mod_run_1 : decode k_Mod_run 1 = .ok (.iconst 0, 1) := by decide +kernel
theorem d_Mod_run_2 : decode k_Mod_run 2 = .ok (.putfield 58, 3) := by decide +kernel
theorem d_Mod_run_5 : decode k_Mod_run 5 = .ok (.iconst 0, 1) := by decide +kernel
theorem d_Mod_run_6 : decode k_Mod_run 6 = .ok (.istore_n 1, 1) := by decide +kernel
theorem d_Mod_run_7 : decode k_Mod_run 7 = .ok (.iload_n 1, 1) := by decide +kernel
theorem d_Mod_run_8 : decode k_Mod_run 8 = .ok (.sipush 256, 3) := by decide +kernel
theorem d_Mod_run_11 : decode k_Mod_run 11 = .ok (.if_icmp .ge 16, 3) := by decide +kernel
theorem d_Mod_run_14 : decode k_Mod_run 14 = .ok (.aload_n 0, 1) := by decide +kernel
theorem d_Mod_run_15 : decode k_Mod_run 15 = .ok (.getfield 35, 3) := by decide +kernel
theorem d_Mod_run_18 : decode k_Mod_run 18 = .ok (.iload_n 1, 1) := by decide +kernel
theorem d_Mod_run_19 : decode k_Mod_run 19 = .ok (.iconst 0, 1) := by decide +kernel
theorem d_Mod_run_20 : decode k_Mod_run 20 = .ok (.iastore, 1) := by decide +kernel
theorem d_Mod_run_21 : decode k_Mod_run 21 = .ok (.iinc 1 1, 3) := by decide +kernel
theorem d_Mod_run_24 : decode k_Mod_run 24 = .ok (.goto (-17), 3) := by decide +kernel
theorem d_Mod_run_27 : decode k_Mod_run 27 = .ok (.aload_n 0, 1) := by decide +kernel
theorem d_Mod_run_28 : decode k_Mod_run 28 = .ok (.iconst 0, 1) := by decide +kernel
theorem d_Mod_run_29 : decode k_Mod_run 29 = .ok (.putfield 65, 3) := by decide +kernel
theorem d_Mod_run_32 : decode k_Mod_run 32 = .ok (.aload_n 0, 1) := by decide +kernel
theorem d_Mod_run_33 : decode k_Mod_run 33 = .ok (.iconst 0, 1) := by decide +kernel
theorem d_Mod_run_34 : decode k_Mod_run 34 = .ok (.putfield 80, 3) := by decide +kernel
theorem d_Mod_run_37 : decode k_Mod_run 37 = .ok (.iconst 0, 1) := by decide +kernel
theorem d_Mod_run_38 : decode k_Mod_run 38 = .ok (.istore_n 1, 1) := by decide +kernel
theorem d_Mod_run_39 : decode k_Mod_run 39 = .ok (.iload_n 1, 1) := by decide +kernel
theorem d_Mod_run_40 : decode k_Mod_run 40 = .ok (.aload_n 0, 1) := by decide +kernel
theorem d_Mod_run_41 : decode k_Mod_run 41 = .ok (.getfield 68, 3) := by decide +kernel
theorem d_Mod_run_44 : decode k_Mod_run 44 = .ok (.if_icmp .ge 129, 3) := by decide +kernel
theorem d_Mod_run_47 : decode k_Mod_run 47 = .ok (.aload_n 0, 1) := by decide +kernel
theorem d_Mod_run_48 : decode k_Mod_run 48 = .ok (.getfield 80, 3) := by decide +kernel
theorem d_Mod_run_51 : decode k_Mod_run 51 = .ok (.aload_n 0, 1) := by decide +kernel
theorem d_Mod_run_52 : decode k_Mod_run 52 = .ok (.getfield 55, 3) := by decide +kernel
theorem d_Mod_run_55 : decode k_Mod_run 55 = .ok (.if_icmp .ge 118, 3) := by decide +kernel
theorem d_Mod_run_58 : decode k_Mod_run 58 = .ok (.aload_n 0, 1) := by decide +kernel
theorem d_Mod_run_59 : decode k_Mod_run 59 = .ok (.getfield 65, 3) := by decide +kernel
theorem d_Mod_run_62 : decode k_Mod_run 62 = .ok (.bipush 16, 2) := by decide +kernel
theorem d_Mod_run_64 : decode k_Mod_run 64 = .ok (.if_icmp .ge 109, 3) := by decide +kernel
theorem d_Mod_run_67 : decode k_Mod_run 67 = .ok (.aload_n 0, 1) := by decide +kernel
theorem d_Mod_run_68 : decode k_Mod_run 68 = .ok (.dup, 1) := by decide +kernel
theorem d_Mod_run_69 : decode k_Mod_run 69 = .ok (.getfield 80, 3) := by decide +kernel
theorem d_Mod_run_72 : decode k_Mod_run 72 = .ok (.iconst 1, 1) := by decide +kernel
theorem d_Mod_run_73 : decode k_Mod_run 73 = .ok (.iadd, 1) := by decide +kernel
theorem d_Mod_run_74 : decode k_Mod_run 74 = .ok (.putfield 80, 3) := by decide +kernel
theorem d_Mod_run_77 : decode k_Mod_run 77 = .ok (.aload_n 0, 1) := by decide +kernel
theorem d_Mod_run_78 : decode k_Mod_run 78 = .ok (.iload_n 1, 1) := by decide +kernel
theorem d_Mod_run_79 : decode k_Mod_run 79 = .ok (.invokevirtual 87, 3) := by decide +kernel
theorem d_Mod_run_82 : decode k_Mod_run 82 = .ok (.ifCond .eq 61, 3) := by decide +kernel
theorem d_Mod_run_85 : decode k_Mod_run 85 = .ok (.aload_n 0, 1) := by decide +kernel
theorem d_Mod_run_86 : decode k_Mod_run 86 = .ok (.iload_n 1, 1) := by decide +kernel
theorem d_Mod_run_87 : decode k_Mod_run 87 = .ok (.invokevirtual 90, 3) := by decide +kernel
theorem d_Mod_run_90 : decode k_Mod_run 90 = .ok (.ifCond .eq 53, 3) := by decide +kernel
theorem d_Mod_run_93 : decode k_Mod_run 93 = .ok (.aload_n 0, 1) := by decide +kernel
theorem d_Mod_run_94 : decode k_Mod_run 94 = .ok (.iload_n 1, 1) := by decide +kernel
theorem d_Mod_run_95 : decode k_Mod_run 95 = .ok (.aload_n 0, 1) := by decide +kernel
theorem d_Mod_run_96 : decode k_Mod_run 96 = .ok (.getfield 7, 3) := by decide +kernel
theorem d_Mod_run_99 : decode k_Mod_run 99 = .ok (.iload_n 1, 1) := by decide +kernel
theorem d_Mod_run_100 : decode k_Mod_run 100 = .ok (.iconst 2, 1) := by decide +kernel
theorem d_Mod_run_101 : decode k_Mod_run 101 = .ok (.iadd, 1) := by decide +kernel
theorem d_Mod_run_102 : decode k_Mod_run 102 = .ok (.iaload, 1) := by decide +kernel
theorem d_Mod_run_103 : decode k_Mod_run 103 = .ok (.aload_n 0, 1) := by decide +kernel
theorem d_Mod_run_104 : decode k_Mod_run 104 = .ok (.getfield 7, 3) := by decide +kernel
theorem d_Mod_run_107 : decode k_Mod_run 107 = .ok (.iload_n 1, 1) := by decide +kernel
theorem d_Mod_run_108 : decode k_Mod_run 108 = .ok (.iconst 3, 1) := by decide +kernel
theorem d_Mod_run_109 : decode k_Mod_run 109 = .ok (.iadd, 1) := by decide +kernel
theorem d_Mod_run_110 : decode k_Mod_run 110 = .ok (.iaload, 1) := by decide +kernel
theorem d_Mod_run_111 : decode k_Mod_run 111 = .ok (.aload_n 0, 1) := by decide +kernel
theorem d_Mod_run_112 : decode k_Mod_run 112 = .ok (.getfield 7, 3) := by decide +kernel
theorem d_Mod_run_115 : decode k_Mod_run 115 = .ok (.iload_n 1, 1) := by decide +kernel
theorem d_Mod_run_116 : decode k_Mod_run 116 = .ok (.iconst 4, 1) := by decide +kernel
theorem d_Mod_run_117 : decode k_Mod_run 117 = .ok (.iadd, 1) := by decide +kernel
theorem d_Mod_run_118 : decode k_Mod_run 118 = .ok (.iaload, 1) := by decide +kernel
theorem d_Mod_run_119 : decode k_Mod_run 119 = .ok (.iconst 0, 1) := by decide +kernel
theorem d_Mod_run_120 : decode k_Mod_run 120 = .ok (.invokevirtual 83, 3) := by decide +kernel
theorem d_Mod_run_123 : decode k_Mod_run 123 = .ok (.iload_n 1, 1) := by decide +kernel
theorem d_Mod_run_124 : decode k_Mod_run 124 = .ok (.bipush 6, 2) := by decide +kernel
theorem d_Mod_run_126 : decode k_Mod_run 126 = .ok (.iadd, 1) := by decide +kernel
theorem d_Mod_run_127 : decode k_Mod_run 127 = .ok (.aload_n 0, 1) := by decide +kernel
theorem d_Mod_run_128 : decode k_Mod_run 128 = .ok (.getfield 22, 3) := by decide +kernel
theorem d_Mod_run_131 : decode k_Mod_run 131 = .ok (.aload_n 0, 1) := by decide +kernel
theorem d_Mod_run_132 : decode k_Mod_run 132 = .ok (.getfield 65, 3) := by decide +kernel
theorem d_Mod_run_135 : decode k_Mod_run 135 = .ok (.iconst 1, 1) := by decide +kernel
theorem d_Mod_run_136 : decode k_Mod_run 136 = .ok (.isub, 1) := by decide +kernel
theorem d_Mod_run_137 : decode k_Mod_run 137 = .ok (.iaload, 1) := by decide +kernel
theorem d_Mod_run_138 : decode k_Mod_run 138 = .ok (.iadd, 1) := by decide +kernel
theorem d_Mod_run_139 : decode k_Mod_run 139 = .ok (.istore_n 1, 1) := by decide +kernel
theorem d_Mod_run_140 : decode k_Mod_run 140 = .ok (.goto (-101), 3) := by decide +kernel
theorem d_Mod_run_143 : decode k_Mod_run 143 = .ok (.aload_n 0, 1) := by decide +kernel
theorem d_Mod_run_144 : decode k_Mod_run 144 = .ok (.iload_n 1, 1) := by decide +kernel
theorem d_Mod_run_145 : decode k_Mod_run 145 = .ok (.invokevirtual 87, 3) := by decide +kernel
theorem d_Mod_run_148 : decode k_Mod_run 148 = .ok (.ifCond .eq 19, 3) := by decide +kernel
theorem d_Mod_run_151 : decode k_Mod_run 151 = .ok (.aload_n 0, 1) := by decide +kernel
theorem d_Mod_run_152 : decode k_Mod_run 152 = .ok (.getfield 65, 3) := by decide +kernel
theorem d_Mod_run_155 : decode k_Mod_run 155 = .ok (.ifCond .le 12, 3) := by decide +kernel
theorem d_Mod_run_158 : decode k_Mod_run 158 = .ok (.aload_n 0, 1) := by decide +kernel
theorem d_Mod_run_159 : decode k_Mod_run 159 = .ok (.iload_n 1, 1) := by decide +kernel
theorem d_Mod_run_160 : decode k_Mod_run 160 = .ok (.invokevirtual 93, 3) := by decide +kernel
theorem d_Mod_run_163 : decode k_Mod_run 163 = .ok (.istore_n 1, 1) := by decide +kernel
theorem d_Mod_run_164 : decode k_Mod_run 164 = .ok (.goto (-125), 3) := by decide +kernel
theorem d_Mod_run_167 : decode k_Mod_run 167 = .ok (.iinc 1 1, 3) := by decide +kernel
theorem d_Mod_run_170 : decode k_Mod_run 170 = .ok (.goto (-131), 3) := by decide +kernel
theorem d_Mod_run_173 : decode k_Mod_run 173 = .ok (.aload_n 0, 1) := by decide +kernel
theorem d_Mod_run_174 : decode k_Mod_run 174 = .ok (.iload_n 1, 1) := by decide +kernel
theorem d_Mod_run_175 : decode k_Mod_run 175 = .ok (.aload_n 0, 1) := by decide +kernel
theorem d_Mod_run_176 : decode k_Mod_run 176 = .ok (.getfield 68, 3) := by decide +kernel
theorem d_Mod_run_179 : decode k_Mod_run 179 = .ok (.if_icmp .ge 16, 3) := by decide +kernel
theorem d_Mod_run_182 : decode k_Mod_run 182 = .ok (.aload_n 0, 1) := by decide +kernel
theorem d_Mod_run_183 : decode k_Mod_run 183 = .ok (.getfield 65, 3) := by decide +kernel
theorem d_Mod_run_186 : decode k_Mod_run 186 = .ok (.bipush 16, 2) := by decide +kernel
theorem d_Mod_run_188 : decode k_Mod_run 188 = .ok (.if_icmp .ge 7, 3) := by decide +kernel
theorem d_Mod_run_191 : decode k_Mod_run 191 = .ok (.iconst 1, 1) := by decide +kernel
theorem d_Mod_run_192 : decode k_Mod_run 192 = .ok (.goto 4, 3) := by decide +kernel
theorem d_Mod_run_195 : decode k_Mod_run 195 = .ok (.iconst 0, 1) := by decide +kernel
theorem d_Mod_run_196 : decode k_Mod_run 196 = .ok (.putfield 97, 3) := by decide +kernel
theorem d_Mod_run_199 : decode k_Mod_run 199 = .ok (.aload_n 0, 1) := by decide +kernel
theorem d_Mod_run_200 : decode k_Mod_run 200 = .ok (.iconst 1, 1) := by decide +kernel
theorem d_Mod_run_201 : decode k_Mod_run 201 = .ok (.putfield 61, 3) := by decide +kernel
theorem d_Mod_run_204 : decode k_Mod_run 204 = .ok (.aload_n 0, 1) := by decide +kernel
theorem d_Mod_run_205 : decode k_Mod_run 205 = .ok (.getfield 65, 3) := by decide +kernel
theorem d_Mod_run_208 : decode k_Mod_run 208 = .ok (.ireturn, 1) := by decide +kernel
theorem d_Mod_partCode_0 : decode k_Mod_partCode 0 = .ok (.aload_n 0, 1) := by decide +kernel
theorem d_Mod_partCode_1 : decode k_Mod_partCode 1 = .ok (.getfield 61, 3) := by decide +kernel
theorem d_Mod_partCode_4 : decode k_Mod_partCode 4 = .ok (.ifCond .ne 7, 3) := by decide +kernel
theorem d_Mod_partCode_7 : decode k_Mod_partCode 7 = .ok (.iconst 1, 1) := by decide +kernel
theorem d_Mod_partCode_8 : decode k_Mod_partCode 8 = .ok (.goto 20, 3) := by decide +kernel
theorem d_Mod_partCode_11 : decode k_Mod_partCode 11 = .ok (.iload_n 1, 1) := by decide +kernel
theorem d_Mod_partCode_12 : decode k_Mod_partCode 12 = .ok (.ifCond .lt 11, 3) := by decide +kernel
theorem d_Mod_partCode_15 : decode k_Mod_partCode 15 = .ok (.iload_n 1, 1) := by decide +kernel
theorem d_Mod_partCode_16 : decode k_Mod_partCode 16 = .ok (.aload_n 0, 1) := by decide +kernel
theorem d_Mod_partCode_17 : decode k_Mod_partCode 17 = .ok (.getfield 65, 3) := by decide +kernel
theorem d_Mod_partCode_20 : decode k_Mod_partCode 20 = .ok (.if_icmp .lt 7, 3) := by decide +kernel
theorem d_Mod_partCode_23 : decode k_Mod_partCode 23 = .ok (.iconst 2, 1) := by decide +kernel
theorem d_Mod_partCode_24 : decode k_Mod_partCode 24 = .ok (.goto 4, 3) := by decide +kernel
theorem d_Mod_partCode_27 : decode k_Mod_partCode 27 = .ok (.iconst 0, 1) := by decide +kernel
theorem d_Mod_partCode_28 : decode k_Mod_partCode 28 = .ok (.ireturn, 1) := by decide +kernel
theorem d_Mod_part_0 : decode k_Mod_part 0 = .ok (.aload_n 0, 1) := by decide +kernel
theorem d_Mod_part_1 : decode k_Mod_part 1 = .ok (.aload_n 0, 1) := by decide +kernel
theorem d_Mod_part_2 : decode k_Mod_part 2 = .ok (.iload_n 1, 1) := by decide +kernel
theorem d_Mod_part_3 : decode k_Mod_part 3 = .ok (.invokevirtual 100, 3) := by decide +kernel
theorem d_Mod_part_6 : decode k_Mod_part 6 = .ok (.putfield 58, 3) := by decide +kernel
theorem d_Mod_part_9 : decode k_Mod_part 9 = .ok (.aload_n 0, 1) := by decide +kernel
theorem d_Mod_part_10 : decode k_Mod_part 10 = .ok (.getfield 58, 3) := by decide +kernel
theorem d_Mod_part_13 : decode k_Mod_part 13 = .ok (.ifCond .le 5, 3) := by decide +kernel
theorem d_Mod_part_16 : decode k_Mod_part 16 = .ok (.iconst 0, 1) := by decide +kernel
theorem d_Mod_part_17 : decode k_Mod_part 17 = .ok (.ireturn, 1) := by decide +kernel
theorem d_Mod_part_18 : decode k_Mod_part 18 = .ok (.iload_n 2, 1) := by decide +kernel
theorem d_Mod_part_19 : decode k_Mod_part 19 = .ok (.tableswitch 87 0 5 #[37, 44, 51, 58, 65, 80], 37) := by decide +kernel
theorem d_Mod_part_56 : decode k_Mod_part 56 = .ok (.aload_n 0, 1) := by decide +kernel
theorem d_Mod_part_57 : decode k_Mod_part 57 = .ok (.getfield 13, 3) := by decide +kernel
theorem d_Mod_part_60 : decode k_Mod_part 60 = .ok (.iload_n 1, 1) := by decide +kernel
theorem d_Mod_part_61 : decode k_Mod_part 61 = .ok (.iaload, 1) := by decide +kernel
theorem d_Mod_part_62 : decode k_Mod_part 62 = .ok (.ireturn, 1) := by decide +kernel
theorem d_Mod_part_63 : decode k_Mod_part 63 = .ok (.aload_n 0, 1) := by decide +kernel
theorem d_Mod_part_64 : decode k_Mod_part 64 = .ok (.getfield 16, 3) := by decide +kernel
theorem d_Mod_part_67 : decode k_Mod_part 67 = .ok (.iload_n 1, 1) := by decide +kernel
theorem d_Mod_part_68 : decode k_Mod_part 68 = .ok (.iaload, 1) := by decide +kernel
theorem d_Mod_part_69 : decode k_Mod_part 69 = .ok (.ireturn, 1) := by decide +kernel
theorem d_Mod_part_70 : decode k_Mod_part 70 = .ok (.aload_n 0, 1) := by decide +kernel
theorem d_Mod_part_71 : decode k_Mod_part 71 = .ok (.getfield 19, 3) := by decide +kernel
theorem d_Mod_part_74 : decode k_Mod_part 74 = .ok (.iload_n 1, 1) := by decide +kernel
theorem d_Mod_part_75 : decode k_Mod_part 75 = .ok (.iaload, 1) := by decide +kernel
theorem d_Mod_part_76 : decode k_Mod_part 76 = .ok (.ireturn, 1) := by decide +kernel
theorem d_Mod_part_77 : decode k_Mod_part 77 = .ok (.aload_n 0, 1) := by decide +kernel
theorem d_Mod_part_78 : decode k_Mod_part 78 = .ok (.getfield 22, 3) := by decide +kernel
theorem d_Mod_part_81 : decode k_Mod_part 81 = .ok (.iload_n 1, 1) := by decide +kernel
theorem d_Mod_part_82 : decode k_Mod_part 82 = .ok (.iaload, 1) := by decide +kernel
theorem d_Mod_part_83 : decode k_Mod_part 83 = .ok (.ireturn, 1) := by decide +kernel
theorem d_Mod_part_84 : decode k_Mod_part 84 = .ok (.aload_n 0, 1) := by decide +kernel
theorem d_Mod_part_85 : decode k_Mod_part 85 = .ok (.getfield 25, 3) := by decide +kernel
theorem d_Mod_part_88 : decode k_Mod_part 88 = .ok (.iload_n 1, 1) := by decide +kernel
theorem d_Mod_part_89 : decode k_Mod_part 89 = .ok (.baload, 1) := by decide +kernel
theorem d_Mod_part_90 : decode k_Mod_part 90 = .ok (.ifCond .eq 7, 3) := by decide +kernel
theorem d_Mod_part_93 : decode k_Mod_part 93 = .ok (.iconst 1, 1) := by decide +kernel
theorem d_Mod_part_94 : decode k_Mod_part 94 = .ok (.goto 4, 3) := by decide +kernel
theorem d_Mod_part_97 : decode k_Mod_part 97 = .ok (.iconst 0, 1) := by decide +kernel
theorem d_Mod_part_98 : decode k_Mod_part 98 = .ok (.ireturn, 1) := by decide +kernel
theorem d_Mod_part_99 : decode k_Mod_part 99 = .ok (.aload_n 0, 1) := by decide +kernel
theorem d_Mod_part_100 : decode k_Mod_part 100 = .ok (.getfield 29, 3) := by decide +kernel
theorem d_Mod_part_103 : decode k_Mod_part 103 = .ok (.iload_n 1, 1) := by decide +kernel
theorem d_Mod_part_104 : decode k_Mod_part 104 = .ok (.iaload, 1) := by decide +kernel
theorem d_Mod_part_105 : decode k_Mod_part 105 = .ok (.ireturn, 1) := by decide +kernel
theorem d_Mod_part_106 : decode k_Mod_part 106 = .ok (.iconst (-1), 1) := by decide +kernel
theorem d_Mod_part_107 : decode k_Mod_part 107 = .ok (.ireturn, 1) := by decide +kernel
theorem d_Mod_fail_0 : decode k_Mod_fail 0 = .ok (.aload_n 0, 1) := by decide +kernel
theorem d_Mod_fail_1 : decode k_Mod_fail 1 = .ok (.aload_n 0, 1) := by decide +kernel
theorem d_Mod_fail_2 : decode k_Mod_fail 2 = .ok (.getfield 103, 3) := by decide +kernel
theorem d_Mod_fail_5 : decode k_Mod_fail 5 = .ok (.ifCond .ne 7, 3) := by decide +kernel
theorem d_Mod_fail_8 : decode k_Mod_fail 8 = .ok (.iload_n 1, 1) := by decide +kernel
theorem d_Mod_fail_9 : decode k_Mod_fail 9 = .ok (.goto 7, 3) := by decide +kernel
theorem d_Mod_fail_12 : decode k_Mod_fail 12 = .ok (.aload_n 0, 1) := by decide +kernel
theorem d_Mod_fail_13 : decode k_Mod_fail 13 = .ok (.getfield 103, 3) := by decide +kernel
theorem d_Mod_fail_16 : decode k_Mod_fail 16 = .ok (.putfield 103, 3) := by decide +kernel
theorem d_Mod_fail_19 : decode k_Mod_fail 19 = .ok (.return_, 1) := by decide +kernel
theorem d_Mod_take_0 : decode k_Mod_take 0 = .ok (.aload_n 0, 1) := by decide +kernel
theorem d_Mod_take_1 : decode k_Mod_take 1 = .ok (.getfield 103, 3) := by decide +kernel
theorem d_Mod_take_4 : decode k_Mod_take 4 = .ok (.ifCond .le 5, 3) := by decide +kernel
theorem d_Mod_take_7 : decode k_Mod_take 7 = .ok (.iconst 0, 1) := by decide +kernel
theorem d_Mod_take_8 : decode k_Mod_take 8 = .ok (.ireturn, 1) := by decide +kernel
theorem d_Mod_take_9 : decode k_Mod_take 9 = .ok (.aload_n 0, 1) := by decide +kernel
theorem d_Mod_take_10 : decode k_Mod_take 10 = .ok (.getfield 106, 3) := by decide +kernel
theorem d_Mod_take_13 : decode k_Mod_take 13 = .ok (.aload_n 0, 1) := by decide +kernel
theorem d_Mod_take_14 : decode k_Mod_take 14 = .ok (.getfield 109, 3) := by decide +kernel
theorem d_Mod_take_17 : decode k_Mod_take 17 = .ok (.if_icmp .ne 10, 3) := by decide +kernel
theorem d_Mod_take_20 : decode k_Mod_take 20 = .ok (.aload_n 0, 1) := by decide +kernel
theorem d_Mod_take_21 : decode k_Mod_take 21 = .ok (.iconst 1, 1) := by decide +kernel
theorem d_Mod_take_22 : decode k_Mod_take 22 = .ok (.invokevirtual 112, 3) := by decide +kernel
theorem d_Mod_take_25 : decode k_Mod_take 25 = .ok (.iconst 0, 1) := by decide +kernel
theorem d_Mod_take_26 : decode k_Mod_take 26 = .ok (.ireturn, 1) := by decide +kernel
theorem d_Mod_take_27 : decode k_Mod_take 27 = .ok (.aload_n 0, 1) := by decide +kernel
theorem d_Mod_take_28 : decode k_Mod_take 28 = .ok (.dup, 1) := by decide +kernel
theorem d_Mod_take_29 : decode k_Mod_take 29 = .ok (.getfield 106, 3) := by decide +kernel
theorem d_Mod_take_32 : decode k_Mod_take 32 = .ok (.iconst 1, 1) := by decide +kernel
theorem d_Mod_take_33 : decode k_Mod_take 33 = .ok (.iadd, 1) := by decide +kernel
theorem d_Mod_take_34 : decode k_Mod_take 34 = .ok (.putfield 106, 3) := by decide +kernel
theorem d_Mod_take_37 : decode k_Mod_take 37 = .ok (.aload_n 0, 1) := by decide +kernel
theorem d_Mod_take_38 : decode k_Mod_take 38 = .ok (.getfield 7, 3) := by decide +kernel
theorem d_Mod_take_41 : decode k_Mod_take 41 = .ok (.aload_n 0, 1) := by decide +kernel
theorem d_Mod_take_42 : decode k_Mod_take 42 = .ok (.getfield 106, 3) := by decide +kernel
theorem d_Mod_take_45 : decode k_Mod_take 45 = .ok (.iconst 1, 1) := by decide +kernel
theorem d_Mod_take_46 : decode k_Mod_take 46 = .ok (.isub, 1) := by decide +kernel
theorem d_Mod_take_47 : decode k_Mod_take 47 = .ok (.iaload, 1) := by decide +kernel
theorem d_Mod_take_48 : decode k_Mod_take 48 = .ok (.ireturn, 1) := by decide +kernel
theorem d_Mod_give_0 : decode k_Mod_give 0 = .ok (.aload_n 0, 1) := by decide +kernel
theorem d_Mod_give_1 : decode k_Mod_give 1 = .ok (.getfield 103, 3) := by decide +kernel
theorem d_Mod_give_4 : decode k_Mod_give 4 = .ok (.ifCond .ne 23, 3) := by decide +kernel
theorem d_Mod_give_7 : decode k_Mod_give 7 = .ok (.aload_n 0, 1) := by decide +kernel
theorem d_Mod_give_8 : decode k_Mod_give 8 = .ok (.getfield 38, 3) := by decide +kernel
theorem d_Mod_give_11 : decode k_Mod_give 11 = .ok (.aload_n 0, 1) := by decide +kernel
theorem d_Mod_give_12 : decode k_Mod_give 12 = .ok (.getfield 116, 3) := by decide +kernel
theorem d_Mod_give_15 : decode k_Mod_give 15 = .ok (.iload_n 1, 1) := by decide +kernel
theorem d_Mod_give_16 : decode k_Mod_give 16 = .ok (.iastore, 1) := by decide +kernel
theorem d_Mod_give_17 : decode k_Mod_give 17 = .ok (.aload_n 0, 1) := by decide +kernel
theorem d_Mod_give_18 : decode k_Mod_give 18 = .ok (.dup, 1) := by decide +kernel
theorem d_Mod_give_19 : decode k_Mod_give 19 = .ok (.getfield 116, 3) := by decide +kernel
theorem d_Mod_give_22 : decode k_Mod_give 22 = .ok (.iconst 1, 1) := by decide +kernel
theorem d_Mod_give_23 : decode k_Mod_give 23 = .ok (.iadd, 1) := by decide +kernel
theorem d_Mod_give_24 : decode k_Mod_give 24 = .ok (.putfield 116, 3) := by decide +kernel
theorem d_Mod_give_27 : decode k_Mod_give 27 = .ok (.return_, 1) := by decide +kernel
theorem d_Mod_goes_0 : decode k_Mod_goes 0 = .ok (.aload_n 0, 1) := by decide +kernel
theorem d_Mod_goes_1 : decode k_Mod_goes 1 = .ok (.getfield 103, 3) := by decide +kernel
theorem d_Mod_goes_4 : decode k_Mod_goes 4 = .ok (.ifCond .ne 16, 3) := by decide +kernel
theorem d_Mod_goes_7 : decode k_Mod_goes 7 = .ok (.aload_n 0, 1) := by decide +kernel
theorem d_Mod_goes_8 : decode k_Mod_goes 8 = .ok (.getfield 116, 3) := by decide +kernel
theorem d_Mod_goes_11 : decode k_Mod_goes 11 = .ok (.bipush 16, 2) := by decide +kernel
theorem d_Mod_goes_13 : decode k_Mod_goes 13 = .ok (.if_icmp .ge 7, 3) := by decide +kernel
theorem d_Mod_goes_16 : decode k_Mod_goes 16 = .ok (.iconst 1, 1) := by decide +kernel
theorem d_Mod_goes_17 : decode k_Mod_goes 17 = .ok (.goto 4, 3) := by decide +kernel
theorem d_Mod_goes_20 : decode k_Mod_goes 20 = .ok (.iconst 0, 1) := by decide +kernel
theorem d_Mod_goes_21 : decode k_Mod_goes 21 = .ok (.ireturn, 1) := by decide +kernel
theorem d_Mod_repeated_0 : decode k_Mod_repeated 0 = .ok (.aload_n 0, 1) := by decide +kernel
theorem d_Mod_repeated_1 : decode k_Mod_repeated 1 = .ok (.invokevirtual 119, 3) := by decide +kernel
theorem d_Mod_repeated_4 : decode k_Mod_repeated 4 = .ok (.istore_n 1, 1) := by decide +kernel
theorem d_Mod_repeated_5 : decode k_Mod_repeated 5 = .ok (.aload_n 0, 1) := by decide +kernel
theorem d_Mod_repeated_6 : decode k_Mod_repeated 6 = .ok (.invokevirtual 119, 3) := by decide +kernel
theorem d_Mod_repeated_9 : decode k_Mod_repeated 9 = .ok (.istore_n 2, 1) := by decide +kernel
theorem d_Mod_repeated_10 : decode k_Mod_repeated 10 = .ok (.aload_n 0, 1) := by decide +kernel
theorem d_Mod_repeated_11 : decode k_Mod_repeated 11 = .ok (.getfield 116, 3) := by decide +kernel
theorem d_Mod_repeated_14 : decode k_Mod_repeated 14 = .ok (.iload_n 1, 1) := by decide +kernel
theorem d_Mod_repeated_15 : decode k_Mod_repeated 15 = .ok (.iadd, 1) := by decide +kernel
theorem d_Mod_repeated_16 : decode k_Mod_repeated 16 = .ok (.bipush 16, 2) := by decide +kernel
theorem d_Mod_repeated_18 : decode k_Mod_repeated 18 = .ok (.if_icmp .le 8, 3) := by decide +kernel
theorem d_Mod_repeated_21 : decode k_Mod_repeated 21 = .ok (.aload_n 0, 1) := by decide +kernel
theorem d_Mod_repeated_22 : decode k_Mod_repeated 22 = .ok (.iconst 1, 1) := by decide +kernel
theorem d_Mod_repeated_23 : decode k_Mod_repeated 23 = .ok (.invokevirtual 112, 3) := by decide +kernel
theorem d_Mod_repeated_26 : decode k_Mod_repeated 26 = .ok (.iconst 0, 1) := by decide +kernel
theorem d_Mod_repeated_27 : decode k_Mod_repeated 27 = .ok (.istore_n 3, 1) := by decide +kernel
theorem d_Mod_repeated_28 : decode k_Mod_repeated 28 = .ok (.iload_n 3, 1) := by decide +kernel
theorem d_Mod_repeated_29 : decode k_Mod_repeated 29 = .ok (.iload_n 1, 1) := by decide +kernel
theorem d_Mod_repeated_30 : decode k_Mod_repeated 30 = .ok (.if_icmp .ge 21, 3) := by decide +kernel
theorem d_Mod_repeated_33 : decode k_Mod_repeated 33 = .ok (.aload_n 0, 1) := by decide +kernel
theorem d_Mod_repeated_34 : decode k_Mod_repeated 34 = .ok (.invokevirtual 123, 3) := by decide +kernel
theorem d_Mod_repeated_37 : decode k_Mod_repeated 37 = .ok (.ifCond .eq 14, 3) := by decide +kernel
theorem d_Mod_repeated_40 : decode k_Mod_repeated 40 = .ok (.aload_n 0, 1) := by decide +kernel
theorem d_Mod_repeated_41 : decode k_Mod_repeated 41 = .ok (.iload_n 2, 1) := by decide +kernel
theorem d_Mod_repeated_42 : decode k_Mod_repeated 42 = .ok (.invokevirtual 127, 3) := by decide +kernel
theorem d_Mod_repeated_45 : decode k_Mod_repeated 45 = .ok (.iinc 3 1, 3) := by decide +kernel
theorem d_Mod_repeated_48 : decode k_Mod_repeated 48 = .ok (.goto (-20), 3) := by decide +kernel
theorem d_Mod_repeated_51 : decode k_Mod_repeated 51 = .ok (.return_, 1) := by decide +kernel
theorem d_Mod_divided_0 : decode k_Mod_divided 0 = .ok (.aload_n 0, 1) := by decide +kernel
theorem d_Mod_divided_1 : decode k_Mod_divided 1 = .ok (.invokevirtual 119, 3) := by decide +kernel
theorem d_Mod_divided_4 : decode k_Mod_divided 4 = .ok (.istore_n 1, 1) := by decide +kernel
theorem d_Mod_divided_5 : decode k_Mod_divided 5 = .ok (.aload_n 0, 1) := by decide +kernel
theorem d_Mod_divided_6 : decode k_Mod_divided 6 = .ok (.invokevirtual 119, 3) := by decide +kernel
theorem d_Mod_divided_9 : decode k_Mod_divided 9 = .ok (.istore_n 2, 1) := by decide +kernel
theorem d_Mod_divided_10 : decode k_Mod_divided 10 = .ok (.iload_n 2, 1) := by decide +kernel
theorem d_Mod_divided_11 : decode k_Mod_divided 11 = .ok (.ifCond .ne 8, 3) := by decide +kernel
theorem d_Mod_divided_14 : decode k_Mod_divided 14 = .ok (.aload_n 0, 1) := by decide +kernel
theorem d_Mod_divided_15 : decode k_Mod_divided 15 = .ok (.iconst 2, 1) := by decide +kernel
theorem d_Mod_divided_16 : decode k_Mod_divided 16 = .ok (.invokevirtual 112, 3) := by decide +kernel
theorem d_Mod_divided_19 : decode k_Mod_divided 19 = .ok (.aload_n 0, 1) := by decide +kernel
theorem d_Mod_divided_20 : decode k_Mod_divided 20 = .ok (.iload_n 2, 1) := by decide +kernel
theorem d_Mod_divided_21 : decode k_Mod_divided 21 = .ok (.ifCond .ne 7, 3) := by decide +kernel
theorem d_Mod_divided_24 : decode k_Mod_divided 24 = .ok (.iconst 0, 1) := by decide +kernel
theorem d_Mod_divided_25 : decode k_Mod_divided 25 = .ok (.goto 13, 3) := by decide +kernel
theorem d_Mod_divided_28 : decode k_Mod_divided 28 = .ok (.bipush 16, 2) := by decide +kernel
theorem d_Mod_divided_30 : decode k_Mod_divided 30 = .ok (.iload_n 1, 1) := by decide +kernel
theorem d_Mod_divided_31 : decode k_Mod_divided 31 = .ok (.imul, 1) := by decide +kernel
theorem d_Mod_divided_32 : decode k_Mod_divided 32 = .ok (.iload_n 2, 1) := by decide +kernel
theorem d_Mod_divided_33 : decode k_Mod_divided 33 = .ok (.idiv, 1) := by decide +kernel
theorem d_Mod_divided_34 : decode k_Mod_divided 34 = .ok (.sipush 256, 3) := by decide +kernel
theorem d_Mod_divided_37 : decode k_Mod_divided 37 = .ok (.irem, 1) := by decide +kernel
theorem d_Mod_divided_38 : decode k_Mod_divided 38 = .ok (.invokevirtual 127, 3) := by decide +kernel
theorem d_Mod_divided_41 : decode k_Mod_divided 41 = .ok (.return_, 1) := by decide +kernel
theorem d_Mod_boxed_0 : decode k_Mod_boxed 0 = .ok (.aload_n 0, 1) := by decide +kernel
theorem d_Mod_boxed_1 : decode k_Mod_boxed 1 = .ok (.invokevirtual 119, 3) := by decide +kernel
theorem d_Mod_boxed_4 : decode k_Mod_boxed 4 = .ok (.bipush 8, 2) := by decide +kernel
theorem d_Mod_boxed_6 : decode k_Mod_boxed 6 = .ok (.irem, 1) := by decide +kernel
theorem d_Mod_boxed_7 : decode k_Mod_boxed 7 = .ok (.istore_n 1, 1) := by decide +kernel
theorem d_Mod_boxed_8 : decode k_Mod_boxed 8 = .ok (.aload_n 0, 1) := by decide +kernel
theorem d_Mod_boxed_9 : decode k_Mod_boxed 9 = .ok (.invokevirtual 119, 3) := by decide +kernel
theorem d_Mod_boxed_12 : decode k_Mod_boxed 12 = .ok (.istore_n 2, 1) := by decide +kernel
theorem d_Mod_boxed_13 : decode k_Mod_boxed 13 = .ok (.aload_n 0, 1) := by decide +kernel
theorem d_Mod_boxed_14 : decode k_Mod_boxed 14 = .ok (.getfield 103, 3) := by decide +kernel
theorem d_Mod_boxed_17 : decode k_Mod_boxed 17 = .ok (.ifCond .le 4, 3) := by decide +kernel
theorem d_Mod_boxed_20 : decode k_Mod_boxed 20 = .ok (.return_, 1) := by decide +kernel
theorem d_Mod_boxed_21 : decode k_Mod_boxed 21 = .ok (.iload_n 2, 1) := by decide +kernel
theorem d_Mod_boxed_22 : decode k_Mod_boxed 22 = .ok (.bipush 8, 2) := by decide +kernel
theorem d_Mod_boxed_24 : decode k_Mod_boxed 24 = .ok (.irem, 1) := by decide +kernel
theorem d_Mod_boxed_25 : decode k_Mod_boxed 25 = .ok (.istore_n 3, 1) := by decide +kernel
theorem d_Mod_boxed_26 : decode k_Mod_boxed 26 = .ok (.iload_n 2, 1) := by decide +kernel
theorem d_Mod_boxed_27 : decode k_Mod_boxed 27 = .ok (.bipush 8, 2) := by decide +kernel
theorem d_Mod_boxed_29 : decode k_Mod_boxed 29 = .ok (.idiv, 1) := by decide +kernel
theorem d_Mod_boxed_30 : decode k_Mod_boxed 30 = .ok (.istore 4, 2) := by decide +kernel
theorem d_Mod_boxed_32 : decode k_Mod_boxed 32 = .ok (.iload_n 1, 1) := by decide +kernel
theorem d_Mod_boxed_33 : decode k_Mod_boxed 33 = .ok (.iconst 2, 1) := by decide +kernel
theorem d_Mod_boxed_34 : decode k_Mod_boxed 34 = .ok (.if_icmp .lt 84, 3) := by decide +kernel
theorem d_Mod_boxed_37 : decode k_Mod_boxed 37 = .ok (.iload_n 1, 1) := by decide +kernel
theorem d_Mod_boxed_38 : decode k_Mod_boxed 38 = .ok (.iconst 5, 1) := by decide +kernel
theorem d_Mod_boxed_39 : decode k_Mod_boxed 39 = .ok (.if_icmp .gt 79, 3) := by decide +kernel
theorem d_Mod_boxed_42 : decode k_Mod_boxed 42 = .ok (.aload_n 0, 1) := by decide +kernel
theorem d_Mod_boxed_43 : decode k_Mod_boxed 43 = .ok (.getfield 41, 3) := by decide +kernel
theorem d_Mod_boxed_46 : decode k_Mod_boxed 46 = .ok (.iload_n 3, 1) := by decide +kernel
theorem d_Mod_boxed_47 : decode k_Mod_boxed 47 = .ok (.iaload, 1) := by decide +kernel
theorem d_Mod_boxed_48 : decode k_Mod_boxed 48 = .ok (.bipush (-2), 2) := by decide +kernel
theorem d_Mod_boxed_50 : decode k_Mod_boxed 50 = .ok (.if_icmp .ne 11, 3) := by decide +kernel
theorem d_Mod_boxed_53 : decode k_Mod_boxed 53 = .ok (.aload_n 0, 1) := by decide +kernel
theorem d_Mod_boxed_54 : decode k_Mod_boxed 54 = .ok (.iconst 3, 1) := by decide +kernel
theorem d_Mod_boxed_55 : decode k_Mod_boxed 55 = .ok (.invokevirtual 112, 3) := by decide +kernel
theorem d_Mod_boxed_58 : decode k_Mod_boxed 58 = .ok (.goto 60, 3) := by decide +kernel
theorem d_Mod_boxed_61 : decode k_Mod_boxed 61 = .ok (.aload_n 0, 1) := by decide +kernel
theorem d_Mod_boxed_62 : decode k_Mod_boxed 62 = .ok (.getfield 41, 3) := by decide +kernel
theorem d_Mod_boxed_65 : decode k_Mod_boxed 65 = .ok (.iload_n 3, 1) := by decide +kernel
theorem d_Mod_boxed_66 : decode k_Mod_boxed 66 = .ok (.iaload, 1) := by decide +kernel
theorem d_Mod_boxed_67 : decode k_Mod_boxed 67 = .ok (.iconst (-1), 1) := by decide +kernel
theorem d_Mod_boxed_68 : decode k_Mod_boxed 68 = .ok (.if_icmp .ne 7, 3) := by decide +kernel
theorem d_Mod_boxed_71 : decode k_Mod_boxed 71 = .ok (.iconst 1, 1) := by decide +kernel
theorem d_Mod_boxed_72 : decode k_Mod_boxed 72 = .ok (.goto 4, 3) := by decide +kernel
theorem d_Mod_boxed_75 : decode k_Mod_boxed 75 = .ok (.iconst 0, 1) := by decide +kernel
theorem d_Mod_boxed_76 : decode k_Mod_boxed 76 = .ok (.iload_n 1, 1) := by decide +kernel
theorem d_Mod_boxed_77 : decode k_Mod_boxed 77 = .ok (.iconst 2, 1) := by decide +kernel
theorem d_Mod_boxed_78 : decode k_Mod_boxed 78 = .ok (.if_icmp .ne 7, 3) := by decide +kernel
theorem d_Mod_boxed_81 : decode k_Mod_boxed 81 = .ok (.iconst 1, 1) := by decide +kernel
theorem d_Mod_boxed_82 : decode k_Mod_boxed 82 = .ok (.goto 4, 3) := by decide +kernel
theorem d_Mod_boxed_85 : decode k_Mod_boxed 85 = .ok (.iconst 0, 1) := by decide +kernel
theorem d_Mod_boxed_86 : decode k_Mod_boxed 86 = .ok (.if_icmp .eq 11, 3) := by decide +kernel
theorem d_Mod_boxed_89 : decode k_Mod_boxed 89 = .ok (.aload_n 0, 1) := by decide +kernel
theorem d_Mod_boxed_90 : decode k_Mod_boxed 90 = .ok (.iconst 4, 1) := by decide +kernel
theorem d_Mod_boxed_91 : decode k_Mod_boxed 91 = .ok (.invokevirtual 112, 3) := by decide +kernel
theorem d_Mod_boxed_94 : decode k_Mod_boxed 94 = .ok (.goto 24, 3) := by decide +kernel
theorem d_Mod_boxed_97 : decode k_Mod_boxed 97 = .ok (.iload_n 1, 1) := by decide +kernel
theorem d_Mod_boxed_98 : decode k_Mod_boxed 98 = .ok (.iconst 4, 1) := by decide +kernel
theorem d_Mod_boxed_99 : decode k_Mod_boxed 99 = .ok (.if_icmp .lt 19, 3) := by decide +kernel
theorem d_Mod_boxed_102 : decode k_Mod_boxed 102 = .ok (.iload 4, 2) := by decide +kernel
theorem d_Mod_boxed_104 : decode k_Mod_boxed 104 = .ok (.aload_n 0, 1) := by decide +kernel
theorem d_Mod_boxed_105 : decode k_Mod_boxed 105 = .ok (.getfield 41, 3) := by decide +kernel
theorem d_Mod_boxed_108 : decode k_Mod_boxed 108 = .ok (.iload_n 3, 1) := by decide +kernel
theorem d_Mod_boxed_109 : decode k_Mod_boxed 109 = .ok (.iaload, 1) := by decide +kernel
theorem d_Mod_boxed_110 : decode k_Mod_boxed 110 = .ok (.if_icmp .lt 8, 3) := by decide +kernel
theorem d_Mod_boxed_113 : decode k_Mod_boxed 113 = .ok (.aload_n 0, 1) := by decide +kernel
theorem d_Mod_boxed_114 : decode k_Mod_boxed 114 = .ok (.iconst 1, 1) := by decide +kernel
theorem d_Mod_boxed_115 : decode k_Mod_boxed 115 = .ok (.invokevirtual 112, 3) := by decide +kernel
theorem d_Mod_boxed_118 : decode k_Mod_boxed 118 = .ok (.iload_n 1, 1) := by decide +kernel
theorem d_Mod_boxed_119 : decode k_Mod_boxed 119 = .ok (.tableswitch 185 0 6 #[41, 59, 74, 87, 100, 144, 174], 41) := by decide +kernel
theorem d_Mod_boxed_160 : decode k_Mod_boxed 160 = .ok (.aload_n 0, 1) := by decide +kernel
theorem d_Mod_boxed_161 : decode k_Mod_boxed 161 = .ok (.getfield 41, 3) := by decide +kernel
theorem d_Mod_boxed_164 : decode k_Mod_boxed 164 = .ok (.iload_n 3, 1) := by decide +kernel
theorem d_Mod_boxed_165 : decode k_Mod_boxed 165 = .ok (.iconst (-1), 1) := by decide +kernel
theorem d_Mod_boxed_166 : decode k_Mod_boxed 166 = .ok (.iastore, 1) := by decide +kernel
theorem d_Mod_boxed_167 : decode k_Mod_boxed 167 = .ok (.aload_n 0, 1) := by decide +kernel
theorem d_Mod_boxed_168 : decode k_Mod_boxed 168 = .ok (.getfield 44, 3) := by decide +kernel
theorem d_Mod_boxed_171 : decode k_Mod_boxed 171 = .ok (.iload_n 3, 1) := by decide +kernel
theorem d_Mod_boxed_172 : decode k_Mod_boxed 172 = .ok (.iload 4, 2) := by decide +kernel
theorem d_Mod_boxed_174 : decode k_Mod_boxed 174 = .ok (.iastore, 1) := by decide +kernel
theorem d_Mod_boxed_175 : decode k_Mod_boxed 175 = .ok (.goto 135, 3) := by decide +kernel
theorem d_Mod_boxed_178 : decode k_Mod_boxed 178 = .ok (.aload_n 0, 1) := by decide +kernel
theorem d_Mod_boxed_179 : decode k_Mod_boxed 179 = .ok (.iload_n 3, 1) := by decide +kernel
theorem d_Mod_boxed_180 : decode k_Mod_boxed 180 = .ok (.iload 4, 2) := by decide +kernel
theorem d_Mod_boxed_182 : decode k_Mod_boxed 182 = .ok (.bipush 8, 2) := by decide +kernel
theorem d_Mod_boxed_184 : decode k_Mod_boxed 184 = .ok (.irem, 1) := by decide +kernel
theorem d_Mod_boxed_185 : decode k_Mod_boxed 185 = .ok (.iconst 2, 1) := by decide +kernel
theorem d_Mod_boxed_186 : decode k_Mod_boxed 186 = .ok (.isub, 1) := by decide +kernel
theorem d_Mod_boxed_187 : decode k_Mod_boxed 187 = .ok (.invokevirtual 130, 3) := by decide +kernel
theorem d_Mod_boxed_190 : decode k_Mod_boxed 190 = .ok (.goto 120, 3) := by decide +kernel
theorem d_Mod_boxed_193 : decode k_Mod_boxed 193 = .ok (.aload_n 0, 1) := by decide +kernel
theorem d_Mod_boxed_194 : decode k_Mod_boxed 194 = .ok (.aload_n 0, 1) := by decide +kernel
theorem d_Mod_boxed_195 : decode k_Mod_boxed 195 = .ok (.getfield 44, 3) := by decide +kernel
theorem d_Mod_boxed_198 : decode k_Mod_boxed 198 = .ok (.iload_n 3, 1) := by decide +kernel
theorem d_Mod_boxed_199 : decode k_Mod_boxed 199 = .ok (.iaload, 1) := by decide +kernel
theorem d_Mod_boxed_200 : decode k_Mod_boxed 200 = .ok (.invokevirtual 127, 3) := by decide +kernel
theorem d_Mod_boxed_203 : decode k_Mod_boxed 203 = .ok (.goto 107, 3) := by decide +kernel
theorem d_Mod_boxed_206 : decode k_Mod_boxed 206 = .ok (.aload_n 0, 1) := by decide +kernel
theorem d_Mod_boxed_207 : decode k_Mod_boxed 207 = .ok (.aload_n 0, 1) := by decide +kernel
theorem d_Mod_boxed_208 : decode k_Mod_boxed 208 = .ok (.getfield 41, 3) := by decide +kernel
theorem d_Mod_boxed_211 : decode k_Mod_boxed 211 = .ok (.iload_n 3, 1) := by decide +kernel
theorem d_Mod_boxed_212 : decode k_Mod_boxed 212 = .ok (.iaload, 1) := by decide +kernel
theorem d_Mod_boxed_213 : decode k_Mod_boxed 213 = .ok (.invokevirtual 127, 3) := by decide +kernel
theorem d_Mod_boxed_216 : decode k_Mod_boxed 216 = .ok (.goto 94, 3) := by decide +kernel
theorem d_Mod_boxed_219 : decode k_Mod_boxed 219 = .ok (.aload_n 0, 1) := by decide +kernel
theorem d_Mod_boxed_220 : decode k_Mod_boxed 220 = .ok (.getfield 103, 3) := by decide +kernel
theorem d_Mod_boxed_223 : decode k_Mod_boxed 223 = .ok (.ifCond .ne 87, 3) := by decide +kernel
theorem d_Mod_boxed_226 : decode k_Mod_boxed 226 = .ok (.aload_n 0, 1) := by decide +kernel
theorem d_Mod_boxed_227 : decode k_Mod_boxed 227 = .ok (.getfield 47, 3) := by decide +kernel
theorem d_Mod_boxed_230 : decode k_Mod_boxed 230 = .ok (.bipush 8, 2) := by decide +kernel
theorem d_Mod_boxed_232 : decode k_Mod_boxed 232 = .ok (.iload_n 3, 1) := by decide +kernel
theorem d_Mod_boxed_233 : decode k_Mod_boxed 233 = .ok (.imul, 1) := by decide +kernel
theorem d_Mod_boxed_234 : decode k_Mod_boxed 234 = .ok (.iload 4, 2) := by decide +kernel
theorem d_Mod_boxed_236 : decode k_Mod_boxed 236 = .ok (.iadd, 1) := by decide +kernel
theorem d_Mod_boxed_237 : decode k_Mod_boxed 237 = .ok (.aload_n 0, 1) := by decide +kernel
theorem d_Mod_boxed_238 : decode k_Mod_boxed 238 = .ok (.getfield 116, 3) := by decide +kernel
theorem d_Mod_boxed_241 : decode k_Mod_boxed 241 = .ok (.ifCond .ne 7, 3) := by decide +kernel
theorem d_Mod_boxed_244 : decode k_Mod_boxed 244 = .ok (.iconst 0, 1) := by decide +kernel
theorem d_Mod_boxed_245 : decode k_Mod_boxed 245 = .ok (.goto 14, 3) := by decide +kernel
theorem d_Mod_boxed_248 : decode k_Mod_boxed 248 = .ok (.aload_n 0, 1) := by decide +kernel
theorem d_Mod_boxed_249 : decode k_Mod_boxed 249 = .ok (.getfield 38, 3) := by decide +kernel
theorem d_Mod_boxed_252 : decode k_Mod_boxed 252 = .ok (.aload_n 0, 1) := by decide +kernel
theorem d_Mod_boxed_253 : decode k_Mod_boxed 253 = .ok (.getfield 116, 3) := by decide +kernel
theorem d_Mod_boxed_256 : decode k_Mod_boxed 256 = .ok (.iconst 1, 1) := by decide +kernel
theorem d_Mod_boxed_257 : decode k_Mod_boxed 257 = .ok (.isub, 1) := by decide +kernel
theorem d_Mod_boxed_258 : decode k_Mod_boxed 258 = .ok (.iaload, 1) := by decide +kernel
theorem d_Mod_boxed_259 : decode k_Mod_boxed 259 = .ok (.iastore, 1) := by decide +kernel
theorem d_Mod_boxed_260 : decode k_Mod_boxed 260 = .ok (.goto 50, 3) := by decide +kernel
theorem d_Mod_boxed_263 : decode k_Mod_boxed 263 = .ok (.aload_n 0, 1) := by decide +kernel
theorem d_Mod_boxed_264 : decode k_Mod_boxed 264 = .ok (.aload_n 0, 1) := by decide +kernel
theorem d_Mod_boxed_265 : decode k_Mod_boxed 265 = .ok (.getfield 103, 3) := by decide +kernel
theorem d_Mod_boxed_268 : decode k_Mod_boxed 268 = .ok (.ifCond .ne 18, 3) := by decide +kernel
theorem d_Mod_boxed_271 : decode k_Mod_boxed 271 = .ok (.aload_n 0, 1) := by decide +kernel
theorem d_Mod_boxed_272 : decode k_Mod_boxed 272 = .ok (.getfield 47, 3) := by decide +kernel
theorem d_Mod_boxed_275 : decode k_Mod_boxed 275 = .ok (.bipush 8, 2) := by decide +kernel
theorem d_Mod_boxed_277 : decode k_Mod_boxed 277 = .ok (.iload_n 3, 1) := by decide +kernel
theorem d_Mod_boxed_278 : decode k_Mod_boxed 278 = .ok (.imul, 1) := by decide +kernel
theorem d_Mod_boxed_279 : decode k_Mod_boxed 279 = .ok (.iload 4, 2) := by decide +kernel
theorem d_Mod_boxed_281 : decode k_Mod_boxed 281 = .ok (.iadd, 1) := by decide +kernel
theorem d_Mod_boxed_282 : decode k_Mod_boxed 282 = .ok (.iaload, 1) := by decide +kernel
theorem d_Mod_boxed_283 : decode k_Mod_boxed 283 = .ok (.goto 4, 3) := by decide +kernel
theorem d_Mod_boxed_286 : decode k_Mod_boxed 286 = .ok (.iconst 0, 1) := by decide +kernel
theorem d_Mod_boxed_287 : decode k_Mod_boxed 287 = .ok (.invokevirtual 127, 3) := by decide +kernel
theorem d_Mod_boxed_290 : decode k_Mod_boxed 290 = .ok (.goto 20, 3) := by decide +kernel
theorem d_Mod_boxed_293 : decode k_Mod_boxed 293 = .ok (.aload_n 0, 1) := by decide +kernel
theorem d_Mod_boxed_294 : decode k_Mod_boxed 294 = .ok (.getfield 41, 3) := by decide +kernel
theorem d_Mod_boxed_297 : decode k_Mod_boxed 297 = .ok (.iload_n 3, 1) := by decide +kernel
theorem d_Mod_boxed_298 : decode k_Mod_boxed 298 = .ok (.bipush (-2), 2) := by decide +kernel
theorem d_Mod_boxed_300 : decode k_Mod_boxed 300 = .ok (.iastore, 1) := by decide +kernel
theorem d_Mod_boxed_301 : decode k_Mod_boxed 301 = .ok (.goto 9, 3) := by decide +kernel
theorem d_Mod_boxed_304 : decode k_Mod_boxed 304 = .ok (.aload_n 0, 1) := by decide +kernel
theorem d_Mod_boxed_305 : decode k_Mod_boxed 305 = .ok (.bipush 6, 2) := by decide +kernel
theorem d_Mod_boxed_307 : decode k_Mod_boxed 307 = .ok (.invokevirtual 112, 3) := by decide +kernel
theorem d_Mod_boxed_310 : decode k_Mod_boxed 310 = .ok (.return_, 1) := by decide +kernel
theorem d_Mod_makeRow_0 : decode k_Mod_makeRow 0 = .ok (.iload_n 2, 1) := by decide +kernel
theorem d_Mod_makeRow_1 : decode k_Mod_makeRow 1 = .ok (.ifCond .ge 9, 3) := by decide +kernel
theorem d_Mod_makeRow_4 : decode k_Mod_makeRow 4 = .ok (.aload_n 0, 1) := by decide +kernel
theorem d_Mod_makeRow_5 : decode k_Mod_makeRow 5 = .ok (.iconst 5, 1) := by decide +kernel
theorem d_Mod_makeRow_6 : decode k_Mod_makeRow 6 = .ok (.invokevirtual 112, 3) := by decide +kernel
theorem d_Mod_makeRow_9 : decode k_Mod_makeRow 9 = .ok (.return_, 1) := by decide +kernel
theorem d_Mod_makeRow_10 : decode k_Mod_makeRow 10 = .ok (.aload_n 0, 1) := by decide +kernel
theorem d_Mod_makeRow_11 : decode k_Mod_makeRow 11 = .ok (.getfield 41, 3) := by decide +kernel
theorem d_Mod_makeRow_14 : decode k_Mod_makeRow 14 = .ok (.iload_n 1, 1) := by decide +kernel
theorem d_Mod_makeRow_15 : decode k_Mod_makeRow 15 = .ok (.iload_n 2, 1) := by decide +kernel
theorem d_Mod_makeRow_16 : decode k_Mod_makeRow 16 = .ok (.iastore, 1) := by decide +kernel
theorem d_Mod_makeRow_17 : decode k_Mod_makeRow 17 = .ok (.iconst 0, 1) := by decide +kernel
theorem d_Mod_makeRow_18 : decode k_Mod_makeRow 18 = .ok (.istore_n 3, 1) := by decide +kernel
theorem d_Mod_makeRow_19 : decode k_Mod_makeRow 19 = .ok (.iload_n 3, 1) := by decide +kernel
theorem d_Mod_makeRow_20 : decode k_Mod_makeRow 20 = .ok (.bipush 8, 2) := by decide +kernel
theorem d_Mod_makeRow_22 : decode k_Mod_makeRow 22 = .ok (.if_icmp .ge 21, 3) := by decide +kernel
theorem d_Mod_makeRow_25 : decode k_Mod_makeRow 25 = .ok (.aload_n 0, 1) := by decide +kernel
theorem d_Mod_makeRow_26 : decode k_Mod_makeRow 26 = .ok (.getfield 47, 3) := by decide +kernel
theorem d_Mod_makeRow_29 : decode k_Mod_makeRow 29 = .ok (.bipush 8, 2) := by decide +kernel
theorem d_Mod_makeRow_31 : decode k_Mod_makeRow 31 = .ok (.iload_n 1, 1) := by decide +kernel
theorem d_Mod_makeRow_32 : decode k_Mod_makeRow 32 = .ok (.imul, 1) := by decide +kernel
theorem d_Mod_makeRow_33 : decode k_Mod_makeRow 33 = .ok (.iload_n 3, 1) := by decide +kernel
theorem d_Mod_makeRow_34 : decode k_Mod_makeRow 34 = .ok (.iadd, 1) := by decide +kernel
theorem d_Mod_makeRow_35 : decode k_Mod_makeRow 35 = .ok (.iconst 0, 1) := by decide +kernel
theorem d_Mod_makeRow_36 : decode k_Mod_makeRow 36 = .ok (.iastore, 1) := by decide +kernel
theorem d_Mod_makeRow_37 : decode k_Mod_makeRow 37 = .ok (.iinc 3 1, 3) := by decide +kernel
theorem d_Mod_makeRow_40 : decode k_Mod_makeRow 40 = .ok (.goto (-21), 3) := by decide +kernel
theorem d_Mod_makeRow_43 : decode k_Mod_makeRow 43 = .ok (.return_, 1) := by decide +kernel
theorem d_Mod_differing_0 : decode k_Mod_differing 0 = .ok (.aload_n 0, 1) := by decide +kernel
theorem d_Mod_differing_1 : decode k_Mod_differing 1 = .ok (.invokevirtual 119, 3) := by decide +kernel
theorem d_Mod_differing_4 : decode k_Mod_differing 4 = .ok (.istore_n 1, 1) := by decide +kernel
theorem d_Mod_differing_5 : decode k_Mod_differing 5 = .ok (.aload_n 0, 1) := by decide +kernel
theorem d_Mod_differing_6 : decode k_Mod_differing 6 = .ok (.getfield 116, 3) := by decide +kernel
theorem d_Mod_differing_9 : decode k_Mod_differing 9 = .ok (.ifCond .ne 7, 3) := by decide +kernel
theorem d_Mod_differing_12 : decode k_Mod_differing 12 = .ok (.iload_n 1, 1) := by decide +kernel
theorem d_Mod_differing_13 : decode k_Mod_differing 13 = .ok (.goto 30, 3) := by decide +kernel
theorem d_Mod_differing_16 : decode k_Mod_differing 16 = .ok (.aload_n 0, 1) := by decide +kernel
theorem d_Mod_differing_17 : decode k_Mod_differing 17 = .ok (.getfield 38, 3) := by decide +kernel
theorem d_Mod_differing_20 : decode k_Mod_differing 20 = .ok (.aload_n 0, 1) := by decide +kernel
theorem d_Mod_differing_21 : decode k_Mod_differing 21 = .ok (.getfield 116, 3) := by decide +kernel
theorem d_Mod_differing_24 : decode k_Mod_differing 24 = .ok (.iconst 1, 1) := by decide +kernel
theorem d_Mod_differing_25 : decode k_Mod_differing 25 = .ok (.isub, 1) := by decide +kernel
theorem d_Mod_differing_26 : decode k_Mod_differing 26 = .ok (.iaload, 1) := by decide +kernel
theorem d_Mod_differing_27 : decode k_Mod_differing 27 = .ok (.iload_n 1, 1) := by decide +kernel
theorem d_Mod_differing_28 : decode k_Mod_differing 28 = .ok (.bipush 127, 2) := by decide +kernel
theorem d_Mod_differing_30 : decode k_Mod_differing 30 = .ok (.if_icmp .le 11, 3) := by decide +kernel
theorem d_Mod_differing_33 : decode k_Mod_differing 33 = .ok (.iload_n 1, 1) := by decide +kernel
theorem d_Mod_differing_34 : decode k_Mod_differing 34 = .ok (.sipush 256, 3) := by decide +kernel
theorem d_Mod_differing_37 : decode k_Mod_differing 37 = .ok (.isub, 1) := by decide +kernel
theorem d_Mod_differing_38 : decode k_Mod_differing 38 = .ok (.goto 4, 3) := by decide +kernel
theorem d_Mod_differing_41 : decode k_Mod_differing 41 = .ok (.iload_n 1, 1) := by decide +kernel
theorem d_Mod_differing_42 : decode k_Mod_differing 42 = .ok (.iadd, 1) := by decide +kernel
theorem d_Mod_differing_43 : decode k_Mod_differing 43 = .ok (.istore_n 2, 1) := by decide +kernel
theorem d_Mod_differing_44 : decode k_Mod_differing 44 = .ok (.iload_n 2, 1) := by decide +kernel
theorem d_Mod_differing_45 : decode k_Mod_differing 45 = .ok (.ifCond .lt 10, 3) := by decide +kernel
theorem d_Mod_differing_48 : decode k_Mod_differing 48 = .ok (.iload_n 2, 1) := by decide +kernel
theorem d_Mod_differing_49 : decode k_Mod_differing 49 = .ok (.sipush 255, 3) := by decide +kernel
theorem d_Mod_differing_52 : decode k_Mod_differing 52 = .ok (.if_icmp .le 9, 3) := by decide +kernel
theorem d_Mod_differing_55 : decode k_Mod_differing 55 = .ok (.aload_n 0, 1) := by decide +kernel
theorem d_Mod_differing_56 : decode k_Mod_differing 56 = .ok (.bipush 6, 2) := by decide +kernel
theorem d_Mod_differing_58 : decode k_Mod_differing 58 = .ok (.invokevirtual 112, 3) := by decide +kernel
theorem d_Mod_differing_61 : decode k_Mod_differing 61 = .ok (.aload_n 0, 1) := by decide +kernel
theorem d_Mod_differing_62 : decode k_Mod_differing 62 = .ok (.iload_n 2, 1) := by decide +kernel
theorem d_Mod_differing_63 : decode k_Mod_differing 63 = .ok (.invokevirtual 127, 3) := by decide +kernel
theorem d_Mod_differing_66 : decode k_Mod_differing 66 = .ok (.return_, 1) := by decide +kernel
theorem d_Mod_open_0 : decode k_Mod_open 0 = .ok (.aload_n 0, 1) := by decide +kernel
theorem d_Mod_open_1 : decode k_Mod_open 1 = .ok (.aload_n 0, 1) := by decide +kernel
theorem d_Mod_open_2 : decode k_Mod_open 2 = .ok (.getfield 13, 3) := by decide +kernel
theorem d_Mod_open_5 : decode k_Mod_open 5 = .ok (.iload_n 1, 1) := by decide +kernel
theorem d_Mod_open_6 : decode k_Mod_open 6 = .ok (.iaload, 1) := by decide +kernel
theorem d_Mod_open_7 : decode k_Mod_open 7 = .ok (.bipush 6, 2) := by decide +kernel
theorem d_Mod_open_9 : decode k_Mod_open 9 = .ok (.iadd, 1) := by decide +kernel
theorem d_Mod_open_10 : decode k_Mod_open 10 = .ok (.putfield 106, 3) := by decide +kernel
theorem d_Mod_open_13 : decode k_Mod_open 13 = .ok (.aload_n 0, 1) := by decide +kernel
theorem d_Mod_open_14 : decode k_Mod_open 14 = .ok (.aload_n 0, 1) := by decide +kernel
theorem d_Mod_open_15 : decode k_Mod_open 15 = .ok (.getfield 106, 3) := by decide +kernel
theorem d_Mod_open_18 : decode k_Mod_open 18 = .ok (.aload_n 0, 1) := by decide +kernel
theorem d_Mod_open_19 : decode k_Mod_open 19 = .ok (.getfield 22, 3) := by decide +kernel
theorem d_Mod_open_22 : decode k_Mod_open 22 = .ok (.iload_n 1, 1) := by decide +kernel
theorem d_Mod_open_23 : decode k_Mod_open 23 = .ok (.iaload, 1) := by decide +kernel
theorem d_Mod_open_24 : decode k_Mod_open 24 = .ok (.iadd, 1) := by decide +kernel
theorem d_Mod_open_25 : decode k_Mod_open 25 = .ok (.putfield 109, 3) := by decide +kernel
theorem d_Mod_open_28 : decode k_Mod_open 28 = .ok (.aload_n 0, 1) := by decide +kernel
theorem d_Mod_open_29 : decode k_Mod_open 29 = .ok (.iconst 0, 1) := by decide +kernel
theorem d_Mod_open_30 : decode k_Mod_open 30 = .ok (.putfield 116, 3) := by decide +kernel
theorem d_Mod_open_33 : decode k_Mod_open 33 = .ok (.aload_n 0, 1) := by decide +kernel
theorem d_Mod_open_34 : decode k_Mod_open 34 = .ok (.iconst 0, 1) := by decide +kernel
theorem d_Mod_open_35 : decode k_Mod_open 35 = .ok (.putfield 103, 3) := by decide +kernel
theorem d_Mod_open_38 : decode k_Mod_open 38 = .ok (.iconst 0, 1) := by decide +kernel
theorem d_Mod_open_39 : decode k_Mod_open 39 = .ok (.istore_n 2, 1) := by decide +kernel
theorem d_Mod_open_40 : decode k_Mod_open 40 = .ok (.iload_n 2, 1) := by decide +kernel
theorem d_Mod_open_41 : decode k_Mod_open 41 = .ok (.bipush 8, 2) := by decide +kernel
theorem d_Mod_open_43 : decode k_Mod_open 43 = .ok (.if_icmp .ge 17, 3) := by decide +kernel
theorem d_Mod_open_46 : decode k_Mod_open 46 = .ok (.aload_n 0, 1) := by decide +kernel
theorem d_Mod_open_47 : decode k_Mod_open 47 = .ok (.getfield 41, 3) := by decide +kernel
theorem d_Mod_open_50 : decode k_Mod_open 50 = .ok (.iload_n 2, 1) := by decide +kernel
theorem d_Mod_open_51 : decode k_Mod_open 51 = .ok (.bipush (-2), 2) := by decide +kernel
theorem d_Mod_open_53 : decode k_Mod_open 53 = .ok (.iastore, 1) := by decide +kernel
theorem d_Mod_open_54 : decode k_Mod_open 54 = .ok (.iinc 2 1, 3) := by decide +kernel
theorem d_Mod_open_57 : decode k_Mod_open 57 = .ok (.goto (-17), 3) := by decide +kernel
theorem d_Mod_open_60 : decode k_Mod_open 60 = .ok (.aload_n 0, 1) := by decide +kernel
theorem d_Mod_open_61 : decode k_Mod_open 61 = .ok (.invokevirtual 123, 3) := by decide +kernel
theorem d_Mod_open_64 : decode k_Mod_open 64 = .ok (.ifCond .eq 79, 3) := by decide +kernel
theorem d_Mod_open_67 : decode k_Mod_open 67 = .ok (.aload_n 0, 1) := by decide +kernel
theorem d_Mod_open_68 : decode k_Mod_open 68 = .ok (.getfield 19, 3) := by decide +kernel
theorem d_Mod_open_71 : decode k_Mod_open 71 = .ok (.iload_n 1, 1) := by decide +kernel
theorem d_Mod_open_72 : decode k_Mod_open 72 = .ok (.iaload, 1) := by decide +kernel
theorem d_Mod_open_73 : decode k_Mod_open 73 = .ok (.tableswitch 63 0 3 #[31, 42, 49, 56], 31) := by decide +kernel
theorem d_Mod_open_104 : decode k_Mod_open 104 = .ok (.aload_n 0, 1) := by decide +kernel
theorem d_Mod_open_105 : decode k_Mod_open 105 = .ok (.aload_n 0, 1) := by decide +kernel
theorem d_Mod_open_106 : decode k_Mod_open 106 = .ok (.invokevirtual 119, 3) := by decide +kernel
theorem d_Mod_open_109 : decode k_Mod_open 109 = .ok (.invokevirtual 127, 3) := by decide +kernel
theorem d_Mod_open_112 : decode k_Mod_open 112 = .ok (.goto (-52), 3) := by decide +kernel
theorem d_Mod_open_115 : decode k_Mod_open 115 = .ok (.aload_n 0, 1) := by decide +kernel
theorem d_Mod_open_116 : decode k_Mod_open 116 = .ok (.invokevirtual 134, 3) := by decide +kernel
theorem d_Mod_open_119 : decode k_Mod_open 119 = .ok (.goto (-59), 3) := by decide +kernel
theorem d_Mod_open_122 : decode k_Mod_open 122 = .ok (.aload_n 0, 1) := by decide +kernel
theorem d_Mod_open_123 : decode k_Mod_open 123 = .ok (.invokevirtual 137, 3) := by decide +kernel
theorem d_Mod_open_126 : decode k_Mod_open 126 = .ok (.goto (-66), 3) := by decide +kernel
theorem d_Mod_open_129 : decode k_Mod_open 129 = .ok (.aload_n 0, 1) := by decide +kernel
theorem d_Mod_open_130 : decode k_Mod_open 130 = .ok (.invokevirtual 140, 3) := by decide +kernel
theorem d_Mod_open_133 : decode k_Mod_open 133 = .ok (.goto (-73), 3) := by decide +kernel
theorem d_Mod_open_136 : decode k_Mod_open 136 = .ok (.aload_n 0, 1) := by decide +kernel
theorem d_Mod_open_137 : decode k_Mod_open 137 = .ok (.invokevirtual 143, 3) := by decide +kernel
theorem d_Mod_open_140 : decode k_Mod_open 140 = .ok (.goto (-80), 3) := by decide +kernel
theorem d_Mod_open_143 : decode k_Mod_open 143 = .ok (.aload_n 0, 1) := by decide +kernel
theorem d_Mod_open_144 : decode k_Mod_open 144 = .ok (.dup, 1) := by decide +kernel
theorem d_Mod_open_145 : decode k_Mod_open 145 = .ok (.getfield 146, 3) := by decide +kernel
theorem d_Mod_open_148 : decode k_Mod_open 148 = .ok (.iconst 1, 1) := by decide +kernel
theorem d_Mod_open_149 : decode k_Mod_open 149 = .ok (.iadd, 1) := by decide +kernel
theorem d_Mod_open_150 : decode k_Mod_open 150 = .ok (.putfield 146, 3) := by decide +kernel
theorem d_Mod_open_153 : decode k_Mod_open 153 = .ok (.aload_n 0, 1) := by decide +kernel
theorem d_Mod_open_154 : decode k_Mod_open 154 = .ok (.aload_n 0, 1) := by decide +kernel
theorem d_Mod_open_155 : decode k_Mod_open 155 = .ok (.getfield 103, 3) := by decide +kernel
theorem d_Mod_open_158 : decode k_Mod_open 158 = .ok (.ifCond .le 12, 3) := by decide +kernel
theorem d_Mod_open_161 : decode k_Mod_open 161 = .ok (.aload_n 0, 1) := by decide +kernel
theorem d_Mod_open_162 : decode k_Mod_open 162 = .ok (.getfield 149, 3) := by decide +kernel
theorem d_Mod_open_165 : decode k_Mod_open 165 = .ok (.iconst 1, 1) := by decide +kernel
theorem d_Mod_open_166 : decode k_Mod_open 166 = .ok (.iadd, 1) := by decide +kernel
theorem d_Mod_open_167 : decode k_Mod_open 167 = .ok (.goto 7, 3) := by decide +kernel
theorem d_Mod_open_170 : decode k_Mod_open 170 = .ok (.aload_n 0, 1) := by decide +kernel
theorem d_Mod_open_171 : decode k_Mod_open 171 = .ok (.getfield 149, 3) := by decide +kernel
theorem d_Mod_open_174 : decode k_Mod_open 174 = .ok (.putfield 149, 3) := by decide +kernel
theorem d_Mod_open_177 : decode k_Mod_open 177 = .ok (.aload_n 0, 1) := by decide +kernel
theorem d_Mod_open_178 : decode k_Mod_open 178 = .ok (.getfield 29, 3) := by decide +kernel
theorem d_Mod_open_181 : decode k_Mod_open 181 = .ok (.iload_n 1, 1) := by decide +kernel
theorem d_Mod_open_182 : decode k_Mod_open 182 = .ok (.aload_n 0, 1) := by decide +kernel
theorem d_Mod_open_183 : decode k_Mod_open 183 = .ok (.getfield 103, 3) := by decide +kernel
theorem d_Mod_open_186 : decode k_Mod_open 186 = .ok (.iastore, 1) := by decide +kernel
theorem d_Mod_open_187 : decode k_Mod_open 187 = .ok (.iconst 0, 1) := by decide +kernel
theorem d_Mod_open_188 : decode k_Mod_open 188 = .ok (.istore_n 2, 1) := by decide +kernel
theorem d_Mod_open_189 : decode k_Mod_open 189 = .ok (.iload_n 2, 1) := by decide +kernel
theorem d_Mod_open_190 : decode k_Mod_open 190 = .ok (.bipush 16, 2) := by decide +kernel
theorem d_Mod_open_192 : decode k_Mod_open 192 = .ok (.if_icmp .ge 79, 3) := by decide +kernel
theorem d_Mod_open_195 : decode k_Mod_open 195 = .ok (.aload_n 0, 1) := by decide +kernel
theorem d_Mod_open_196 : decode k_Mod_open 196 = .ok (.getfield 103, 3) := by decide +kernel
theorem d_Mod_open_199 : decode k_Mod_open 199 = .ok (.ifCond .ne 72, 3) := by decide +kernel
theorem d_Mod_open_202 : decode k_Mod_open 202 = .ok (.bipush 16, 2) := by decide +kernel
theorem d_Mod_open_204 : decode k_Mod_open 204 = .ok (.aload_n 0, 1) := by decide +kernel
theorem d_Mod_open_205 : decode k_Mod_open 205 = .ok (.getfield 16, 3) := by decide +kernel
theorem d_Mod_open_208 : decode k_Mod_open 208 = .ok (.iload_n 1, 1) := by decide +kernel
theorem d_Mod_open_209 : decode k_Mod_open 209 = .ok (.iaload, 1) := by decide +kernel
theorem d_Mod_open_210 : decode k_Mod_open 210 = .ok (.imul, 1) := by decide +kernel
theorem d_Mod_open_211 : decode k_Mod_open 211 = .ok (.iload_n 2, 1) := by decide +kernel
theorem d_Mod_open_212 : decode k_Mod_open 212 = .ok (.iadd, 1) := by decide +kernel
theorem d_Mod_open_213 : decode k_Mod_open 213 = .ok (.istore_n 3, 1) := by decide +kernel
theorem d_Mod_open_214 : decode k_Mod_open 214 = .ok (.aload_n 0, 1) := by decide +kernel
theorem d_Mod_open_215 : decode k_Mod_open 215 = .ok (.getfield 25, 3) := by decide +kernel
theorem d_Mod_open_218 : decode k_Mod_open 218 = .ok (.iload_n 1, 1) := by decide +kernel
theorem d_Mod_open_219 : decode k_Mod_open 219 = .ok (.baload, 1) := by decide +kernel
theorem d_Mod_open_220 : decode k_Mod_open 220 = .ok (.ifCond .eq 13, 3) := by decide +kernel
theorem d_Mod_open_223 : decode k_Mod_open 223 = .ok (.aload_n 0, 1) := by decide +kernel
theorem d_Mod_open_224 : decode k_Mod_open 224 = .ok (.getfield 35, 3) := by decide +kernel
theorem d_Mod_open_227 : decode k_Mod_open 227 = .ok (.iload_n 3, 1) := by decide +kernel
theorem d_Mod_open_228 : decode k_Mod_open 228 = .ok (.iaload, 1) := by decide +kernel
theorem d_Mod_open_229 : decode k_Mod_open 229 = .ok (.iconst 1, 1) := by decide +kernel
theorem d_Mod_open_230 : decode k_Mod_open 230 = .ok (.if_icmp .eq 35, 3) := by decide +kernel
theorem d_Mod_open_233 : decode k_Mod_open 233 = .ok (.aload_n 0, 1) := by decide +kernel
theorem d_Mod_open_234 : decode k_Mod_open 234 = .ok (.getfield 32, 3) := by decide +kernel
theorem d_Mod_open_237 : decode k_Mod_open 237 = .ok (.iload_n 3, 1) := by decide +kernel
theorem d_Mod_open_238 : decode k_Mod_open 238 = .ok (.aload_n 0, 1) := by decide +kernel
theorem d_Mod_open_239 : decode k_Mod_open 239 = .ok (.getfield 38, 3) := by decide +kernel
theorem d_Mod_open_242 : decode k_Mod_open 242 = .ok (.iload_n 2, 1) := by decide +kernel
theorem d_Mod_open_243 : decode k_Mod_open 243 = .ok (.iaload, 1) := by decide +kernel
theorem d_Mod_open_244 : decode k_Mod_open 244 = .ok (.iastore, 1) := by decide +kernel
theorem d_Mod_open_245 : decode k_Mod_open 245 = .ok (.aload_n 0, 1) := by decide +kernel
theorem d_Mod_open_246 : decode k_Mod_open 246 = .ok (.getfield 35, 3) := by decide +kernel
theorem d_Mod_open_249 : decode k_Mod_open 249 = .ok (.iload_n 3, 1) := by decide +kernel
theorem d_Mod_open_250 : decode k_Mod_open 250 = .ok (.aload_n 0, 1) := by decide +kernel
theorem d_Mod_open_251 : decode k_Mod_open 251 = .ok (.getfield 25, 3) := by decide +kernel
theorem d_Mod_open_254 : decode k_Mod_open 254 = .ok (.iload_n 1, 1) := by decide +kernel
theorem d_Mod_open_255 : decode k_Mod_open 255 = .ok (.baload, 1) := by decide +kernel
theorem d_Mod_open_256 : decode k_Mod_open 256 = .ok (.ifCond .eq 7, 3) := by decide +kernel
theorem d_Mod_open_259 : decode k_Mod_open 259 = .ok (.iconst 2, 1) := by decide +kernel
theorem d_Mod_open_260 : decode k_Mod_open 260 = .ok (.goto 4, 3) := by decide +kernel
theorem d_Mod_open_263 : decode k_Mod_open 263 = .ok (.iconst 1, 1) := by decide +kernel
theorem d_Mod_open_264 : decode k_Mod_open 264 = .ok (.iastore, 1) := by decide +kernel
theorem d_Mod_open_265 : decode k_Mod_open 265 = .ok (.iinc 2 1, 3) := by decide +kernel
theorem d_Mod_open_268 : decode k_Mod_open 268 = .ok (.goto (-79), 3) := by decide +kernel
theorem d_Mod_open_271 : decode k_Mod_open 271 = .ok (.aload_n 0, 1) := by decide +kernel
theorem d_Mod_open_272 : decode k_Mod_open 272 = .ok (.getfield 103, 3) := by decide +kernel
theorem d_Mod_open_275 : decode k_Mod_open 275 = .ok (.ireturn, 1) := by decide +kernel
theorem d_Mod_decode_0 : decode k_Mod_decode 0 = .ok (.aload_n 0, 1) := by decide +kernel
theorem d_Mod_decode_1 : decode k_Mod_decode 1 = .ok (.aload_n 0, 1) := by decide +kernel
theorem d_Mod_decode_2 : decode k_Mod_decode 2 = .ok (.iload_n 1, 1) := by decide +kernel
theorem d_Mod_decode_3 : decode k_Mod_decode 3 = .ok (.invokevirtual 100, 3) := by decide +kernel
theorem d_Mod_decode_6 : decode k_Mod_decode 6 = .ok (.putfield 58, 3) := by decide +kernel
theorem d_Mod_decode_9 : decode k_Mod_decode 9 = .ok (.aload_n 0, 1) := by decide +kernel
theorem d_Mod_decode_10 : decode k_Mod_decode 10 = .ok (.getfield 58, 3) := by decide +kernel
theorem d_Mod_decode_13 : decode k_Mod_decode 13 = .ok (.ifCond .le 7, 3) := by decide +kernel
theorem d_Mod_decode_16 : decode k_Mod_decode 16 = .ok (.iconst 0, 1) := by decide +kernel
theorem d_Mod_decode_17 : decode k_Mod_decode 17 = .ok (.goto 8, 3) := by decide +kernel
theorem d_Mod_decode_20 : decode k_Mod_decode 20 = .ok (.aload_n 0, 1) := by decide +kernel
theorem d_Mod_decode_21 : decode k_Mod_decode 21 = .ok (.iload_n 1, 1) := by decide +kernel
theorem d_Mod_decode_22 : decode k_Mod_decode 22 = .ok (.invokevirtual 152, 3) := by decide +kernel
theorem d_Mod_decode_25 : decode k_Mod_decode 25 = .ok (.ireturn, 1) := by decide +kernel
theorem d_Mod_decodeAll_0 : decode k_Mod_decodeAll 0 = .ok (.aload_n 0, 1) := by decide +kernel
theorem d_Mod_decodeAll_1 : decode k_Mod_decodeAll 1 = .ok (.aload_n 0, 1) := by decide +kernel
theorem d_Mod_decodeAll_2 : decode k_Mod_decodeAll 2 = .ok (.getfield 61, 3) := by decide +kernel
theorem d_Mod_decodeAll_5 : decode k_Mod_decodeAll 5 = .ok (.ifCond .eq 7, 3) := by decide +kernel
theorem d_Mod_decodeAll_8 : decode k_Mod_decodeAll 8 = .ok (.iconst 0, 1) := by decide +kernel
theorem d_Mod_decodeAll_9 : decode k_Mod_decodeAll 9 = .ok (.goto 4, 3) := by decide +kernel
theorem d_Mod_decodeAll_12 : decode k_Mod_decodeAll 12 = .ok (.iconst 1, 1) := by decide +kernel
theorem d_Mod_decodeAll_13 : decode k_Mod_decodeAll 13 = .ok (.putfield 58, 3) := by decide +kernel
theorem d_Mod_decodeAll_16 : decode k_Mod_decodeAll 16 = .ok (.iconst 0, 1) := by decide +kernel
theorem d_Mod_decodeAll_17 : decode k_Mod_decodeAll 17 = .ok (.istore_n 1, 1) := by decide +kernel
theorem d_Mod_decodeAll_18 : decode k_Mod_decodeAll 18 = .ok (.iconst 0, 1) := by decide +kernel
theorem d_Mod_decodeAll_19 : decode k_Mod_decodeAll 19 = .ok (.istore_n 2, 1) := by decide +kernel
theorem d_Mod_decodeAll_20 : decode k_Mod_decodeAll 20 = .ok (.iload_n 2, 1) := by decide +kernel
theorem d_Mod_decodeAll_21 : decode k_Mod_decodeAll 21 = .ok (.aload_n 0, 1) := by decide +kernel
theorem d_Mod_decodeAll_22 : decode k_Mod_decodeAll 22 = .ok (.getfield 65, 3) := by decide +kernel
theorem d_Mod_decodeAll_25 : decode k_Mod_decodeAll 25 = .ok (.if_icmp .ge 32, 3) := by decide +kernel
theorem d_Mod_decodeAll_28 : decode k_Mod_decodeAll 28 = .ok (.aload_n 0, 1) := by decide +kernel
theorem d_Mod_decodeAll_29 : decode k_Mod_decodeAll 29 = .ok (.getfield 58, 3) := by decide +kernel
theorem d_Mod_decodeAll_32 : decode k_Mod_decodeAll 32 = .ok (.ifCond .ne 25, 3) := by decide +kernel
theorem d_Mod_decodeAll_35 : decode k_Mod_decodeAll 35 = .ok (.aload_n 0, 1) := by decide +kernel
theorem d_Mod_decodeAll_36 : decode k_Mod_decodeAll 36 = .ok (.iload_n 2, 1) := by decide +kernel
theorem d_Mod_decodeAll_37 : decode k_Mod_decodeAll 37 = .ok (.invokevirtual 152, 3) := by decide +kernel
theorem d_Mod_decodeAll_40 : decode k_Mod_decodeAll 40 = .ok (.ifCond .le 9, 3) := by decide +kernel
theorem d_Mod_decodeAll_43 : decode k_Mod_decodeAll 43 = .ok (.iload_n 1, 1) := by decide +kernel
theorem d_Mod_decodeAll_44 : decode k_Mod_decodeAll 44 = .ok (.iconst 1, 1) := by decide +kernel
theorem d_Mod_decodeAll_45 : decode k_Mod_decodeAll 45 = .ok (.iadd, 1) := by decide +kernel
theorem d_Mod_decodeAll_46 : decode k_Mod_decodeAll 46 = .ok (.goto 4, 3) := by decide +kernel
theorem d_Mod_decodeAll_49 : decode k_Mod_decodeAll 49 = .ok (.iload_n 1, 1) := by decide +kernel
theorem d_Mod_decodeAll_50 : decode k_Mod_decodeAll 50 = .ok (.istore_n 1, 1) := by decide +kernel
theorem d_Mod_decodeAll_51 : decode k_Mod_decodeAll 51 = .ok (.iinc 2 1, 3) := by decide +kernel
theorem d_Mod_decodeAll_54 : decode k_Mod_decodeAll 54 = .ok (.goto (-34), 3) := by decide +kernel
theorem d_Mod_decodeAll_57 : decode k_Mod_decodeAll 57 = .ok (.iload_n 1, 1) := by decide +kernel
theorem d_Mod_decodeAll_58 : decode k_Mod_decodeAll 58 = .ok (.ireturn, 1) := by decide +kernel
theorem d_Mod_at_0 : decode k_Mod_at 0 = .ok (.aload_n 0, 1) := by decide +kernel
theorem d_Mod_at_1 : decode k_Mod_at 1 = .ok (.iload_n 1, 1) := by decide +kernel
theorem d_Mod_at_2 : decode k_Mod_at 2 = .ok (.ifCond .lt 14, 3) := by decide +kernel
theorem d_Mod_at_5 : decode k_Mod_at 5 = .ok (.iload_n 1, 1) := by decide +kernel
theorem d_Mod_at_6 : decode k_Mod_at 6 = .ok (.sipush 256, 3) := by decide +kernel
theorem d_Mod_at_9 : decode k_Mod_at 9 = .ok (.if_icmp .ge 7, 3) := by decide +kernel
theorem d_Mod_at_12 : decode k_Mod_at 12 = .ok (.iconst 0, 1) := by decide +kernel
theorem d_Mod_at_13 : decode k_Mod_at 13 = .ok (.goto 4, 3) := by decide +kernel
theorem d_Mod_at_16 : decode k_Mod_at 16 = .ok (.iconst 1, 1) := by decide +kernel
theorem d_Mod_at_17 : decode k_Mod_at 17 = .ok (.putfield 58, 3) := by decide +kernel
theorem d_Mod_at_20 : decode k_Mod_at 20 = .ok (.aload_n 0, 1) := by decide +kernel
theorem d_Mod_at_21 : decode k_Mod_at 21 = .ok (.getfield 58, 3) := by decide +kernel
theorem d_Mod_at_24 : decode k_Mod_at 24 = .ok (.ifCond .le 7, 3) := by decide +kernel
theorem d_Mod_at_27 : decode k_Mod_at 27 = .ok (.iconst 0, 1) := by decide +kernel
theorem d_Mod_at_28 : decode k_Mod_at 28 = .ok (.goto 22, 3) := by decide +kernel
theorem d_Mod_at_31 : decode k_Mod_at 31 = .ok (.aload_n 0, 1) := by decide +kernel
theorem d_Mod_at_32 : decode k_Mod_at 32 = .ok (.getfield 35, 3) := by decide +kernel
theorem d_Mod_at_35 : decode k_Mod_at 35 = .ok (.iload_n 1, 1) := by decide +kernel
theorem d_Mod_at_36 : decode k_Mod_at 36 = .ok (.iaload, 1) := by decide +kernel
theorem d_Mod_at_37 : decode k_Mod_at 37 = .ok (.ifCond .ne 7, 3) := by decide +kernel
theorem d_Mod_at_40 : decode k_Mod_at 40 = .ok (.iconst (-1), 1) := by decide +kernel
theorem d_Mod_at_41 : decode k_Mod_at 41 = .ok (.goto 9, 3) := by decide +kernel
theorem d_Mod_at_44 : decode k_Mod_at 44 = .ok (.aload_n 0, 1) := by decide +kernel
theorem d_Mod_at_45 : decode k_Mod_at 45 = .ok (.getfield 32, 3) := by decide +kernel
theorem d_Mod_at_48 : decode k_Mod_at 48 = .ok (.iload_n 1, 1) := by decide +kernel
theorem d_Mod_at_49 : decode k_Mod_at 49 = .ok (.iaload, 1) := by decide +kernel
theorem d_Mod_at_50 : decode k_Mod_at 50 = .ok (.ireturn, 1) := by decide +kernel
theorem d_Mod_state_0 : decode k_Mod_state 0 = .ok (.aload_n 0, 1) := by decide +kernel
theorem d_Mod_state_1 : decode k_Mod_state 1 = .ok (.iload_n 1, 1) := by decide +kernel
theorem d_Mod_state_2 : decode k_Mod_state 2 = .ok (.ifCond .lt 14, 3) := by decide +kernel
theorem d_Mod_state_5 : decode k_Mod_state 5 = .ok (.iload_n 1, 1) := by decide +kernel
theorem d_Mod_state_6 : decode k_Mod_state 6 = .ok (.sipush 256, 3) := by decide +kernel
theorem d_Mod_state_9 : decode k_Mod_state 9 = .ok (.if_icmp .ge 7, 3) := by decide +kernel
theorem d_Mod_state_12 : decode k_Mod_state 12 = .ok (.iconst 0, 1) := by decide +kernel
theorem d_Mod_state_13 : decode k_Mod_state 13 = .ok (.goto 4, 3) := by decide +kernel
theorem d_Mod_state_16 : decode k_Mod_state 16 = .ok (.iconst 1, 1) := by decide +kernel
theorem d_Mod_state_17 : decode k_Mod_state 17 = .ok (.putfield 58, 3) := by decide +kernel
theorem d_Mod_state_20 : decode k_Mod_state 20 = .ok (.aload_n 0, 1) := by decide +kernel
theorem d_Mod_state_21 : decode k_Mod_state 21 = .ok (.getfield 58, 3) := by decide +kernel
theorem d_Mod_state_24 : decode k_Mod_state 24 = .ok (.ifCond .le 7, 3) := by decide +kernel
theorem d_Mod_state_27 : decode k_Mod_state 27 = .ok (.iconst 0, 1) := by decide +kernel
theorem d_Mod_state_28 : decode k_Mod_state 28 = .ok (.goto 9, 3) := by decide +kernel
theorem d_Mod_state_31 : decode k_Mod_state 31 = .ok (.aload_n 0, 1) := by decide +kernel
theorem d_Mod_state_32 : decode k_Mod_state 32 = .ok (.getfield 35, 3) := by decide +kernel
theorem d_Mod_state_35 : decode k_Mod_state 35 = .ok (.iload_n 1, 1) := by decide +kernel
theorem d_Mod_state_36 : decode k_Mod_state 36 = .ok (.iaload, 1) := by decide +kernel
theorem d_Mod_state_37 : decode k_Mod_state 37 = .ok (.ireturn, 1) := by decide +kernel
theorem d_Mod_meant_0 : decode k_Mod_meant 0 = .ok (.iload_n 1, 1) := by decide +kernel
theorem d_Mod_meant_1 : decode k_Mod_meant 1 = .ok (.bipush 16, 2) := by decide +kernel
theorem d_Mod_meant_3 : decode k_Mod_meant 3 = .ok (.irem, 1) := by decide +kernel
theorem d_Mod_meant_4 : decode k_Mod_meant 4 = .ok (.ifCond .le 7, 3) := by decide +kernel
theorem d_Mod_meant_7 : decode k_Mod_meant 7 = .ok (.iconst 1, 1) := by decide +kernel
theorem d_Mod_meant_8 : decode k_Mod_meant 8 = .ok (.goto 4, 3) := by decide +kernel
theorem d_Mod_meant_11 : decode k_Mod_meant 11 = .ok (.iconst 0, 1) := by decide +kernel
theorem d_Mod_meant_12 : decode k_Mod_meant 12 = .ok (.istore_n 2, 1) := by decide +kernel
theorem d_Mod_meant_13 : decode k_Mod_meant 13 = .ok (.iload_n 1, 1) := by decide +kernel
theorem d_Mod_meant_14 : decode k_Mod_meant 14 = .ok (.bipush 16, 2) := by decide +kernel
theorem d_Mod_meant_16 : decode k_Mod_meant 16 = .ok (.if_icmp .lt 7, 3) := by decide +kernel
theorem d_Mod_meant_19 : decode k_Mod_meant 19 = .ok (.iconst 1, 1) := by decide +kernel
theorem d_Mod_meant_20 : decode k_Mod_meant 20 = .ok (.goto 4, 3) := by decide +kernel
theorem d_Mod_meant_23 : decode k_Mod_meant 23 = .ok (.iconst 0, 1) := by decide +kernel
theorem d_Mod_meant_24 : decode k_Mod_meant 24 = .ok (.istore_n 3, 1) := by decide +kernel
theorem d_Mod_meant_25 : decode k_Mod_meant 25 = .ok (.iload_n 2, 1) := by decide +kernel
theorem d_Mod_meant_26 : decode k_Mod_meant 26 = .ok (.ifCond .eq 14, 3) := by decide +kernel
theorem d_Mod_meant_29 : decode k_Mod_meant 29 = .ok (.aload_n 0, 1) := by decide +kernel
theorem d_Mod_meant_30 : decode k_Mod_meant 30 = .ok (.getfield 32, 3) := by decide +kernel
theorem d_Mod_meant_33 : decode k_Mod_meant 33 = .ok (.iload_n 1, 1) := by decide +kernel
theorem d_Mod_meant_34 : decode k_Mod_meant 34 = .ok (.iconst 1, 1) := by decide +kernel
theorem d_Mod_meant_35 : decode k_Mod_meant 35 = .ok (.isub, 1) := by decide +kernel
theorem d_Mod_meant_36 : decode k_Mod_meant 36 = .ok (.iaload, 1) := by decide +kernel
theorem d_Mod_meant_37 : decode k_Mod_meant 37 = .ok (.goto 4, 3) := by decide +kernel
theorem d_Mod_meant_40 : decode k_Mod_meant 40 = .ok (.iconst 0, 1) := by decide +kernel
theorem d_Mod_meant_41 : decode k_Mod_meant 41 = .ok (.iload_n 3, 1) := by decide +kernel
theorem d_Mod_meant_42 : decode k_Mod_meant 42 = .ok (.ifCond .eq 15, 3) := by decide +kernel
theorem d_Mod_meant_45 : decode k_Mod_meant 45 = .ok (.aload_n 0, 1) := by decide +kernel
theorem d_Mod_meant_46 : decode k_Mod_meant 46 = .ok (.getfield 32, 3) := by decide +kernel
theorem d_Mod_meant_49 : decode k_Mod_meant 49 = .ok (.iload_n 1, 1) := by decide +kernel
theorem d_Mod_meant_50 : decode k_Mod_meant 50 = .ok (.bipush 16, 2) := by decide +kernel
theorem d_Mod_meant_52 : decode k_Mod_meant 52 = .ok (.isub, 1) := by decide +kernel
theorem d_Mod_meant_53 : decode k_Mod_meant 53 = .ok (.iaload, 1) := by decide +kernel
theorem d_Mod_meant_54 : decode k_Mod_meant 54 = .ok (.goto 4, 3) := by decide +kernel
theorem d_Mod_meant_57 : decode k_Mod_meant 57 = .ok (.iconst 0, 1) := by decide +kernel
theorem d_Mod_meant_58 : decode k_Mod_meant 58 = .ok (.iadd, 1) := by decide +kernel
theorem d_Mod_meant_59 : decode k_Mod_meant 59 = .ok (.istore 4, 2) := by decide +kernel
theorem d_Mod_meant_61 : decode k_Mod_meant 61 = .ok (.iload_n 2, 1) := by decide +kernel
theorem d_Mod_meant_62 : decode k_Mod_meant 62 = .ok (.ifCond .eq 14, 3) := by decide +kernel
theorem d_Mod_meant_65 : decode k_Mod_meant 65 = .ok (.iload_n 3, 1) := by decide +kernel
theorem d_Mod_meant_66 : decode k_Mod_meant 66 = .ok (.ifCond .eq 10, 3) := by decide +kernel
theorem d_Mod_meant_69 : decode k_Mod_meant 69 = .ok (.iload 4, 2) := by decide +kernel
theorem d_Mod_meant_71 : decode k_Mod_meant 71 = .ok (.iconst 2, 1) := by decide +kernel
theorem d_Mod_meant_72 : decode k_Mod_meant 72 = .ok (.idiv, 1) := by decide +kernel
theorem d_Mod_meant_73 : decode k_Mod_meant 73 = .ok (.goto 19, 3) := by decide +kernel
theorem d_Mod_meant_76 : decode k_Mod_meant 76 = .ok (.iload_n 2, 1) := by decide +kernel
theorem d_Mod_meant_77 : decode k_Mod_meant 77 = .ok (.ifCond .ne 7, 3) := by decide +kernel
theorem d_Mod_meant_80 : decode k_Mod_meant 80 = .ok (.iload_n 3, 1) := by decide +kernel
theorem d_Mod_meant_81 : decode k_Mod_meant 81 = .ok (.ifCond .eq 8, 3) := by decide +kernel
theorem d_Mod_meant_84 : decode k_Mod_meant 84 = .ok (.iload 4, 2) := by decide +kernel
theorem d_Mod_meant_86 : decode k_Mod_meant 86 = .ok (.goto 6, 3) := by decide +kernel
theorem d_Mod_meant_89 : decode k_Mod_meant 89 = .ok (.sipush 128, 3) := by decide +kernel
theorem d_Mod_meant_92 : decode k_Mod_meant 92 = .ok (.ireturn, 1) := by decide +kernel
theorem d_Mod_fill_0 : decode k_Mod_fill 0 = .ok (.aload_n 0, 1) := by decide +kernel
theorem d_Mod_fill_1 : decode k_Mod_fill 1 = .ok (.iload_n 1, 1) := by decide +kernel
theorem d_Mod_fill_2 : decode k_Mod_fill 2 = .ok (.ifCond .lt 12, 3) := by decide +kernel
theorem d_Mod_fill_5 : decode k_Mod_fill 5 = .ok (.iload_n 1, 1) := by decide +kernel
theorem d_Mod_fill_6 : decode k_Mod_fill 6 = .ok (.iconst 2, 1) := by decide +kernel
theorem d_Mod_fill_7 : decode k_Mod_fill 7 = .ok (.if_icmp .gt 7, 3) := by decide +kernel
theorem d_Mod_fill_10 : decode k_Mod_fill 10 = .ok (.iconst 0, 1) := by decide +kernel
theorem d_Mod_fill_11 : decode k_Mod_fill 11 = .ok (.goto 4, 3) := by decide +kernel
theorem d_Mod_fill_14 : decode k_Mod_fill 14 = .ok (.iconst 1, 1) := by decide +kernel
theorem d_Mod_fill_15 : decode k_Mod_fill 15 = .ok (.putfield 58, 3) := by decide +kernel
theorem d_Mod_fill_18 : decode k_Mod_fill 18 = .ok (.iconst 0, 1) := by decide +kernel
theorem d_Mod_fill_19 : decode k_Mod_fill 19 = .ok (.istore_n 2, 1) := by decide +kernel
theorem d_Mod_fill_20 : decode k_Mod_fill 20 = .ok (.iconst 0, 1) := by decide +kernel
theorem d_Mod_fill_21 : decode k_Mod_fill 21 = .ok (.istore_n 3, 1) := by decide +kernel
theorem d_Mod_fill_22 : decode k_Mod_fill 22 = .ok (.iload_n 3, 1) := by decide +kernel
theorem d_Mod_fill_23 : decode k_Mod_fill 23 = .ok (.sipush 256, 3) := by decide +kernel
theorem d_Mod_fill_26 : decode k_Mod_fill 26 = .ok (.if_icmp .ge 89, 3) := by decide +kernel
theorem d_Mod_fill_29 : decode k_Mod_fill 29 = .ok (.aload_n 0, 1) := by decide +kernel
theorem d_Mod_fill_30 : decode k_Mod_fill 30 = .ok (.getfield 58, 3) := by decide +kernel
theorem d_Mod_fill_33 : decode k_Mod_fill 33 = .ok (.ifCond .ne 82, 3) := by decide +kernel
theorem d_Mod_fill_36 : decode k_Mod_fill 36 = .ok (.aload_n 0, 1) := by decide +kernel
theorem d_Mod_fill_37 : decode k_Mod_fill 37 = .ok (.getfield 35, 3) := by decide +kernel
theorem d_Mod_fill_40 : decode k_Mod_fill 40 = .ok (.iload_n 3, 1) := by decide +kernel
theorem d_Mod_fill_41 : decode k_Mod_fill 41 = .ok (.iaload, 1) := by decide +kernel
theorem d_Mod_fill_42 : decode k_Mod_fill 42 = .ok (.ifCond .eq 13, 3) := by decide +kernel
theorem d_Mod_fill_45 : decode k_Mod_fill 45 = .ok (.aload_n 0, 1) := by decide +kernel
theorem d_Mod_fill_46 : decode k_Mod_fill 46 = .ok (.getfield 35, 3) := by decide +kernel
theorem d_Mod_fill_49 : decode k_Mod_fill 49 = .ok (.iload_n 3, 1) := by decide +kernel
theorem d_Mod_fill_50 : decode k_Mod_fill 50 = .ok (.iaload, 1) := by decide +kernel
theorem d_Mod_fill_51 : decode k_Mod_fill 51 = .ok (.iconst 3, 1) := by decide +kernel
theorem d_Mod_fill_52 : decode k_Mod_fill 52 = .ok (.if_icmp .ne 57, 3) := by decide +kernel
theorem d_Mod_fill_55 : decode k_Mod_fill 55 = .ok (.aload_n 0, 1) := by decide +kernel
theorem d_Mod_fill_56 : decode k_Mod_fill 56 = .ok (.getfield 32, 3) := by decide +kernel
theorem d_Mod_fill_59 : decode k_Mod_fill 59 = .ok (.iload_n 3, 1) := by decide +kernel
theorem d_Mod_fill_60 : decode k_Mod_fill 60 = .ok (.iload_n 1, 1) := by decide +kernel
theorem d_Mod_fill_61 : decode k_Mod_fill 61 = .ok (.ifCond .ne 11, 3) := by decide +kernel
theorem d_Mod_fill_64 : decode k_Mod_fill 64 = .ok (.aload_n 0, 1) := by decide +kernel
theorem d_Mod_fill_65 : decode k_Mod_fill 65 = .ok (.iload_n 3, 1) := by decide +kernel
theorem d_Mod_fill_66 : decode k_Mod_fill 66 = .ok (.invokevirtual 155, 3) := by decide +kernel
theorem d_Mod_fill_69 : decode k_Mod_fill 69 = .ok (.goto 29, 3) := by decide +kernel
theorem d_Mod_fill_72 : decode k_Mod_fill 72 = .ok (.iload_n 1, 1) := by decide +kernel
theorem d_Mod_fill_73 : decode k_Mod_fill 73 = .ok (.iconst 1, 1) := by decide +kernel
theorem d_Mod_fill_74 : decode k_Mod_fill 74 = .ok (.if_icmp .eq 9, 3) := by decide +kernel
theorem d_Mod_fill_77 : decode k_Mod_fill 77 = .ok (.iload_n 3, 1) := by decide +kernel
theorem d_Mod_fill_78 : decode k_Mod_fill 78 = .ok (.bipush 16, 2) := by decide +kernel
theorem d_Mod_fill_80 : decode k_Mod_fill 80 = .ok (.if_icmp .ge 9, 3) := by decide +kernel
theorem d_Mod_fill_83 : decode k_Mod_fill 83 = .ok (.sipush 255, 3) := by decide +kernel
theorem d_Mod_fill_86 : decode k_Mod_fill 86 = .ok (.goto 12, 3) := by decide +kernel
theorem d_Mod_fill_89 : decode k_Mod_fill 89 = .ok (.aload_n 0, 1) := by decide +kernel
theorem d_Mod_fill_90 : decode k_Mod_fill 90 = .ok (.getfield 32, 3) := by decide +kernel
theorem d_Mod_fill_93 : decode k_Mod_fill 93 = .ok (.iload_n 3, 1) := by decide +kernel
theorem d_Mod_fill_94 : decode k_Mod_fill 94 = .ok (.bipush 16, 2) := by decide +kernel
theorem d_Mod_fill_96 : decode k_Mod_fill 96 = .ok (.isub, 1) := by decide +kernel
theorem d_Mod_fill_97 : decode k_Mod_fill 97 = .ok (.iaload, 1) := by decide +kernel
theorem d_Mod_fill_98 : decode k_Mod_fill 98 = .ok (.iastore, 1) := by decide +kernel
theorem d_Mod_fill_99 : decode k_Mod_fill 99 = .ok (.aload_n 0, 1) := by decide +kernel
theorem d_Mod_fill_100 : decode k_Mod_fill 100 = .ok (.getfield 35, 3) := by decide +kernel
theorem d_Mod_fill_103 : decode k_Mod_fill 103 = .ok (.iload_n 3, 1) := by decide +kernel
theorem d_Mod_fill_104 : decode k_Mod_fill 104 = .ok (.iconst 3, 1) := by decide +kernel
theorem d_Mod_fill_105 : decode k_Mod_fill 105 = .ok (.iastore, 1) := by decide +kernel
theorem d_Mod_fill_106 : decode k_Mod_fill 106 = .ok (.iinc 2 1, 3) := by decide +kernel
theorem d_Mod_fill_109 : decode k_Mod_fill 109 = .ok (.iinc 3 1, 3) := by decide +kernel
theorem d_Mod_fill_112 : decode k_Mod_fill 112 = .ok (.goto (-90), 3) := by decide +kernel
theorem d_Mod_fill_115 : decode k_Mod_fill 115 = .ok (.iload_n 2, 1) := by decide +kernel
theorem d_Mod_fill_116 : decode k_Mod_fill 116 = .ok (.ireturn, 1) := by decide +kernel
theorem d_Mod_sure_0 : decode k_Mod_sure 0 = .ok (.iconst 0, 1) := by decide +kernel
theorem d_Mod_sure_1 : decode k_Mod_sure 1 = .ok (.istore_n 1, 1) := by decide +kernel
theorem d_Mod_sure_2 : decode k_Mod_sure 2 = .ok (.iconst 0, 1) := by decide +kernel
theorem d_Mod_sure_3 : decode k_Mod_sure 3 = .ok (.istore_n 2, 1) := by decide +kernel
theorem d_Mod_sure_4 : decode k_Mod_sure 4 = .ok (.iload_n 2, 1) := by decide +kernel
theorem d_Mod_sure_5 : decode k_Mod_sure 5 = .ok (.sipush 256, 3) := by decide +kernel
theorem d_Mod_sure_8 : decode k_Mod_sure 8 = .ok (.if_icmp .ge 27, 3) := by decide +kernel
theorem d_Mod_sure_11 : decode k_Mod_sure 11 = .ok (.aload_n 0, 1) := by decide +kernel
theorem d_Mod_sure_12 : decode k_Mod_sure 12 = .ok (.getfield 35, 3) := by decide +kernel
theorem d_Mod_sure_15 : decode k_Mod_sure 15 = .ok (.iload_n 2, 1) := by decide +kernel
theorem d_Mod_sure_16 : decode k_Mod_sure 16 = .ok (.iaload, 1) := by decide +kernel
theorem d_Mod_sure_17 : decode k_Mod_sure 17 = .ok (.iconst 1, 1) := by decide +kernel
theorem d_Mod_sure_18 : decode k_Mod_sure 18 = .ok (.if_icmp .ne 9, 3) := by decide +kernel
theorem d_Mod_sure_21 : decode k_Mod_sure 21 = .ok (.iload_n 1, 1) := by decide +kernel
theorem d_Mod_sure_22 : decode k_Mod_sure 22 = .ok (.iconst 1, 1) := by decide +kernel
theorem d_Mod_sure_23 : decode k_Mod_sure 23 = .ok (.iadd, 1) := by decide +kernel
theorem d_Mod_sure_24 : decode k_Mod_sure 24 = .ok (.goto 4, 3) := by decide +kernel
theorem d_Mod_sure_27 : decode k_Mod_sure 27 = .ok (.iload_n 1, 1) := by decide +kernel
theorem d_Mod_sure_28 : decode k_Mod_sure 28 = .ok (.istore_n 1, 1) := by decide +kernel
theorem d_Mod_sure_29 : decode k_Mod_sure 29 = .ok (.iinc 2 1, 3) := by decide +kernel
theorem d_Mod_sure_32 : decode k_Mod_sure 32 = .ok (.goto (-28), 3) := by decide +kernel
theorem d_Mod_sure_35 : decode k_Mod_sure 35 = .ok (.iload_n 1, 1) := by decide +kernel
theorem d_Mod_sure_36 : decode k_Mod_sure 36 = .ok (.ireturn, 1) := by decide +kernel
theorem d_Mod_told_0 : decode k_Mod_told 0 = .ok (.aload_n 0, 1) := by decide +kernel
theorem d_Mod_told_1 : decode k_Mod_told 1 = .ok (.iconst 0, 1) := by decide +kernel
theorem d_Mod_told_2 : decode k_Mod_told 2 = .ok (.putfield 58, 3) := by decide +kernel
theorem d_Mod_told_5 : decode k_Mod_told 5 = .ok (.iload_n 1, 1) := by decide +kernel
theorem d_Mod_told_6 : decode k_Mod_told 6 = .ok (.tableswitch 103 0 8 #[50, 55, 60, 65, 70, 75, 88, 93, 98], 50) := by decide +kernel
theorem d_Mod_told_56 : decode k_Mod_told 56 = .ok (.aload_n 0, 1) := by decide +kernel
theorem d_Mod_told_57 : decode k_Mod_told 57 = .ok (.getfield 50, 3) := by decide +kernel
theorem d_Mod_told_60 : decode k_Mod_told 60 = .ok (.ireturn, 1) := by decide +kernel
theorem d_Mod_told_61 : decode k_Mod_told 61 = .ok (.aload_n 0, 1) := by decide +kernel
theorem d_Mod_told_62 : decode k_Mod_told 62 = .ok (.getfield 55, 3) := by decide +kernel
theorem d_Mod_told_65 : decode k_Mod_told 65 = .ok (.ireturn, 1) := by decide +kernel
theorem d_Mod_told_66 : decode k_Mod_told 66 = .ok (.aload_n 0, 1) := by decide +kernel
theorem d_Mod_told_67 : decode k_Mod_told 67 = .ok (.getfield 68, 3) := by decide +kernel
theorem d_Mod_told_70 : decode k_Mod_told 70 = .ok (.ireturn, 1) := by decide +kernel
theorem d_Mod_told_71 : decode k_Mod_told 71 = .ok (.aload_n 0, 1) := by decide +kernel
theorem d_Mod_told_72 : decode k_Mod_told 72 = .ok (.getfield 65, 3) := by decide +kernel
theorem d_Mod_told_75 : decode k_Mod_told 75 = .ok (.ireturn, 1) := by decide +kernel
theorem d_Mod_told_76 : decode k_Mod_told 76 = .ok (.aload_n 0, 1) := by decide +kernel
theorem d_Mod_told_77 : decode k_Mod_told 77 = .ok (.getfield 80, 3) := by decide +kernel
theorem d_Mod_told_80 : decode k_Mod_told 80 = .ok (.ireturn, 1) := by decide +kernel
theorem d_Mod_told_81 : decode k_Mod_told 81 = .ok (.aload_n 0, 1) := by decide +kernel
theorem d_Mod_told_82 : decode k_Mod_told 82 = .ok (.getfield 97, 3) := by decide +kernel
theorem d_Mod_told_85 : decode k_Mod_told 85 = .ok (.ifCond .eq 7, 3) := by decide +kernel
theorem d_Mod_told_88 : decode k_Mod_told 88 = .ok (.iconst 1, 1) := by decide +kernel
theorem d_Mod_told_89 : decode k_Mod_told 89 = .ok (.goto 4, 3) := by decide +kernel
theorem d_Mod_told_92 : decode k_Mod_told 92 = .ok (.iconst 0, 1) := by decide +kernel
theorem d_Mod_told_93 : decode k_Mod_told 93 = .ok (.ireturn, 1) := by decide +kernel
theorem d_Mod_told_94 : decode k_Mod_told 94 = .ok (.aload_n 0, 1) := by decide +kernel
theorem d_Mod_told_95 : decode k_Mod_told 95 = .ok (.getfield 146, 3) := by decide +kernel
theorem d_Mod_told_98 : decode k_Mod_told 98 = .ok (.ireturn, 1) := by decide +kernel
theorem d_Mod_told_99 : decode k_Mod_told 99 = .ok (.aload_n 0, 1) := by decide +kernel
theorem d_Mod_told_100 : decode k_Mod_told 100 = .ok (.getfield 149, 3) := by decide +kernel
theorem d_Mod_told_103 : decode k_Mod_told 103 = .ok (.ireturn, 1) := by decide +kernel
theorem d_Mod_told_104 : decode k_Mod_told 104 = .ok (.aload_n 0, 1) := by decide +kernel
theorem d_Mod_told_105 : decode k_Mod_told 105 = .ok (.invokevirtual 158, 3) := by decide +kernel
theorem d_Mod_told_108 : decode k_Mod_told 108 = .ok (.ireturn, 1) := by decide +kernel
theorem d_Mod_told_109 : decode k_Mod_told 109 = .ok (.iconst (-1), 1) := by decide +kernel
theorem d_Mod_told_110 : decode k_Mod_told 110 = .ok (.ireturn, 1) := by decide +kernel
theorem d_Mod_clear_0 : decode k_Mod_clear 0 = .ok (.aload_n 0, 1) := by decide +kernel
theorem d_Mod_clear_1 : decode k_Mod_clear 1 = .ok (.iconst 0, 1) := by decide +kernel
theorem d_Mod_clear_2 : decode k_Mod_clear 2 = .ok (.putfield 58, 3) := by decide +kernel
theorem d_Mod_clear_5 : decode k_Mod_clear 5 = .ok (.aload_n 0, 1) := by decide +kernel
theorem d_Mod_clear_6 : decode k_Mod_clear 6 = .ok (.iconst 0, 1) := by decide +kernel
theorem d_Mod_clear_7 : decode k_Mod_clear 7 = .ok (.putfield 68, 3) := by decide +kernel
theorem d_Mod_clear_10 : decode k_Mod_clear 10 = .ok (.aload_n 0, 1) := by decide +kernel
theorem d_Mod_clear_11 : decode k_Mod_clear 11 = .ok (.iconst 0, 1) := by decide +kernel
theorem d_Mod_clear_12 : decode k_Mod_clear 12 = .ok (.putfield 80, 3) := by decide +kernel
theorem d_Mod_clear_15 : decode k_Mod_clear 15 = .ok (.aload_n 0, 1) := by decide +kernel
theorem d_Mod_clear_16 : decode k_Mod_clear 16 = .ok (.iconst 0, 1) := by decide +kernel
theorem d_Mod_clear_17 : decode k_Mod_clear 17 = .ok (.putfield 97, 3) := by decide +kernel
theorem d_Mod_clear_20 : decode k_Mod_clear 20 = .ok (.aload_n 0, 1) := by decide +kernel
theorem d_Mod_clear_21 : decode k_Mod_clear 21 = .ok (.invokevirtual 73, 3) := by decide +kernel
theorem d_Mod_clear_24 : decode k_Mod_clear 24 = .ok (.iconst 0, 1) := by decide +kernel
theorem d_Mod_clear_25 : decode k_Mod_clear 25 = .ok (.istore_n 1, 1) := by decide +kernel
theorem d_Mod_clear_26 : decode k_Mod_clear 26 = .ok (.iload_n 1, 1) := by decide +kernel
theorem d_Mod_clear_27 : decode k_Mod_clear 27 = .ok (.sipush 256, 3) := by decide +kernel
theorem d_Mod_clear_30 : decode k_Mod_clear 30 = .ok (.if_icmp .ge 16, 3) := by decide +kernel
theorem d_Mod_clear_33 : decode k_Mod_clear 33 = .ok (.aload_n 0, 1) := by decide +kernel
theorem d_Mod_clear_34 : decode k_Mod_clear 34 = .ok (.getfield 35, 3) := by decide +kernel
theorem d_Mod_clear_37 : decode k_Mod_clear 37 = .ok (.iload_n 1, 1) := by decide +kernel
theorem d_Mod_clear_38 : decode k_Mod_clear 38 = .ok (.iconst 0, 1) := by decide +kernel
theorem d_Mod_clear_39 : decode k_Mod_clear 39 = .ok (.iastore, 1) := by decide +kernel
theorem d_Mod_clear_40 : decode k_Mod_clear 40 = .ok (.iinc 1 1, 3) := by decide +kernel
theorem d_Mod_clear_43 : decode k_Mod_clear 43 = .ok (.goto (-17), 3) := by decide +kernel
theorem d_Mod_clear_46 : decode k_Mod_clear 46 = .ok (.return_, 1) := by decide +kernel
