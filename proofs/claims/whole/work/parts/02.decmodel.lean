theorem dX4_init_0 : decode cX4_init 0 = .ok (.aload_n 0, 1) := by decide +kernel
theorem dX4_init_1 : decode cX4_init 1 = .ok (.invokespecial 1, 3) := by decide +kernel
theorem dX4_init_4 : decode cX4_init 4 = .ok (.aload_n 0, 1) := by decide +kernel
theorem dX4_init_5 : decode cX4_init 5 = .ok (.bipush 108, 2) := by decide +kernel
theorem dX4_init_7 : decode cX4_init 7 = .ok (.newarray .int, 2) := by decide +kernel
theorem dX4_init_9 : decode cX4_init 9 = .ok (.putfield 7, 3) := by decide +kernel
theorem dX4_init_12 : decode cX4_init 12 = .ok (.aload_n 0, 1) := by decide +kernel
theorem dX4_init_13 : decode cX4_init 13 = .ok (.bipush 108, 2) := by decide +kernel
theorem dX4_init_15 : decode cX4_init 15 = .ok (.newarray .int, 2) := by decide +kernel
theorem dX4_init_17 : decode cX4_init 17 = .ok (.putfield 13, 3) := by decide +kernel
theorem dX4_init_20 : decode cX4_init 20 = .ok (.aload_n 0, 1) := by decide +kernel
theorem dX4_init_21 : decode cX4_init 21 = .ok (.bipush 108, 2) := by decide +kernel
theorem dX4_init_23 : decode cX4_init 23 = .ok (.newarray .int, 2) := by decide +kernel
theorem dX4_init_25 : decode cX4_init 25 = .ok (.putfield 16, 3) := by decide +kernel
theorem dX4_init_28 : decode cX4_init 28 = .ok (.aload_n 0, 1) := by decide +kernel
theorem dX4_init_29 : decode cX4_init 29 = .ok (.bipush 8, 2) := by decide +kernel
theorem dX4_init_31 : decode cX4_init 31 = .ok (.newarray .int, 2) := by decide +kernel
theorem dX4_init_33 : decode cX4_init 33 = .ok (.putfield 19, 3) := by decide +kernel
theorem dX4_init_36 : decode cX4_init 36 = .ok (.aload_n 0, 1) := by decide +kernel
theorem dX4_init_37 : decode cX4_init 37 = .ok (.bipush 120, 2) := by decide +kernel
theorem dX4_init_39 : decode cX4_init 39 = .ok (.newarray .int, 2) := by decide +kernel
theorem dX4_init_41 : decode cX4_init 41 = .ok (.putfield 22, 3) := by decide +kernel
theorem dX4_init_44 : decode cX4_init 44 = .ok (.aload_n 0, 1) := by decide +kernel
theorem dX4_init_45 : decode cX4_init 45 = .ok (.iconst 4, 1) := by decide +kernel
theorem dX4_init_46 : decode cX4_init 46 = .ok (.newarray .int, 2) := by decide +kernel
theorem dX4_init_48 : decode cX4_init 48 = .ok (.dup, 1) := by decide +kernel
theorem dX4_init_49 : decode cX4_init 49 = .ok (.iconst 0, 1) := by decide +kernel
theorem dX4_init_50 : decode cX4_init 50 = .ok (.iconst (-1), 1) := by decide +kernel
theorem dX4_init_51 : decode cX4_init 51 = .ok (.iastore, 1) := by decide +kernel
theorem dX4_init_52 : decode cX4_init 52 = .ok (.dup, 1) := by decide +kernel
theorem dX4_init_53 : decode cX4_init 53 = .ok (.iconst 1, 1) := by decide +kernel
theorem dX4_init_54 : decode cX4_init 54 = .ok (.iconst (-1), 1) := by decide +kernel
theorem dX4_init_55 : decode cX4_init 55 = .ok (.iastore, 1) := by decide +kernel
theorem dX4_init_56 : decode cX4_init 56 = .ok (.dup, 1) := by decide +kernel
theorem dX4_init_57 : decode cX4_init 57 = .ok (.iconst 2, 1) := by decide +kernel
theorem dX4_init_58 : decode cX4_init 58 = .ok (.iconst (-1), 1) := by decide +kernel
theorem dX4_init_59 : decode cX4_init 59 = .ok (.iastore, 1) := by decide +kernel
theorem dX4_init_60 : decode cX4_init 60 = .ok (.dup, 1) := by decide +kernel
theorem dX4_init_61 : decode cX4_init 61 = .ok (.iconst 3, 1) := by decide +kernel
theorem dX4_init_62 : decode cX4_init 62 = .ok (.iconst (-1), 1) := by decide +kernel
theorem dX4_init_63 : decode cX4_init 63 = .ok (.iastore, 1) := by decide +kernel
theorem dX4_init_64 : decode cX4_init 64 = .ok (.putfield 25, 3) := by decide +kernel
theorem dX4_init_67 : decode cX4_init 67 = .ok (.aload_n 0, 1) := by decide +kernel
theorem dX4_init_68 : decode cX4_init 68 = .ok (.iconst 4, 1) := by decide +kernel
theorem dX4_init_69 : decode cX4_init 69 = .ok (.newarray .int, 2) := by decide +kernel
theorem dX4_init_71 : decode cX4_init 71 = .ok (.putfield 28, 3) := by decide +kernel
theorem dX4_init_74 : decode cX4_init 74 = .ok (.aload_n 0, 1) := by decide +kernel
theorem dX4_init_75 : decode cX4_init 75 = .ok (.sipush 160, 3) := by decide +kernel
theorem dX4_init_78 : decode cX4_init 78 = .ok (.newarray .long, 2) := by decide +kernel
theorem dX4_init_80 : decode cX4_init 80 = .ok (.putfield 31, 3) := by decide +kernel
theorem dX4_init_83 : decode cX4_init 83 = .ok (.aload_n 0, 1) := by decide +kernel
theorem dX4_init_84 : decode cX4_init 84 = .ok (.sipush 4096, 3) := by decide +kernel
theorem dX4_init_87 : decode cX4_init 87 = .ok (.newarray .int, 2) := by decide +kernel
theorem dX4_init_89 : decode cX4_init 89 = .ok (.putfield 35, 3) := by decide +kernel
theorem dX4_init_92 : decode cX4_init 92 = .ok (.aload_n 0, 1) := by decide +kernel
theorem dX4_init_93 : decode cX4_init 93 = .ok (.bipush 14, 2) := by decide +kernel
theorem dX4_init_95 : decode cX4_init 95 = .ok (.newarray .boolean, 2) := by decide +kernel
theorem dX4_init_97 : decode cX4_init 97 = .ok (.putfield 38, 3) := by decide +kernel
theorem dX4_init_100 : decode cX4_init 100 = .ok (.iconst 0, 1) := by decide +kernel
theorem dX4_init_101 : decode cX4_init 101 = .ok (.istore_n 1, 1) := by decide +kernel
theorem dX4_init_102 : decode cX4_init 102 = .ok (.iload_n 1, 1) := by decide +kernel
theorem dX4_init_103 : decode cX4_init 103 = .ok (.iconst 4, 1) := by decide +kernel
theorem dX4_init_104 : decode cX4_init 104 = .ok (.if_icmp .ge 18, 3) := by decide +kernel
theorem dX4_init_107 : decode cX4_init 107 = .ok (.aload_n 0, 1) := by decide +kernel
theorem dX4_init_108 : decode cX4_init 108 = .ok (.getfield 7, 3) := by decide +kernel
theorem dX4_init_111 : decode cX4_init 111 = .ok (.iconst 4, 1) := by decide +kernel
theorem dX4_init_112 : decode cX4_init 112 = .ok (.iload_n 1, 1) := by decide +kernel
theorem dX4_init_113 : decode cX4_init 113 = .ok (.iadd, 1) := by decide +kernel
theorem dX4_init_114 : decode cX4_init 114 = .ok (.iconst 5, 1) := by decide +kernel
theorem dX4_init_115 : decode cX4_init 115 = .ok (.iastore, 1) := by decide +kernel
theorem dX4_init_116 : decode cX4_init 116 = .ok (.iinc 1 1, 3) := by decide +kernel
theorem dX4_init_119 : decode cX4_init 119 = .ok (.goto (-17), 3) := by decide +kernel
theorem dX4_init_122 : decode cX4_init 122 = .ok (.iconst 0, 1) := by decide +kernel
theorem dX4_init_123 : decode cX4_init 123 = .ok (.istore_n 1, 1) := by decide +kernel
theorem dX4_init_124 : decode cX4_init 124 = .ok (.iload_n 1, 1) := by decide +kernel
theorem dX4_init_125 : decode cX4_init 125 = .ok (.bipush 12, 2) := by decide +kernel
theorem dX4_init_127 : decode cX4_init 127 = .ok (.if_icmp .ge 20, 3) := by decide +kernel
theorem dX4_init_130 : decode cX4_init 130 = .ok (.aload_n 0, 1) := by decide +kernel
theorem dX4_init_131 : decode cX4_init 131 = .ok (.getfield 7, 3) := by decide +kernel
theorem dX4_init_134 : decode cX4_init 134 = .ok (.bipush 8, 2) := by decide +kernel
theorem dX4_init_136 : decode cX4_init 136 = .ok (.iload_n 1, 1) := by decide +kernel
theorem dX4_init_137 : decode cX4_init 137 = .ok (.iadd, 1) := by decide +kernel
theorem dX4_init_138 : decode cX4_init 138 = .ok (.bipush 10, 2) := by decide +kernel
theorem dX4_init_140 : decode cX4_init 140 = .ok (.iastore, 1) := by decide +kernel
theorem dX4_init_141 : decode cX4_init 141 = .ok (.iinc 1 1, 3) := by decide +kernel
theorem dX4_init_144 : decode cX4_init 144 = .ok (.goto (-20), 3) := by decide +kernel
theorem dX4_init_147 : decode cX4_init 147 = .ok (.return_, 1) := by decide +kernel
theorem dX4_isIn_0 : decode cX4_isIn 0 = .ok (.lload_n 0, 1) := by decide +kernel
theorem dX4_isIn_1 : decode cX4_isIn 1 = .ok (.lload_n 2, 1) := by decide +kernel
theorem dX4_isIn_2 : decode cX4_isIn 2 = .ok (.lcmp, 1) := by decide +kernel
theorem dX4_isIn_3 : decode cX4_isIn 3 = .ok (.ifCond .lt 14, 3) := by decide +kernel
theorem dX4_isIn_6 : decode cX4_isIn 6 = .ok (.lload_n 0, 1) := by decide +kernel
theorem dX4_isIn_7 : decode cX4_isIn 7 = .ok (.lload 4, 2) := by decide +kernel
theorem dX4_isIn_9 : decode cX4_isIn 9 = .ok (.lcmp, 1) := by decide +kernel
theorem dX4_isIn_10 : decode cX4_isIn 10 = .ok (.ifCond .gt 7, 3) := by decide +kernel
theorem dX4_isIn_13 : decode cX4_isIn 13 = .ok (.iconst 1, 1) := by decide +kernel
theorem dX4_isIn_14 : decode cX4_isIn 14 = .ok (.goto 4, 3) := by decide +kernel
theorem dX4_isIn_17 : decode cX4_isIn 17 = .ok (.iconst 0, 1) := by decide +kernel
theorem dX4_isIn_18 : decode cX4_isIn 18 = .ok (.ireturn, 1) := by decide +kernel
theorem dX4_finds_0 : decode cX4_finds 0 = .ok (.aload_n 0, 1) := by decide +kernel
theorem dX4_finds_1 : decode cX4_finds 1 = .ok (.getfield 19, 3) := by decide +kernel
theorem dX4_finds_4 : decode cX4_finds 4 = .ok (.iconst 0, 1) := by decide +kernel
theorem dX4_finds_5 : decode cX4_finds 5 = .ok (.dup2, 1) := by decide +kernel
theorem dX4_finds_6 : decode cX4_finds 6 = .ok (.iaload, 1) := by decide +kernel
theorem dX4_finds_7 : decode cX4_finds 7 = .ok (.iconst 1, 1) := by decide +kernel
theorem dX4_finds_8 : decode cX4_finds 8 = .ok (.iadd, 1) := by decide +kernel
theorem dX4_finds_9 : decode cX4_finds 9 = .ok (.iastore, 1) := by decide +kernel
theorem dX4_finds_10 : decode cX4_finds 10 = .ok (.aload_n 0, 1) := by decide +kernel
theorem dX4_finds_11 : decode cX4_finds 11 = .ok (.getfield 19, 3) := by decide +kernel
theorem dX4_finds_14 : decode cX4_finds 14 = .ok (.ldc 42, 2) := by decide +kernel
theorem dX4_finds_16 : decode cX4_finds 16 = .ok (.iload_n 1, 1) := by decide +kernel
theorem dX4_finds_17 : decode cX4_finds 17 = .ok (.isub, 1) := by decide +kernel
theorem dX4_finds_18 : decode cX4_finds 18 = .ok (.iconst 1, 1) := by decide +kernel
theorem dX4_finds_19 : decode cX4_finds 19 = .ok (.iadd, 1) := by decide +kernel
theorem dX4_finds_20 : decode cX4_finds 20 = .ok (.dup2, 1) := by decide +kernel
theorem dX4_finds_21 : decode cX4_finds 21 = .ok (.iaload, 1) := by decide +kernel
theorem dX4_finds_22 : decode cX4_finds 22 = .ok (.iconst 1, 1) := by decide +kernel
theorem dX4_finds_23 : decode cX4_finds 23 = .ok (.iadd, 1) := by decide +kernel
theorem dX4_finds_24 : decode cX4_finds 24 = .ok (.iastore, 1) := by decide +kernel
theorem dX4_finds_25 : decode cX4_finds 25 = .ok (.iload_n 1, 1) := by decide +kernel
theorem dX4_finds_26 : decode cX4_finds 26 = .ok (.ireturn, 1) := by decide +kernel
theorem dX4_becomes_0 : decode cX4_becomes 0 = .ok (.aload_n 0, 1) := by decide +kernel
theorem dX4_becomes_1 : decode cX4_becomes 1 = .ok (.getfield 7, 3) := by decide +kernel
theorem dX4_becomes_4 : decode cX4_becomes 4 = .ok (.iload_n 1, 1) := by decide +kernel
theorem dX4_becomes_5 : decode cX4_becomes 5 = .ok (.iaload, 1) := by decide +kernel
theorem dX4_becomes_6 : decode cX4_becomes 6 = .ok (.istore_n 3, 1) := by decide +kernel
theorem dX4_becomes_7 : decode cX4_becomes 7 = .ok (.aload_n 0, 1) := by decide +kernel
theorem dX4_becomes_8 : decode cX4_becomes 8 = .ok (.getfield 7, 3) := by decide +kernel
theorem dX4_becomes_11 : decode cX4_becomes 11 = .ok (.iload_n 1, 1) := by decide +kernel
theorem dX4_becomes_12 : decode cX4_becomes 12 = .ok (.iload_n 2, 1) := by decide +kernel
theorem dX4_becomes_13 : decode cX4_becomes 13 = .ok (.iastore, 1) := by decide +kernel
theorem dX4_becomes_14 : decode cX4_becomes 14 = .ok (.iload_n 3, 1) := by decide +kernel
theorem dX4_becomes_15 : decode cX4_becomes 15 = .ok (.ireturn, 1) := by decide +kernel
theorem dX4_is_0 : decode cX4_is 0 = .ok (.aload_n 0, 1) := by decide +kernel
theorem dX4_is_1 : decode cX4_is 1 = .ok (.getfield 7, 3) := by decide +kernel
theorem dX4_is_4 : decode cX4_is 4 = .ok (.bipush 20, 2) := by decide +kernel
theorem dX4_is_6 : decode cX4_is 6 = .ok (.iconst 4, 1) := by decide +kernel
theorem dX4_is_7 : decode cX4_is 7 = .ok (.iload_n 1, 1) := by decide +kernel
theorem dX4_is_8 : decode cX4_is 8 = .ok (.imul, 1) := by decide +kernel
theorem dX4_is_9 : decode cX4_is 9 = .ok (.iadd, 1) := by decide +kernel
theorem dX4_is_10 : decode cX4_is 10 = .ok (.iload_n 2, 1) := by decide +kernel
theorem dX4_is_11 : decode cX4_is 11 = .ok (.iadd, 1) := by decide +kernel
theorem dX4_is_12 : decode cX4_is 12 = .ok (.iaload, 1) := by decide +kernel
theorem dX4_is_13 : decode cX4_is 13 = .ok (.ireturn, 1) := by decide +kernel
theorem dX4_puts_0 : decode cX4_puts 0 = .ok (.aload_n 0, 1) := by decide +kernel
theorem dX4_puts_1 : decode cX4_puts 1 = .ok (.getfield 7, 3) := by decide +kernel
theorem dX4_puts_4 : decode cX4_puts 4 = .ok (.bipush 20, 2) := by decide +kernel
theorem dX4_puts_6 : decode cX4_puts 6 = .ok (.iconst 4, 1) := by decide +kernel
theorem dX4_puts_7 : decode cX4_puts 7 = .ok (.iload_n 1, 1) := by decide +kernel
theorem dX4_puts_8 : decode cX4_puts 8 = .ok (.imul, 1) := by decide +kernel
theorem dX4_puts_9 : decode cX4_puts 9 = .ok (.iadd, 1) := by decide +kernel
theorem dX4_puts_10 : decode cX4_puts 10 = .ok (.iload_n 2, 1) := by decide +kernel
theorem dX4_puts_11 : decode cX4_puts 11 = .ok (.iadd, 1) := by decide +kernel
theorem dX4_puts_12 : decode cX4_puts 12 = .ok (.iload_n 3, 1) := by decide +kernel
theorem dX4_puts_13 : decode cX4_puts 13 = .ok (.iastore, 1) := by decide +kernel
theorem dX4_puts_14 : decode cX4_puts 14 = .ok (.return_, 1) := by decide +kernel
theorem dX4_isCoin_0 : decode cX4_isCoin 0 = .ok (.iload_n 1, 1) := by decide +kernel
theorem dX4_isCoin_1 : decode cX4_isCoin 1 = .ok (.ifCond .lt 17, 3) := by decide +kernel
theorem dX4_isCoin_4 : decode cX4_isCoin 4 = .ok (.iload_n 1, 1) := by decide +kernel
theorem dX4_isCoin_5 : decode cX4_isCoin 5 = .ok (.aload_n 0, 1) := by decide +kernel
theorem dX4_isCoin_6 : decode cX4_isCoin 6 = .ok (.getfield 7, 3) := by decide +kernel
theorem dX4_isCoin_9 : decode cX4_isCoin 9 = .ok (.iconst 0, 1) := by decide +kernel
theorem dX4_isCoin_10 : decode cX4_isCoin 10 = .ok (.iaload, 1) := by decide +kernel
theorem dX4_isCoin_11 : decode cX4_isCoin 11 = .ok (.if_icmp .ge 7, 3) := by decide +kernel
theorem dX4_isCoin_14 : decode cX4_isCoin 14 = .ok (.iconst 1, 1) := by decide +kernel
theorem dX4_isCoin_15 : decode cX4_isCoin 15 = .ok (.goto 4, 3) := by decide +kernel
theorem dX4_isCoin_18 : decode cX4_isCoin 18 = .ok (.iconst 0, 1) := by decide +kernel
theorem dX4_isCoin_19 : decode cX4_isCoin 19 = .ok (.ireturn, 1) := by decide +kernel
theorem dX4_isOwner_0 : decode cX4_isOwner 0 = .ok (.iload_n 0, 1) := by decide +kernel
theorem dX4_isOwner_1 : decode cX4_isOwner 1 = .ok (.ifCond .lt 12, 3) := by decide +kernel
theorem dX4_isOwner_4 : decode cX4_isOwner 4 = .ok (.iload_n 0, 1) := by decide +kernel
theorem dX4_isOwner_5 : decode cX4_isOwner 5 = .ok (.iconst 4, 1) := by decide +kernel
theorem dX4_isOwner_6 : decode cX4_isOwner 6 = .ok (.if_icmp .ge 7, 3) := by decide +kernel
theorem dX4_isOwner_9 : decode cX4_isOwner 9 = .ok (.iconst 1, 1) := by decide +kernel
theorem dX4_isOwner_10 : decode cX4_isOwner 10 = .ok (.goto 4, 3) := by decide +kernel
theorem dX4_isOwner_13 : decode cX4_isOwner 13 = .ok (.iconst 0, 1) := by decide +kernel
theorem dX4_isOwner_14 : decode cX4_isOwner 14 = .ok (.ireturn, 1) := by decide +kernel
theorem dX4_season_0 : decode cX4_season 0 = .ok (.aload_n 0, 1) := by decide +kernel
theorem dX4_season_1 : decode cX4_season 1 = .ok (.getfield 7, 3) := by decide +kernel
theorem dX4_season_4 : decode cX4_season 4 = .ok (.iconst 2, 1) := by decide +kernel
theorem dX4_season_5 : decode cX4_season 5 = .ok (.iaload, 1) := by decide +kernel
theorem dX4_season_6 : decode cX4_season 6 = .ok (.bipush 12, 2) := by decide +kernel
theorem dX4_season_8 : decode cX4_season 8 = .ok (.irem, 1) := by decide +kernel
theorem dX4_season_9 : decode cX4_season 9 = .ok (.ireturn, 1) := by decide +kernel
theorem dX4_isFar_0 : decode cX4_isFar 0 = .ok (.aload_n 0, 1) := by decide +kernel
theorem dX4_isFar_1 : decode cX4_isFar 1 = .ok (.getfield 7, 3) := by decide +kernel
theorem dX4_isFar_4 : decode cX4_isFar 4 = .ok (.iconst 2, 1) := by decide +kernel
theorem dX4_isFar_5 : decode cX4_isFar 5 = .ok (.iaload, 1) := by decide +kernel
theorem dX4_isFar_6 : decode cX4_isFar 6 = .ok (.iload_n 1, 1) := by decide +kernel
theorem dX4_isFar_7 : decode cX4_isFar 7 = .ok (.iadd, 1) := by decide +kernel
theorem dX4_isFar_8 : decode cX4_isFar 8 = .ok (.sipush 9999, 3) := by decide +kernel
theorem dX4_isFar_11 : decode cX4_isFar 11 = .ok (.if_icmp .le 7, 3) := by decide +kernel
theorem dX4_isFar_14 : decode cX4_isFar 14 = .ok (.iconst 1, 1) := by decide +kernel
theorem dX4_isFar_15 : decode cX4_isFar 15 = .ok (.goto 4, 3) := by decide +kernel
theorem dX4_isFar_18 : decode cX4_isFar 18 = .ok (.iconst 0, 1) := by decide +kernel
theorem dX4_isFar_19 : decode cX4_isFar 19 = .ok (.ireturn, 1) := by decide +kernel
theorem dX4_copyRow_0 : decode cX4_copyRow 0 = .ok (.iconst 0, 1) := by decide +kernel
theorem dX4_copyRow_1 : decode cX4_copyRow 1 = .ok (.istore_n 2, 1) := by decide +kernel
theorem dX4_copyRow_2 : decode cX4_copyRow 2 = .ok (.iload_n 2, 1) := by decide +kernel
theorem dX4_copyRow_3 : decode cX4_copyRow 3 = .ok (.bipush 108, 2) := by decide +kernel
theorem dX4_copyRow_5 : decode cX4_copyRow 5 = .ok (.if_icmp .ge 15, 3) := by decide +kernel
theorem dX4_copyRow_8 : decode cX4_copyRow 8 = .ok (.aload_n 1, 1) := by decide +kernel
theorem dX4_copyRow_9 : decode cX4_copyRow 9 = .ok (.iload_n 2, 1) := by decide +kernel
theorem dX4_copyRow_10 : decode cX4_copyRow 10 = .ok (.aload_n 0, 1) := by decide +kernel
theorem dX4_copyRow_11 : decode cX4_copyRow 11 = .ok (.iload_n 2, 1) := by decide +kernel
theorem dX4_copyRow_12 : decode cX4_copyRow 12 = .ok (.iaload, 1) := by decide +kernel
theorem dX4_copyRow_13 : decode cX4_copyRow 13 = .ok (.iastore, 1) := by decide +kernel
theorem dX4_copyRow_14 : decode cX4_copyRow 14 = .ok (.iinc 2 1, 3) := by decide +kernel
theorem dX4_copyRow_17 : decode cX4_copyRow 17 = .ok (.goto (-15), 3) := by decide +kernel
theorem dX4_copyRow_20 : decode cX4_copyRow 20 = .ok (.return_, 1) := by decide +kernel
theorem dX4_soil_0 : decode cX4_soil 0 = .ok (.iload_n 1, 1) := by decide +kernel
theorem dX4_soil_1 : decode cX4_soil 1 = .ok (.invokestatic 43, 3) := by decide +kernel
theorem dX4_soil_4 : decode cX4_soil 4 = .ok (.ifCond .eq 26, 3) := by decide +kernel
theorem dX4_soil_7 : decode cX4_soil 7 = .ok (.iload_n 2, 1) := by decide +kernel
theorem dX4_soil_8 : decode cX4_soil 8 = .ok (.i2l, 1) := by decide +kernel
theorem dX4_soil_9 : decode cX4_soil 9 = .ok (.lconst 0, 1) := by decide +kernel
theorem dX4_soil_10 : decode cX4_soil 10 = .ok (.ldc2_w 47, 3) := by decide +kernel
theorem dX4_soil_13 : decode cX4_soil 13 = .ok (.invokestatic 49, 3) := by decide +kernel
theorem dX4_soil_16 : decode cX4_soil 16 = .ok (.ifCond .eq 14, 3) := by decide +kernel
theorem dX4_soil_19 : decode cX4_soil 19 = .ok (.aload_n 0, 1) := by decide +kernel
theorem dX4_soil_20 : decode cX4_soil 20 = .ok (.iconst 4, 1) := by decide +kernel
theorem dX4_soil_21 : decode cX4_soil 21 = .ok (.iload_n 1, 1) := by decide +kernel
theorem dX4_soil_22 : decode cX4_soil 22 = .ok (.iadd, 1) := by decide +kernel
theorem dX4_soil_23 : decode cX4_soil 23 = .ok (.iload_n 2, 1) := by decide +kernel
theorem dX4_soil_24 : decode cX4_soil 24 = .ok (.invokevirtual 53, 3) := by decide +kernel
theorem dX4_soil_27 : decode cX4_soil 27 = .ok (.goto 9, 3) := by decide +kernel
theorem dX4_soil_30 : decode cX4_soil 30 = .ok (.aload_n 0, 1) := by decide +kernel
theorem dX4_soil_31 : decode cX4_soil 31 = .ok (.ldc 42, 2) := by decide +kernel
theorem dX4_soil_33 : decode cX4_soil 33 = .ok (.invokevirtual 57, 3) := by decide +kernel
theorem dX4_soil_36 : decode cX4_soil 36 = .ok (.ireturn, 1) := by decide +kernel
theorem dX4_price_0 : decode cX4_price 0 = .ok (.iload_n 1, 1) := by decide +kernel
theorem dX4_price_1 : decode cX4_price 1 = .ok (.i2l, 1) := by decide +kernel
theorem dX4_price_2 : decode cX4_price 2 = .ok (.lconst 0, 1) := by decide +kernel
theorem dX4_price_3 : decode cX4_price 3 = .ok (.ldc2_w 61, 3) := by decide +kernel
theorem dX4_price_6 : decode cX4_price 6 = .ok (.invokestatic 49, 3) := by decide +kernel
theorem dX4_price_9 : decode cX4_price 9 = .ok (.ifCond .eq 27, 3) := by decide +kernel
theorem dX4_price_12 : decode cX4_price 12 = .ok (.iload_n 2, 1) := by decide +kernel
theorem dX4_price_13 : decode cX4_price 13 = .ok (.i2l, 1) := by decide +kernel
theorem dX4_price_14 : decode cX4_price 14 = .ok (.lconst 0, 1) := by decide +kernel
theorem dX4_price_15 : decode cX4_price 15 = .ok (.ldc2_w 63, 3) := by decide +kernel
theorem dX4_price_18 : decode cX4_price 18 = .ok (.invokestatic 49, 3) := by decide +kernel
theorem dX4_price_21 : decode cX4_price 21 = .ok (.ifCond .eq 15, 3) := by decide +kernel
theorem dX4_price_24 : decode cX4_price 24 = .ok (.aload_n 0, 1) := by decide +kernel
theorem dX4_price_25 : decode cX4_price 25 = .ok (.bipush 8, 2) := by decide +kernel
theorem dX4_price_27 : decode cX4_price 27 = .ok (.iload_n 1, 1) := by decide +kernel
theorem dX4_price_28 : decode cX4_price 28 = .ok (.iadd, 1) := by decide +kernel
theorem dX4_price_29 : decode cX4_price 29 = .ok (.iload_n 2, 1) := by decide +kernel
theorem dX4_price_30 : decode cX4_price 30 = .ok (.invokevirtual 53, 3) := by decide +kernel
theorem dX4_price_33 : decode cX4_price 33 = .ok (.goto 9, 3) := by decide +kernel
theorem dX4_price_36 : decode cX4_price 36 = .ok (.aload_n 0, 1) := by decide +kernel
theorem dX4_price_37 : decode cX4_price 37 = .ok (.ldc 42, 2) := by decide +kernel
theorem dX4_price_39 : decode cX4_price 39 = .ok (.invokevirtual 57, 3) := by decide +kernel
theorem dX4_price_42 : decode cX4_price 42 = .ok (.ireturn, 1) := by decide +kernel
theorem dX4_comes_0 : decode cX4_comes 0 = .ok (.aload_n 0, 1) := by decide +kernel
theorem dX4_comes_1 : decode cX4_comes 1 = .ok (.getfield 7, 3) := by decide +kernel
theorem dX4_comes_4 : decode cX4_comes 4 = .ok (.iconst 0, 1) := by decide +kernel
theorem dX4_comes_5 : decode cX4_comes 5 = .ok (.iaload, 1) := by decide +kernel
theorem dX4_comes_6 : decode cX4_comes 6 = .ok (.istore 4, 2) := by decide +kernel
theorem dX4_comes_8 : decode cX4_comes 8 = .ok (.aload_n 0, 1) := by decide +kernel
theorem dX4_comes_9 : decode cX4_comes 9 = .ok (.getfield 7, 3) := by decide +kernel
theorem dX4_comes_12 : decode cX4_comes 12 = .ok (.iconst 0, 1) := by decide +kernel
theorem dX4_comes_13 : decode cX4_comes 13 = .ok (.dup2, 1) := by decide +kernel
theorem dX4_comes_14 : decode cX4_comes 14 = .ok (.iaload, 1) := by decide +kernel
theorem dX4_comes_15 : decode cX4_comes 15 = .ok (.iconst 1, 1) := by decide +kernel
theorem dX4_comes_16 : decode cX4_comes 16 = .ok (.iadd, 1) := by decide +kernel
theorem dX4_comes_17 : decode cX4_comes 17 = .ok (.iastore, 1) := by decide +kernel
theorem dX4_comes_18 : decode cX4_comes 18 = .ok (.aload_n 0, 1) := by decide +kernel
theorem dX4_comes_19 : decode cX4_comes 19 = .ok (.iload 4, 2) := by decide +kernel
theorem dX4_comes_21 : decode cX4_comes 21 = .ok (.iconst 0, 1) := by decide +kernel
theorem dX4_comes_22 : decode cX4_comes 22 = .ok (.iload_n 1, 1) := by decide +kernel
theorem dX4_comes_23 : decode cX4_comes 23 = .ok (.invokevirtual 65, 3) := by decide +kernel
theorem dX4_comes_26 : decode cX4_comes 26 = .ok (.aload_n 0, 1) := by decide +kernel
theorem dX4_comes_27 : decode cX4_comes 27 = .ok (.iload 4, 2) := by decide +kernel
theorem dX4_comes_29 : decode cX4_comes 29 = .ok (.iconst 1, 1) := by decide +kernel
theorem dX4_comes_30 : decode cX4_comes 30 = .ok (.iload_n 2, 1) := by decide +kernel
theorem dX4_comes_31 : decode cX4_comes 31 = .ok (.invokevirtual 65, 3) := by decide +kernel
theorem dX4_comes_34 : decode cX4_comes 34 = .ok (.aload_n 0, 1) := by decide +kernel
theorem dX4_comes_35 : decode cX4_comes 35 = .ok (.iload 4, 2) := by decide +kernel
theorem dX4_comes_37 : decode cX4_comes 37 = .ok (.iconst 2, 1) := by decide +kernel
theorem dX4_comes_38 : decode cX4_comes 38 = .ok (.iload_n 3, 1) := by decide +kernel
theorem dX4_comes_39 : decode cX4_comes 39 = .ok (.invokevirtual 65, 3) := by decide +kernel
theorem dX4_comes_42 : decode cX4_comes 42 = .ok (.aload_n 0, 1) := by decide +kernel
theorem dX4_comes_43 : decode cX4_comes 43 = .ok (.iload 4, 2) := by decide +kernel
theorem dX4_comes_45 : decode cX4_comes 45 = .ok (.iconst 3, 1) := by decide +kernel
theorem dX4_comes_46 : decode cX4_comes 46 = .ok (.iconst 0, 1) := by decide +kernel
theorem dX4_comes_47 : decode cX4_comes 47 = .ok (.invokevirtual 65, 3) := by decide +kernel
theorem dX4_comes_50 : decode cX4_comes 50 = .ok (.iload 4, 2) := by decide +kernel
theorem dX4_comes_52 : decode cX4_comes 52 = .ok (.ireturn, 1) := by decide +kernel
theorem dX4_coin_0 : decode cX4_coin 0 = .ok (.iload_n 1, 1) := by decide +kernel
theorem dX4_coin_1 : decode cX4_coin 1 = .ok (.i2l, 1) := by decide +kernel
theorem dX4_coin_2 : decode cX4_coin 2 = .ok (.lconst 0, 1) := by decide +kernel
theorem dX4_coin_3 : decode cX4_coin 3 = .ok (.ldc2_w 69, 3) := by decide +kernel
theorem dX4_coin_6 : decode cX4_coin 6 = .ok (.invokestatic 49, 3) := by decide +kernel
theorem dX4_coin_9 : decode cX4_coin 9 = .ok (.ifCond .eq 22, 3) := by decide +kernel
theorem dX4_coin_12 : decode cX4_coin 12 = .ok (.iload_n 2, 1) := by decide +kernel
theorem dX4_coin_13 : decode cX4_coin 13 = .ok (.invokestatic 43, 3) := by decide +kernel
theorem dX4_coin_16 : decode cX4_coin 16 = .ok (.ifCond .eq 15, 3) := by decide +kernel
theorem dX4_coin_19 : decode cX4_coin 19 = .ok (.iload_n 3, 1) := by decide +kernel
theorem dX4_coin_20 : decode cX4_coin 20 = .ok (.i2l, 1) := by decide +kernel
theorem dX4_coin_21 : decode cX4_coin 21 = .ok (.lconst 0, 1) := by decide +kernel
theorem dX4_coin_22 : decode cX4_coin 22 = .ok (.ldc2_w 63, 3) := by decide +kernel
theorem dX4_coin_25 : decode cX4_coin 25 = .ok (.invokestatic 49, 3) := by decide +kernel
theorem dX4_coin_28 : decode cX4_coin 28 = .ok (.ifCond .ne 10, 3) := by decide +kernel
theorem dX4_coin_31 : decode cX4_coin 31 = .ok (.aload_n 0, 1) := by decide +kernel
theorem dX4_coin_32 : decode cX4_coin 32 = .ok (.ldc 42, 2) := by decide +kernel
theorem dX4_coin_34 : decode cX4_coin 34 = .ok (.invokevirtual 57, 3) := by decide +kernel
theorem dX4_coin_37 : decode cX4_coin 37 = .ok (.ireturn, 1) := by decide +kernel
theorem dX4_coin_38 : decode cX4_coin 38 = .ok (.aload_n 0, 1) := by decide +kernel
theorem dX4_coin_39 : decode cX4_coin 39 = .ok (.getfield 7, 3) := by decide +kernel
theorem dX4_coin_42 : decode cX4_coin 42 = .ok (.iconst 0, 1) := by decide +kernel
theorem dX4_coin_43 : decode cX4_coin 43 = .ok (.iaload, 1) := by decide +kernel
theorem dX4_coin_44 : decode cX4_coin 44 = .ok (.bipush 12, 2) := by decide +kernel
theorem dX4_coin_46 : decode cX4_coin 46 = .ok (.if_icmp .ne 12, 3) := by decide +kernel
theorem dX4_coin_49 : decode cX4_coin 49 = .ok (.aload_n 0, 1) := by decide +kernel
theorem dX4_coin_50 : decode cX4_coin 50 = .ok (.ldc 71, 2) := by decide +kernel
theorem dX4_coin_52 : decode cX4_coin 52 = .ok (.invokevirtual 57, 3) := by decide +kernel
theorem dX4_coin_55 : decode cX4_coin 55 = .ok (.goto 10, 3) := by decide +kernel
theorem dX4_coin_58 : decode cX4_coin 58 = .ok (.aload_n 0, 1) := by decide +kernel
theorem dX4_coin_59 : decode cX4_coin 59 = .ok (.iload_n 1, 1) := by decide +kernel
theorem dX4_coin_60 : decode cX4_coin 60 = .ok (.iload_n 2, 1) := by decide +kernel
theorem dX4_coin_61 : decode cX4_coin 61 = .ok (.iload_n 3, 1) := by decide +kernel
theorem dX4_coin_62 : decode cX4_coin 62 = .ok (.invokevirtual 72, 3) := by decide +kernel
theorem dX4_coin_65 : decode cX4_coin 65 = .ok (.ireturn, 1) := by decide +kernel
theorem dX4_isBlue_0 : decode cX4_isBlue 0 = .ok (.iload_n 0, 1) := by decide +kernel
theorem dX4_isBlue_1 : decode cX4_isBlue 1 = .ok (.iconst 1, 1) := by decide +kernel
theorem dX4_isBlue_2 : decode cX4_isBlue 2 = .ok (.if_icmp .eq 8, 3) := by decide +kernel
theorem dX4_isBlue_5 : decode cX4_isBlue 5 = .ok (.iload_n 0, 1) := by decide +kernel
theorem dX4_isBlue_6 : decode cX4_isBlue 6 = .ok (.iconst 5, 1) := by decide +kernel
theorem dX4_isBlue_7 : decode cX4_isBlue 7 = .ok (.if_icmp .ne 7, 3) := by decide +kernel
theorem dX4_isBlue_10 : decode cX4_isBlue 10 = .ok (.iconst 1, 1) := by decide +kernel
theorem dX4_isBlue_11 : decode cX4_isBlue 11 = .ok (.goto 4, 3) := by decide +kernel
theorem dX4_isBlue_14 : decode cX4_isBlue 14 = .ok (.iconst 0, 1) := by decide +kernel
theorem dX4_isBlue_15 : decode cX4_isBlue 15 = .ok (.ireturn, 1) := by decide +kernel
theorem dX4_shrinks_0 : decode cX4_shrinks 0 = .ok (.aload_n 0, 1) := by decide +kernel
theorem dX4_shrinks_1 : decode cX4_shrinks 1 = .ok (.invokevirtual 76, 3) := by decide +kernel
theorem dX4_shrinks_4 : decode cX4_shrinks 4 = .ok (.i2l, 1) := by decide +kernel
theorem dX4_shrinks_5 : decode cX4_shrinks 5 = .ok (.ldc2_w 80, 3) := by decide +kernel
theorem dX4_shrinks_8 : decode cX4_shrinks 8 = .ok (.ldc2_w 82, 3) := by decide +kernel
theorem dX4_shrinks_11 : decode cX4_shrinks 11 = .ok (.invokestatic 49, 3) := by decide +kernel
theorem dX4_shrinks_14 : decode cX4_shrinks 14 = .ok (.ifCond .eq 7, 3) := by decide +kernel
theorem dX4_shrinks_17 : decode cX4_shrinks 17 = .ok (.iconst 3, 1) := by decide +kernel
theorem dX4_shrinks_18 : decode cX4_shrinks 18 = .ok (.goto 4, 3) := by decide +kernel
theorem dX4_shrinks_21 : decode cX4_shrinks 21 = .ok (.iconst 1, 1) := by decide +kernel
theorem dX4_shrinks_22 : decode cX4_shrinks 22 = .ok (.istore_n 2, 1) := by decide +kernel
theorem dX4_shrinks_23 : decode cX4_shrinks 23 = .ok (.aload_n 0, 1) := by decide +kernel
theorem dX4_shrinks_24 : decode cX4_shrinks 24 = .ok (.iload_n 1, 1) := by decide +kernel
theorem dX4_shrinks_25 : decode cX4_shrinks 25 = .ok (.iconst 0, 1) := by decide +kernel
theorem dX4_shrinks_26 : decode cX4_shrinks 26 = .ok (.invokevirtual 84, 3) := by decide +kernel
theorem dX4_shrinks_29 : decode cX4_shrinks 29 = .ok (.tableswitch 49 1 5 #[35, 39, 49, 43, 35], 35) := by decide +kernel
theorem dX4_shrinks_64 : decode cX4_shrinks 64 = .ok (.iload_n 2, 1) := by decide +kernel
theorem dX4_shrinks_65 : decode cX4_shrinks 65 = .ok (.iconst 3, 1) := by decide +kernel
theorem dX4_shrinks_66 : decode cX4_shrinks 66 = .ok (.idiv, 1) := by decide +kernel
theorem dX4_shrinks_67 : decode cX4_shrinks 67 = .ok (.ireturn, 1) := by decide +kernel
theorem dX4_shrinks_68 : decode cX4_shrinks 68 = .ok (.iconst 2, 1) := by decide +kernel
theorem dX4_shrinks_69 : decode cX4_shrinks 69 = .ok (.iload_n 2, 1) := by decide +kernel
theorem dX4_shrinks_70 : decode cX4_shrinks 70 = .ok (.imul, 1) := by decide +kernel
theorem dX4_shrinks_71 : decode cX4_shrinks 71 = .ok (.ireturn, 1) := by decide +kernel
theorem dX4_shrinks_72 : decode cX4_shrinks 72 = .ok (.iconst 2, 1) := by decide +kernel
theorem dX4_shrinks_73 : decode cX4_shrinks 73 = .ok (.iload_n 2, 1) := by decide +kernel
theorem dX4_shrinks_74 : decode cX4_shrinks 74 = .ok (.imul, 1) := by decide +kernel
theorem dX4_shrinks_75 : decode cX4_shrinks 75 = .ok (.iconst 1, 1) := by decide +kernel
theorem dX4_shrinks_76 : decode cX4_shrinks 76 = .ok (.iadd, 1) := by decide +kernel
theorem dX4_shrinks_77 : decode cX4_shrinks 77 = .ok (.ireturn, 1) := by decide +kernel
theorem dX4_shrinks_78 : decode cX4_shrinks 78 = .ok (.iload_n 2, 1) := by decide +kernel
theorem dX4_shrinks_79 : decode cX4_shrinks 79 = .ok (.ireturn, 1) := by decide +kernel
theorem dX4_yields_0 : decode cX4_yields 0 = .ok (.aload_n 0, 1) := by decide +kernel
theorem dX4_yields_1 : decode cX4_yields 1 = .ok (.getfield 7, 3) := by decide +kernel
theorem dX4_yields_4 : decode cX4_yields 4 = .ok (.iconst 4, 1) := by decide +kernel
theorem dX4_yields_5 : decode cX4_yields 5 = .ok (.aload_n 0, 1) := by decide +kernel
theorem dX4_yields_6 : decode cX4_yields 6 = .ok (.iload_n 1, 1) := by decide +kernel
theorem dX4_yields_7 : decode cX4_yields 7 = .ok (.iconst 1, 1) := by decide +kernel
theorem dX4_yields_8 : decode cX4_yields 8 = .ok (.invokevirtual 84, 3) := by decide +kernel
theorem dX4_yields_11 : decode cX4_yields 11 = .ok (.iadd, 1) := by decide +kernel
theorem dX4_yields_12 : decode cX4_yields 12 = .ok (.iaload, 1) := by decide +kernel
theorem dX4_yields_13 : decode cX4_yields 13 = .ok (.iconst 5, 1) := by decide +kernel
theorem dX4_yields_14 : decode cX4_yields 14 = .ok (.iadd, 1) := by decide +kernel
theorem dX4_yields_15 : decode cX4_yields 15 = .ok (.istore_n 2, 1) := by decide +kernel
theorem dX4_yields_16 : decode cX4_yields 16 = .ok (.aload_n 0, 1) := by decide +kernel
theorem dX4_yields_17 : decode cX4_yields 17 = .ok (.iload_n 1, 1) := by decide +kernel
theorem dX4_yields_18 : decode cX4_yields 18 = .ok (.iconst 0, 1) := by decide +kernel
theorem dX4_yields_19 : decode cX4_yields 19 = .ok (.invokevirtual 84, 3) := by decide +kernel
theorem dX4_yields_22 : decode cX4_yields 22 = .ok (.tableswitch 44 1 5 #[34, 44, 38, 42, 34], 34) := by decide +kernel
theorem dX4_yields_56 : decode cX4_yields 56 = .ok (.iload_n 2, 1) := by decide +kernel
theorem dX4_yields_57 : decode cX4_yields 57 = .ok (.iconst 4, 1) := by decide +kernel
theorem dX4_yields_58 : decode cX4_yields 58 = .ok (.isub, 1) := by decide +kernel
theorem dX4_yields_59 : decode cX4_yields 59 = .ok (.ireturn, 1) := by decide +kernel
theorem dX4_yields_60 : decode cX4_yields 60 = .ok (.iload_n 2, 1) := by decide +kernel
theorem dX4_yields_61 : decode cX4_yields 61 = .ok (.iconst 3, 1) := by decide +kernel
theorem dX4_yields_62 : decode cX4_yields 62 = .ok (.iadd, 1) := by decide +kernel
theorem dX4_yields_63 : decode cX4_yields 63 = .ok (.ireturn, 1) := by decide +kernel
theorem dX4_yields_64 : decode cX4_yields 64 = .ok (.iconst 0, 1) := by decide +kernel
theorem dX4_yields_65 : decode cX4_yields 65 = .ok (.ireturn, 1) := by decide +kernel
theorem dX4_yields_66 : decode cX4_yields 66 = .ok (.iload_n 2, 1) := by decide +kernel
theorem dX4_yields_67 : decode cX4_yields 67 = .ok (.ireturn, 1) := by decide +kernel
theorem dX4_worth_0 : decode cX4_worth 0 = .ok (.aload_n 0, 1) := by decide +kernel
theorem dX4_worth_1 : decode cX4_worth 1 = .ok (.iload_n 1, 1) := by decide +kernel
theorem dX4_worth_2 : decode cX4_worth 2 = .ok (.iconst 3, 1) := by decide +kernel
theorem dX4_worth_3 : decode cX4_worth 3 = .ok (.invokevirtual 84, 3) := by decide +kernel
theorem dX4_worth_6 : decode cX4_worth 6 = .ok (.ifCond .ne 28, 3) := by decide +kernel
theorem dX4_worth_9 : decode cX4_worth 9 = .ok (.aload_n 0, 1) := by decide +kernel
theorem dX4_worth_10 : decode cX4_worth 10 = .ok (.iload_n 1, 1) := by decide +kernel
theorem dX4_worth_11 : decode cX4_worth 11 = .ok (.iconst 2, 1) := by decide +kernel
theorem dX4_worth_12 : decode cX4_worth 12 = .ok (.invokevirtual 84, 3) := by decide +kernel
theorem dX4_worth_15 : decode cX4_worth 15 = .ok (.aload_n 0, 1) := by decide +kernel
theorem dX4_worth_16 : decode cX4_worth 16 = .ok (.getfield 7, 3) := by decide +kernel
theorem dX4_worth_19 : decode cX4_worth 19 = .ok (.bipush 8, 2) := by decide +kernel
theorem dX4_worth_21 : decode cX4_worth 21 = .ok (.aload_n 0, 1) := by decide +kernel
theorem dX4_worth_22 : decode cX4_worth 22 = .ok (.invokevirtual 76, 3) := by decide +kernel
theorem dX4_worth_25 : decode cX4_worth 25 = .ok (.iadd, 1) := by decide +kernel
theorem dX4_worth_26 : decode cX4_worth 26 = .ok (.iaload, 1) := by decide +kernel
theorem dX4_worth_27 : decode cX4_worth 27 = .ok (.imul, 1) := by decide +kernel
theorem dX4_worth_28 : decode cX4_worth 28 = .ok (.bipush 10, 2) := by decide +kernel
theorem dX4_worth_30 : decode cX4_worth 30 = .ok (.idiv, 1) := by decide +kernel
theorem dX4_worth_31 : decode cX4_worth 31 = .ok (.goto 4, 3) := by decide +kernel
theorem dX4_worth_34 : decode cX4_worth 34 = .ok (.iconst 0, 1) := by decide +kernel
theorem dX4_worth_35 : decode cX4_worth 35 = .ok (.ireturn, 1) := by decide +kernel
theorem dX4_of_0 : decode cX4_of 0 = .ok (.aload_n 0, 1) := by decide +kernel
theorem dX4_of_1 : decode cX4_of 1 = .ok (.iload_n 1, 1) := by decide +kernel
theorem dX4_of_2 : decode cX4_of 2 = .ok (.invokevirtual 87, 3) := by decide +kernel
theorem dX4_of_5 : decode cX4_of 5 = .ok (.ifCond .eq 15, 3) := by decide +kernel
theorem dX4_of_8 : decode cX4_of 8 = .ok (.iload_n 2, 1) := by decide +kernel
theorem dX4_of_9 : decode cX4_of 9 = .ok (.i2l, 1) := by decide +kernel
theorem dX4_of_10 : decode cX4_of 10 = .ok (.lconst 0, 1) := by decide +kernel
theorem dX4_of_11 : decode cX4_of 11 = .ok (.ldc2_w 90, 3) := by decide +kernel
theorem dX4_of_14 : decode cX4_of 14 = .ok (.invokestatic 49, 3) := by decide +kernel
theorem dX4_of_17 : decode cX4_of 17 = .ok (.ifCond .ne 10, 3) := by decide +kernel
theorem dX4_of_20 : decode cX4_of 20 = .ok (.aload_n 0, 1) := by decide +kernel
theorem dX4_of_21 : decode cX4_of 21 = .ok (.ldc 42, 2) := by decide +kernel
theorem dX4_of_23 : decode cX4_of 23 = .ok (.invokevirtual 57, 3) := by decide +kernel
theorem dX4_of_26 : decode cX4_of 26 = .ok (.ireturn, 1) := by decide +kernel
theorem dX4_of_27 : decode cX4_of 27 = .ok (.iload_n 2, 1) := by decide +kernel
theorem dX4_of_28 : decode cX4_of 28 = .ok (.tableswitch 68 4 7 #[32, 38, 44, 50], 32) := by decide +kernel
theorem dX4_of_60 : decode cX4_of 60 = .ok (.aload_n 0, 1) := by decide +kernel
theorem dX4_of_61 : decode cX4_of 61 = .ok (.iload_n 1, 1) := by decide +kernel
theorem dX4_of_62 : decode cX4_of 62 = .ok (.invokevirtual 92, 3) := by decide +kernel
theorem dX4_of_65 : decode cX4_of 65 = .ok (.ireturn, 1) := by decide +kernel
theorem dX4_of_66 : decode cX4_of 66 = .ok (.aload_n 0, 1) := by decide +kernel
theorem dX4_of_67 : decode cX4_of 67 = .ok (.iload_n 1, 1) := by decide +kernel
theorem dX4_of_68 : decode cX4_of 68 = .ok (.invokevirtual 95, 3) := by decide +kernel
theorem dX4_of_71 : decode cX4_of 71 = .ok (.ireturn, 1) := by decide +kernel
theorem dX4_of_72 : decode cX4_of 72 = .ok (.aload_n 0, 1) := by decide +kernel
theorem dX4_of_73 : decode cX4_of 73 = .ok (.iload_n 1, 1) := by decide +kernel
theorem dX4_of_74 : decode cX4_of 74 = .ok (.invokevirtual 98, 3) := by decide +kernel
theorem dX4_of_77 : decode cX4_of 77 = .ok (.ireturn, 1) := by decide +kernel
theorem dX4_of_78 : decode cX4_of 78 = .ok (.aload_n 0, 1) := by decide +kernel
theorem dX4_of_79 : decode cX4_of 79 = .ok (.iload_n 1, 1) := by decide +kernel
theorem dX4_of_80 : decode cX4_of 80 = .ok (.iconst 0, 1) := by decide +kernel
theorem dX4_of_81 : decode cX4_of 81 = .ok (.invokevirtual 84, 3) := by decide +kernel
theorem dX4_of_84 : decode cX4_of 84 = .ok (.invokestatic 101, 3) := by decide +kernel
theorem dX4_of_87 : decode cX4_of 87 = .ok (.ifCond .eq 7, 3) := by decide +kernel
theorem dX4_of_90 : decode cX4_of 90 = .ok (.iconst 0, 1) := by decide +kernel
theorem dX4_of_91 : decode cX4_of 91 = .ok (.goto 4, 3) := by decide +kernel
theorem dX4_of_94 : decode cX4_of 94 = .ok (.iconst 1, 1) := by decide +kernel
theorem dX4_of_95 : decode cX4_of 95 = .ok (.ireturn, 1) := by decide +kernel
theorem dX4_of_96 : decode cX4_of 96 = .ok (.aload_n 0, 1) := by decide +kernel
theorem dX4_of_97 : decode cX4_of 97 = .ok (.iload_n 1, 1) := by decide +kernel
theorem dX4_of_98 : decode cX4_of 98 = .ok (.iload_n 2, 1) := by decide +kernel
theorem dX4_of_99 : decode cX4_of 99 = .ok (.invokevirtual 84, 3) := by decide +kernel
theorem dX4_of_102 : decode cX4_of 102 = .ok (.ireturn, 1) := by decide +kernel
theorem dX4_set_0 : decode cX4_set 0 = .ok (.aload_n 0, 1) := by decide +kernel
theorem dX4_set_1 : decode cX4_set 1 = .ok (.iload_n 1, 1) := by decide +kernel
theorem dX4_set_2 : decode cX4_set 2 = .ok (.invokevirtual 87, 3) := by decide +kernel
theorem dX4_set_5 : decode cX4_set 5 = .ok (.ifCond .eq 49, 3) := by decide +kernel
theorem dX4_set_8 : decode cX4_set 8 = .ok (.iload_n 2, 1) := by decide +kernel
theorem dX4_set_9 : decode cX4_set 9 = .ok (.i2l, 1) := by decide +kernel
theorem dX4_set_10 : decode cX4_set 10 = .ok (.lconst 1, 1) := by decide +kernel
theorem dX4_set_11 : decode cX4_set 11 = .ok (.ldc2_w 104, 3) := by decide +kernel
theorem dX4_set_14 : decode cX4_set 14 = .ok (.invokestatic 49, 3) := by decide +kernel
theorem dX4_set_17 : decode cX4_set 17 = .ok (.ifCond .eq 37, 3) := by decide +kernel
theorem dX4_set_20 : decode cX4_set 20 = .ok (.iload_n 3, 1) := by decide +kernel
theorem dX4_set_21 : decode cX4_set 21 = .ok (.i2l, 1) := by decide +kernel
theorem dX4_set_22 : decode cX4_set 22 = .ok (.lconst 0, 1) := by decide +kernel
theorem dX4_set_23 : decode cX4_set 23 = .ok (.iload_n 2, 1) := by decide +kernel
theorem dX4_set_24 : decode cX4_set 24 = .ok (.iconst 1, 1) := by decide +kernel
theorem dX4_set_25 : decode cX4_set 25 = .ok (.if_icmp .ne 9, 3) := by decide +kernel
theorem dX4_set_28 : decode cX4_set 28 = .ok (.ldc2_w 104, 3) := by decide +kernel
theorem dX4_set_31 : decode cX4_set 31 = .ok (.goto 17, 3) := by decide +kernel
theorem dX4_set_34 : decode cX4_set 34 = .ok (.iload_n 2, 1) := by decide +kernel
theorem dX4_set_35 : decode cX4_set 35 = .ok (.iconst 2, 1) := by decide +kernel
theorem dX4_set_36 : decode cX4_set 36 = .ok (.if_icmp .ne 9, 3) := by decide +kernel
theorem dX4_set_39 : decode cX4_set 39 = .ok (.ldc2_w 63, 3) := by decide +kernel
theorem dX4_set_42 : decode cX4_set 42 = .ok (.goto 6, 3) := by decide +kernel
theorem dX4_set_45 : decode cX4_set 45 = .ok (.ldc2_w 80, 3) := by decide +kernel
theorem dX4_set_48 : decode cX4_set 48 = .ok (.invokestatic 49, 3) := by decide +kernel
theorem dX4_set_51 : decode cX4_set 51 = .ok (.ifCond .ne 10, 3) := by decide +kernel
theorem dX4_set_54 : decode cX4_set 54 = .ok (.aload_n 0, 1) := by decide +kernel
theorem dX4_set_55 : decode cX4_set 55 = .ok (.ldc 42, 2) := by decide +kernel
theorem dX4_set_57 : decode cX4_set 57 = .ok (.invokevirtual 57, 3) := by decide +kernel
theorem dX4_set_60 : decode cX4_set 60 = .ok (.ireturn, 1) := by decide +kernel
theorem dX4_set_61 : decode cX4_set 61 = .ok (.aload_n 0, 1) := by decide +kernel
theorem dX4_set_62 : decode cX4_set 62 = .ok (.bipush 20, 2) := by decide +kernel
theorem dX4_set_64 : decode cX4_set 64 = .ok (.iconst 4, 1) := by decide +kernel
theorem dX4_set_65 : decode cX4_set 65 = .ok (.iload_n 1, 1) := by decide +kernel
theorem dX4_set_66 : decode cX4_set 66 = .ok (.imul, 1) := by decide +kernel
theorem dX4_set_67 : decode cX4_set 67 = .ok (.iadd, 1) := by decide +kernel
theorem dX4_set_68 : decode cX4_set 68 = .ok (.iload_n 2, 1) := by decide +kernel
theorem dX4_set_69 : decode cX4_set 69 = .ok (.iadd, 1) := by decide +kernel
theorem dX4_set_70 : decode cX4_set 70 = .ok (.iload_n 3, 1) := by decide +kernel
theorem dX4_set_71 : decode cX4_set 71 = .ok (.invokevirtual 53, 3) := by decide +kernel
theorem dX4_set_74 : decode cX4_set 74 = .ok (.ireturn, 1) := by decide +kernel
theorem dX4_turn_0 : decode cX4_turn 0 = .ok (.aload_n 0, 1) := by decide +kernel
theorem dX4_turn_1 : decode cX4_turn 1 = .ok (.iload_n 1, 1) := by decide +kernel
theorem dX4_turn_2 : decode cX4_turn 2 = .ok (.invokevirtual 87, 3) := by decide +kernel
theorem dX4_turn_5 : decode cX4_turn 5 = .ok (.ifCond .eq 29, 3) := by decide +kernel
theorem dX4_turn_8 : decode cX4_turn 8 = .ok (.iload_n 2, 1) := by decide +kernel
theorem dX4_turn_9 : decode cX4_turn 9 = .ok (.i2l, 1) := by decide +kernel
theorem dX4_turn_10 : decode cX4_turn 10 = .ok (.lconst 0, 1) := by decide +kernel
theorem dX4_turn_11 : decode cX4_turn 11 = .ok (.ldc2_w 69, 3) := by decide +kernel
theorem dX4_turn_14 : decode cX4_turn 14 = .ok (.invokestatic 49, 3) := by decide +kernel
theorem dX4_turn_17 : decode cX4_turn 17 = .ok (.ifCond .eq 17, 3) := by decide +kernel
theorem dX4_turn_20 : decode cX4_turn 20 = .ok (.aload_n 0, 1) := by decide +kernel
theorem dX4_turn_21 : decode cX4_turn 21 = .ok (.bipush 20, 2) := by decide +kernel
theorem dX4_turn_23 : decode cX4_turn 23 = .ok (.iconst 4, 1) := by decide +kernel
theorem dX4_turn_24 : decode cX4_turn 24 = .ok (.iload_n 1, 1) := by decide +kernel
theorem dX4_turn_25 : decode cX4_turn 25 = .ok (.imul, 1) := by decide +kernel
theorem dX4_turn_26 : decode cX4_turn 26 = .ok (.iadd, 1) := by decide +kernel
theorem dX4_turn_27 : decode cX4_turn 27 = .ok (.iload_n 2, 1) := by decide +kernel
theorem dX4_turn_28 : decode cX4_turn 28 = .ok (.invokevirtual 53, 3) := by decide +kernel
theorem dX4_turn_31 : decode cX4_turn 31 = .ok (.goto 9, 3) := by decide +kernel
theorem dX4_turn_34 : decode cX4_turn 34 = .ok (.aload_n 0, 1) := by decide +kernel
theorem dX4_turn_35 : decode cX4_turn 35 = .ok (.ldc 42, 2) := by decide +kernel
theorem dX4_turn_37 : decode cX4_turn 37 = .ok (.invokevirtual 57, 3) := by decide +kernel
theorem dX4_turn_40 : decode cX4_turn 40 = .ok (.ireturn, 1) := by decide +kernel
theorem dX4_isUnder_0 : decode cX4_isUnder 0 = .ok (.iload_n 0, 1) := by decide +kernel
theorem dX4_isUnder_1 : decode cX4_isUnder 1 = .ok (.iload_n 1, 1) := by decide +kernel
theorem dX4_isUnder_2 : decode cX4_isUnder 2 = .ok (.if_icmp .eq 27, 3) := by decide +kernel
theorem dX4_isUnder_5 : decode cX4_isUnder 5 = .ok (.iload_n 1, 1) := by decide +kernel
theorem dX4_isUnder_6 : decode cX4_isUnder 6 = .ok (.ifCond .eq 23, 3) := by decide +kernel
theorem dX4_isUnder_9 : decode cX4_isUnder 9 = .ok (.iload_n 1, 1) := by decide +kernel
theorem dX4_isUnder_10 : decode cX4_isUnder 10 = .ok (.iconst 1, 1) := by decide +kernel
theorem dX4_isUnder_11 : decode cX4_isUnder 11 = .ok (.if_icmp .ne 8, 3) := by decide +kernel
theorem dX4_isUnder_14 : decode cX4_isUnder 14 = .ok (.iload_n 0, 1) := by decide +kernel
theorem dX4_isUnder_15 : decode cX4_isUnder 15 = .ok (.iconst 5, 1) := by decide +kernel
theorem dX4_isUnder_16 : decode cX4_isUnder 16 = .ok (.if_icmp .eq 13, 3) := by decide +kernel
theorem dX4_isUnder_19 : decode cX4_isUnder 19 = .ok (.iload_n 1, 1) := by decide +kernel
theorem dX4_isUnder_20 : decode cX4_isUnder 20 = .ok (.iconst 2, 1) := by decide +kernel
theorem dX4_isUnder_21 : decode cX4_isUnder 21 = .ok (.if_icmp .ne 12, 3) := by decide +kernel
theorem dX4_isUnder_24 : decode cX4_isUnder 24 = .ok (.iload_n 0, 1) := by decide +kernel
theorem dX4_isUnder_25 : decode cX4_isUnder 25 = .ok (.iconst 4, 1) := by decide +kernel
theorem dX4_isUnder_26 : decode cX4_isUnder 26 = .ok (.if_icmp .ne 7, 3) := by decide +kernel
theorem dX4_isUnder_29 : decode cX4_isUnder 29 = .ok (.iconst 1, 1) := by decide +kernel
theorem dX4_isUnder_30 : decode cX4_isUnder 30 = .ok (.goto 4, 3) := by decide +kernel
theorem dX4_isUnder_33 : decode cX4_isUnder 33 = .ok (.iconst 0, 1) := by decide +kernel
theorem dX4_isUnder_34 : decode cX4_isUnder 34 = .ok (.ireturn, 1) := by decide +kernel
theorem dX4_as_0 : decode cX4_as 0 = .ok (.aload_n 0, 1) := by decide +kernel
theorem dX4_as_1 : decode cX4_as 1 = .ok (.iload_n 1, 1) := by decide +kernel
theorem dX4_as_2 : decode cX4_as 2 = .ok (.invokevirtual 87, 3) := by decide +kernel
theorem dX4_as_5 : decode cX4_as 5 = .ok (.ifCond .eq 15, 3) := by decide +kernel
theorem dX4_as_8 : decode cX4_as 8 = .ok (.iload_n 2, 1) := by decide +kernel
theorem dX4_as_9 : decode cX4_as 9 = .ok (.i2l, 1) := by decide +kernel
theorem dX4_as_10 : decode cX4_as 10 = .ok (.lconst 0, 1) := by decide +kernel
theorem dX4_as_11 : decode cX4_as 11 = .ok (.ldc2_w 69, 3) := by decide +kernel
theorem dX4_as_14 : decode cX4_as 14 = .ok (.invokestatic 49, 3) := by decide +kernel
theorem dX4_as_17 : decode cX4_as 17 = .ok (.ifCond .ne 10, 3) := by decide +kernel
theorem dX4_as_20 : decode cX4_as 20 = .ok (.aload_n 0, 1) := by decide +kernel
theorem dX4_as_21 : decode cX4_as 21 = .ok (.ldc 42, 2) := by decide +kernel
theorem dX4_as_23 : decode cX4_as 23 = .ok (.invokevirtual 57, 3) := by decide +kernel
theorem dX4_as_26 : decode cX4_as 26 = .ok (.ireturn, 1) := by decide +kernel
theorem dX4_as_27 : decode cX4_as 27 = .ok (.aload_n 0, 1) := by decide +kernel
theorem dX4_as_28 : decode cX4_as 28 = .ok (.iload_n 1, 1) := by decide +kernel
theorem dX4_as_29 : decode cX4_as 29 = .ok (.iconst 0, 1) := by decide +kernel
theorem dX4_as_30 : decode cX4_as 30 = .ok (.invokevirtual 84, 3) := by decide +kernel
theorem dX4_as_33 : decode cX4_as 33 = .ok (.iload_n 2, 1) := by decide +kernel
theorem dX4_as_34 : decode cX4_as 34 = .ok (.invokestatic 106, 3) := by decide +kernel
theorem dX4_as_37 : decode cX4_as 37 = .ok (.ifCond .eq 12, 3) := by decide +kernel
theorem dX4_as_40 : decode cX4_as 40 = .ok (.aload_n 0, 1) := by decide +kernel
theorem dX4_as_41 : decode cX4_as 41 = .ok (.iload_n 1, 1) := by decide +kernel
theorem dX4_as_42 : decode cX4_as 42 = .ok (.iconst 2, 1) := by decide +kernel
theorem dX4_as_43 : decode cX4_as 43 = .ok (.invokevirtual 84, 3) := by decide +kernel
theorem dX4_as_46 : decode cX4_as 46 = .ok (.goto 9, 3) := by decide +kernel
theorem dX4_as_49 : decode cX4_as 49 = .ok (.aload_n 0, 1) := by decide +kernel
theorem dX4_as_50 : decode cX4_as 50 = .ok (.ldc 110, 2) := by decide +kernel
theorem dX4_as_52 : decode cX4_as 52 = .ok (.invokevirtual 57, 3) := by decide +kernel
theorem dX4_as_55 : decode cX4_as 55 = .ok (.ireturn, 1) := by decide +kernel
theorem dX4_swaps_0 : decode cX4_swaps 0 = .ok (.iconst 0, 1) := by decide +kernel
theorem dX4_swaps_1 : decode cX4_swaps 1 = .ok (.istore_n 3, 1) := by decide +kernel
theorem dX4_swaps_2 : decode cX4_swaps 2 = .ok (.iload_n 3, 1) := by decide +kernel
theorem dX4_swaps_3 : decode cX4_swaps 3 = .ok (.iconst 4, 1) := by decide +kernel
theorem dX4_swaps_4 : decode cX4_swaps 4 = .ok (.if_icmp .ge 37, 3) := by decide +kernel
theorem dX4_swaps_7 : decode cX4_swaps 7 = .ok (.aload_n 0, 1) := by decide +kernel
theorem dX4_swaps_8 : decode cX4_swaps 8 = .ok (.iload_n 1, 1) := by decide +kernel
theorem dX4_swaps_9 : decode cX4_swaps 9 = .ok (.iload_n 3, 1) := by decide +kernel
theorem dX4_swaps_10 : decode cX4_swaps 10 = .ok (.invokevirtual 84, 3) := by decide +kernel
theorem dX4_swaps_13 : decode cX4_swaps 13 = .ok (.istore 4, 2) := by decide +kernel
theorem dX4_swaps_15 : decode cX4_swaps 15 = .ok (.aload_n 0, 1) := by decide +kernel
theorem dX4_swaps_16 : decode cX4_swaps 16 = .ok (.iload_n 1, 1) := by decide +kernel
theorem dX4_swaps_17 : decode cX4_swaps 17 = .ok (.iload_n 3, 1) := by decide +kernel
theorem dX4_swaps_18 : decode cX4_swaps 18 = .ok (.aload_n 0, 1) := by decide +kernel
theorem dX4_swaps_19 : decode cX4_swaps 19 = .ok (.iload_n 2, 1) := by decide +kernel
theorem dX4_swaps_20 : decode cX4_swaps 20 = .ok (.iload_n 3, 1) := by decide +kernel
theorem dX4_swaps_21 : decode cX4_swaps 21 = .ok (.invokevirtual 84, 3) := by decide +kernel
theorem dX4_swaps_24 : decode cX4_swaps 24 = .ok (.invokevirtual 65, 3) := by decide +kernel
theorem dX4_swaps_27 : decode cX4_swaps 27 = .ok (.aload_n 0, 1) := by decide +kernel
theorem dX4_swaps_28 : decode cX4_swaps 28 = .ok (.iload_n 2, 1) := by decide +kernel
theorem dX4_swaps_29 : decode cX4_swaps 29 = .ok (.iload_n 3, 1) := by decide +kernel
theorem dX4_swaps_30 : decode cX4_swaps 30 = .ok (.iload 4, 2) := by decide +kernel
theorem dX4_swaps_32 : decode cX4_swaps 32 = .ok (.invokevirtual 65, 3) := by decide +kernel
theorem dX4_swaps_35 : decode cX4_swaps 35 = .ok (.iinc 3 1, 3) := by decide +kernel
theorem dX4_swaps_38 : decode cX4_swaps 38 = .ok (.goto (-36), 3) := by decide +kernel
theorem dX4_swaps_41 : decode cX4_swaps 41 = .ok (.return_, 1) := by decide +kernel
theorem dX4_swap_0 : decode cX4_swap 0 = .ok (.aload_n 0, 1) := by decide +kernel
theorem dX4_swap_1 : decode cX4_swap 1 = .ok (.iload_n 1, 1) := by decide +kernel
theorem dX4_swap_2 : decode cX4_swap 2 = .ok (.invokevirtual 87, 3) := by decide +kernel
theorem dX4_swap_5 : decode cX4_swap 5 = .ok (.ifCond .eq 11, 3) := by decide +kernel
theorem dX4_swap_8 : decode cX4_swap 8 = .ok (.aload_n 0, 1) := by decide +kernel
theorem dX4_swap_9 : decode cX4_swap 9 = .ok (.iload_n 2, 1) := by decide +kernel
theorem dX4_swap_10 : decode cX4_swap 10 = .ok (.invokevirtual 87, 3) := by decide +kernel
theorem dX4_swap_13 : decode cX4_swap 13 = .ok (.ifCond .ne 10, 3) := by decide +kernel
theorem dX4_swap_16 : decode cX4_swap 16 = .ok (.aload_n 0, 1) := by decide +kernel
theorem dX4_swap_17 : decode cX4_swap 17 = .ok (.ldc 42, 2) := by decide +kernel
theorem dX4_swap_19 : decode cX4_swap 19 = .ok (.invokevirtual 57, 3) := by decide +kernel
theorem dX4_swap_22 : decode cX4_swap 22 = .ok (.ireturn, 1) := by decide +kernel
theorem dX4_swap_23 : decode cX4_swap 23 = .ok (.aload_n 0, 1) := by decide +kernel
theorem dX4_swap_24 : decode cX4_swap 24 = .ok (.iload_n 1, 1) := by decide +kernel
theorem dX4_swap_25 : decode cX4_swap 25 = .ok (.iload_n 2, 1) := by decide +kernel
theorem dX4_swap_26 : decode cX4_swap 26 = .ok (.invokevirtual 111, 3) := by decide +kernel
theorem dX4_swap_29 : decode cX4_swap 29 = .ok (.iconst 1, 1) := by decide +kernel
theorem dX4_swap_30 : decode cX4_swap 30 = .ok (.ireturn, 1) := by decide +kernel
theorem dX4_isSpring_0 : decode cX4_isSpring 0 = .ok (.aload_n 0, 1) := by decide +kernel
theorem dX4_isSpring_1 : decode cX4_isSpring 1 = .ok (.invokevirtual 76, 3) := by decide +kernel
theorem dX4_isSpring_4 : decode cX4_isSpring 4 = .ok (.i2l, 1) := by decide +kernel
theorem dX4_isSpring_5 : decode cX4_isSpring 5 = .ok (.ldc2_w 80, 3) := by decide +kernel
theorem dX4_isSpring_8 : decode cX4_isSpring 8 = .ok (.ldc2_w 69, 3) := by decide +kernel
theorem dX4_isSpring_11 : decode cX4_isSpring 11 = .ok (.invokestatic 49, 3) := by decide +kernel
theorem dX4_isSpring_14 : decode cX4_isSpring 14 = .ok (.ireturn, 1) := by decide +kernel
theorem dX4_plant_0 : decode cX4_plant 0 = .ok (.aload_n 0, 1) := by decide +kernel
theorem dX4_plant_1 : decode cX4_plant 1 = .ok (.iload_n 1, 1) := by decide +kernel
theorem dX4_plant_2 : decode cX4_plant 2 = .ok (.invokevirtual 87, 3) := by decide +kernel
theorem dX4_plant_5 : decode cX4_plant 5 = .ok (.ifCond .ne 10, 3) := by decide +kernel
theorem dX4_plant_8 : decode cX4_plant 8 = .ok (.aload_n 0, 1) := by decide +kernel
theorem dX4_plant_9 : decode cX4_plant 9 = .ok (.ldc 42, 2) := by decide +kernel
theorem dX4_plant_11 : decode cX4_plant 11 = .ok (.invokevirtual 57, 3) := by decide +kernel
theorem dX4_plant_14 : decode cX4_plant 14 = .ok (.ireturn, 1) := by decide +kernel
theorem dX4_plant_15 : decode cX4_plant 15 = .ok (.aload_n 0, 1) := by decide +kernel
theorem dX4_plant_16 : decode cX4_plant 16 = .ok (.iload_n 1, 1) := by decide +kernel
theorem dX4_plant_17 : decode cX4_plant 17 = .ok (.iconst 3, 1) := by decide +kernel
theorem dX4_plant_18 : decode cX4_plant 18 = .ok (.invokevirtual 84, 3) := by decide +kernel
theorem dX4_plant_21 : decode cX4_plant 21 = .ok (.ifCond .ne 10, 3) := by decide +kernel
theorem dX4_plant_24 : decode cX4_plant 24 = .ok (.aload_n 0, 1) := by decide +kernel
theorem dX4_plant_25 : decode cX4_plant 25 = .ok (.invokevirtual 115, 3) := by decide +kernel
theorem dX4_plant_28 : decode cX4_plant 28 = .ok (.ifCond .ne 10, 3) := by decide +kernel
theorem dX4_plant_31 : decode cX4_plant 31 = .ok (.aload_n 0, 1) := by decide +kernel
theorem dX4_plant_32 : decode cX4_plant 32 = .ok (.ldc 119, 2) := by decide +kernel
theorem dX4_plant_34 : decode cX4_plant 34 = .ok (.invokevirtual 57, 3) := by decide +kernel
theorem dX4_plant_37 : decode cX4_plant 37 = .ok (.ireturn, 1) := by decide +kernel
theorem dX4_plant_38 : decode cX4_plant 38 = .ok (.aload_n 0, 1) := by decide +kernel
theorem dX4_plant_39 : decode cX4_plant 39 = .ok (.iload_n 1, 1) := by decide +kernel
theorem dX4_plant_40 : decode cX4_plant 40 = .ok (.iconst 3, 1) := by decide +kernel
theorem dX4_plant_41 : decode cX4_plant 41 = .ok (.iconst 2, 1) := by decide +kernel
theorem dX4_plant_42 : decode cX4_plant 42 = .ok (.invokevirtual 65, 3) := by decide +kernel
theorem dX4_plant_45 : decode cX4_plant 45 = .ok (.aload_n 0, 1) := by decide +kernel
theorem dX4_plant_46 : decode cX4_plant 46 = .ok (.iload_n 1, 1) := by decide +kernel
theorem dX4_plant_47 : decode cX4_plant 47 = .ok (.iconst 2, 1) := by decide +kernel
theorem dX4_plant_48 : decode cX4_plant 48 = .ok (.invokevirtual 84, 3) := by decide +kernel
theorem dX4_plant_51 : decode cX4_plant 51 = .ok (.ireturn, 1) := by decide +kernel
theorem dX4_purseOf_0 : decode cX4_purseOf 0 = .ok (.iconst 0, 1) := by decide +kernel
theorem dX4_purseOf_1 : decode cX4_purseOf 1 = .ok (.istore_n 2, 1) := by decide +kernel
theorem dX4_purseOf_2 : decode cX4_purseOf 2 = .ok (.iconst 0, 1) := by decide +kernel
theorem dX4_purseOf_3 : decode cX4_purseOf 3 = .ok (.istore_n 3, 1) := by decide +kernel
theorem dX4_purseOf_4 : decode cX4_purseOf 4 = .ok (.iload_n 3, 1) := by decide +kernel
theorem dX4_purseOf_5 : decode cX4_purseOf 5 = .ok (.aload_n 0, 1) := by decide +kernel
theorem dX4_purseOf_6 : decode cX4_purseOf 6 = .ok (.getfield 7, 3) := by decide +kernel
theorem dX4_purseOf_9 : decode cX4_purseOf 9 = .ok (.iconst 0, 1) := by decide +kernel
theorem dX4_purseOf_10 : decode cX4_purseOf 10 = .ok (.iaload, 1) := by decide +kernel
theorem dX4_purseOf_11 : decode cX4_purseOf 11 = .ok (.if_icmp .ge 31, 3) := by decide +kernel
theorem dX4_purseOf_14 : decode cX4_purseOf 14 = .ok (.iload_n 2, 1) := by decide +kernel
theorem dX4_purseOf_15 : decode cX4_purseOf 15 = .ok (.aload_n 0, 1) := by decide +kernel
theorem dX4_purseOf_16 : decode cX4_purseOf 16 = .ok (.iload_n 3, 1) := by decide +kernel
theorem dX4_purseOf_17 : decode cX4_purseOf 17 = .ok (.iconst 1, 1) := by decide +kernel
theorem dX4_purseOf_18 : decode cX4_purseOf 18 = .ok (.invokevirtual 84, 3) := by decide +kernel
theorem dX4_purseOf_21 : decode cX4_purseOf 21 = .ok (.iload_n 1, 1) := by decide +kernel
theorem dX4_purseOf_22 : decode cX4_purseOf 22 = .ok (.if_icmp .ne 11, 3) := by decide +kernel
theorem dX4_purseOf_25 : decode cX4_purseOf 25 = .ok (.aload_n 0, 1) := by decide +kernel
theorem dX4_purseOf_26 : decode cX4_purseOf 26 = .ok (.iload_n 3, 1) := by decide +kernel
theorem dX4_purseOf_27 : decode cX4_purseOf 27 = .ok (.invokevirtual 92, 3) := by decide +kernel
theorem dX4_purseOf_30 : decode cX4_purseOf 30 = .ok (.goto 4, 3) := by decide +kernel
theorem dX4_purseOf_33 : decode cX4_purseOf 33 = .ok (.iconst 0, 1) := by decide +kernel
theorem dX4_purseOf_34 : decode cX4_purseOf 34 = .ok (.iadd, 1) := by decide +kernel
theorem dX4_purseOf_35 : decode cX4_purseOf 35 = .ok (.istore_n 2, 1) := by decide +kernel
theorem dX4_purseOf_36 : decode cX4_purseOf 36 = .ok (.iinc 3 1, 3) := by decide +kernel
theorem dX4_purseOf_39 : decode cX4_purseOf 39 = .ok (.goto (-35), 3) := by decide +kernel
theorem dX4_purseOf_42 : decode cX4_purseOf 42 = .ok (.iload_n 2, 1) := by decide +kernel
theorem dX4_purseOf_43 : decode cX4_purseOf 43 = .ok (.ireturn, 1) := by decide +kernel
theorem dX4_purse_0 : decode cX4_purse 0 = .ok (.iload_n 1, 1) := by decide +kernel
theorem dX4_purse_1 : decode cX4_purse 1 = .ok (.invokestatic 43, 3) := by decide +kernel
theorem dX4_purse_4 : decode cX4_purse 4 = .ok (.ifCond .eq 11, 3) := by decide +kernel
theorem dX4_purse_7 : decode cX4_purse 7 = .ok (.aload_n 0, 1) := by decide +kernel
theorem dX4_purse_8 : decode cX4_purse 8 = .ok (.iload_n 1, 1) := by decide +kernel
theorem dX4_purse_9 : decode cX4_purse 9 = .ok (.invokevirtual 120, 3) := by decide +kernel
theorem dX4_purse_12 : decode cX4_purse 12 = .ok (.goto 9, 3) := by decide +kernel
theorem dX4_purse_15 : decode cX4_purse 15 = .ok (.aload_n 0, 1) := by decide +kernel
theorem dX4_purse_16 : decode cX4_purse 16 = .ok (.ldc 42, 2) := by decide +kernel
theorem dX4_purse_18 : decode cX4_purse 18 = .ok (.invokevirtual 57, 3) := by decide +kernel
theorem dX4_purse_21 : decode cX4_purse 21 = .ok (.ireturn, 1) := by decide +kernel
theorem dX4_soundOf_0 : decode cX4_soundOf 0 = .ok (.iconst 0, 1) := by decide +kernel
theorem dX4_soundOf_1 : decode cX4_soundOf 1 = .ok (.istore_n 2, 1) := by decide +kernel
theorem dX4_soundOf_2 : decode cX4_soundOf 2 = .ok (.iconst 0, 1) := by decide +kernel
theorem dX4_soundOf_3 : decode cX4_soundOf 3 = .ok (.istore_n 3, 1) := by decide +kernel
theorem dX4_soundOf_4 : decode cX4_soundOf 4 = .ok (.iload_n 3, 1) := by decide +kernel
theorem dX4_soundOf_5 : decode cX4_soundOf 5 = .ok (.aload_n 0, 1) := by decide +kernel
theorem dX4_soundOf_6 : decode cX4_soundOf 6 = .ok (.getfield 7, 3) := by decide +kernel
theorem dX4_soundOf_9 : decode cX4_soundOf 9 = .ok (.iconst 0, 1) := by decide +kernel
theorem dX4_soundOf_10 : decode cX4_soundOf 10 = .ok (.iaload, 1) := by decide +kernel
theorem dX4_soundOf_11 : decode cX4_soundOf 11 = .ok (.if_icmp .ge 38, 3) := by decide +kernel
theorem dX4_soundOf_14 : decode cX4_soundOf 14 = .ok (.iload_n 2, 1) := by decide +kernel
theorem dX4_soundOf_15 : decode cX4_soundOf 15 = .ok (.aload_n 0, 1) := by decide +kernel
theorem dX4_soundOf_16 : decode cX4_soundOf 16 = .ok (.iload_n 3, 1) := by decide +kernel
theorem dX4_soundOf_17 : decode cX4_soundOf 17 = .ok (.iconst 1, 1) := by decide +kernel
theorem dX4_soundOf_18 : decode cX4_soundOf 18 = .ok (.invokevirtual 84, 3) := by decide +kernel
theorem dX4_soundOf_21 : decode cX4_soundOf 21 = .ok (.iload_n 1, 1) := by decide +kernel
theorem dX4_soundOf_22 : decode cX4_soundOf 22 = .ok (.if_icmp .ne 18, 3) := by decide +kernel
theorem dX4_soundOf_25 : decode cX4_soundOf 25 = .ok (.aload_n 0, 1) := by decide +kernel
theorem dX4_soundOf_26 : decode cX4_soundOf 26 = .ok (.iload_n 3, 1) := by decide +kernel
theorem dX4_soundOf_27 : decode cX4_soundOf 27 = .ok (.iconst 3, 1) := by decide +kernel
theorem dX4_soundOf_28 : decode cX4_soundOf 28 = .ok (.invokevirtual 84, 3) := by decide +kernel
theorem dX4_soundOf_31 : decode cX4_soundOf 31 = .ok (.ifCond .ne 9, 3) := by decide +kernel
theorem dX4_soundOf_34 : decode cX4_soundOf 34 = .ok (.iconst 1, 1) := by decide +kernel
theorem dX4_soundOf_35 : decode cX4_soundOf 35 = .ok (.iload_n 3, 1) := by decide +kernel
theorem dX4_soundOf_36 : decode cX4_soundOf 36 = .ok (.ishl, 1) := by decide +kernel
theorem dX4_soundOf_37 : decode cX4_soundOf 37 = .ok (.goto 4, 3) := by decide +kernel
theorem dX4_soundOf_40 : decode cX4_soundOf 40 = .ok (.iconst 0, 1) := by decide +kernel
theorem dX4_soundOf_41 : decode cX4_soundOf 41 = .ok (.ior, 1) := by decide +kernel
theorem dX4_soundOf_42 : decode cX4_soundOf 42 = .ok (.istore_n 2, 1) := by decide +kernel
theorem dX4_soundOf_43 : decode cX4_soundOf 43 = .ok (.iinc 3 1, 3) := by decide +kernel
theorem dX4_soundOf_46 : decode cX4_soundOf 46 = .ok (.goto (-42), 3) := by decide +kernel
theorem dX4_soundOf_49 : decode cX4_soundOf 49 = .ok (.iload_n 2, 1) := by decide +kernel
theorem dX4_soundOf_50 : decode cX4_soundOf 50 = .ok (.ireturn, 1) := by decide +kernel
theorem dX4_lowest_0 : decode cX4_lowest 0 = .ok (.iconst 0, 1) := by decide +kernel
theorem dX4_lowest_1 : decode cX4_lowest 1 = .ok (.istore_n 1, 1) := by decide +kernel
theorem dX4_lowest_2 : decode cX4_lowest 2 = .ok (.iload_n 0, 1) := by decide +kernel
theorem dX4_lowest_3 : decode cX4_lowest 3 = .ok (.iload_n 1, 1) := by decide +kernel
theorem dX4_lowest_4 : decode cX4_lowest 4 = .ok (.ishr, 1) := by decide +kernel
theorem dX4_lowest_5 : decode cX4_lowest 5 = .ok (.iconst 1, 1) := by decide +kernel
theorem dX4_lowest_6 : decode cX4_lowest 6 = .ok (.iand, 1) := by decide +kernel
theorem dX4_lowest_7 : decode cX4_lowest 7 = .ok (.ifCond .ne 9, 3) := by decide +kernel
theorem dX4_lowest_10 : decode cX4_lowest 10 = .ok (.iinc 1 1, 3) := by decide +kernel
theorem dX4_lowest_13 : decode cX4_lowest 13 = .ok (.goto (-11), 3) := by decide +kernel
theorem dX4_lowest_16 : decode cX4_lowest 16 = .ok (.iload_n 1, 1) := by decide +kernel
theorem dX4_lowest_17 : decode cX4_lowest 17 = .ok (.ireturn, 1) := by decide +kernel
theorem dX4_which_0 : decode cX4_which 0 = .ok (.iload_n 1, 1) := by decide +kernel
theorem dX4_which_1 : decode cX4_which 1 = .ok (.invokestatic 43, 3) := by decide +kernel
theorem dX4_which_4 : decode cX4_which 4 = .ok (.ifCond .eq 24, 3) := by decide +kernel
theorem dX4_which_7 : decode cX4_which 7 = .ok (.iload_n 2, 1) := by decide +kernel
theorem dX4_which_8 : decode cX4_which 8 = .ok (.i2l, 1) := by decide +kernel
theorem dX4_which_9 : decode cX4_which 9 = .ok (.lconst 1, 1) := by decide +kernel
theorem dX4_which_10 : decode cX4_which 10 = .ok (.ldc2_w 123, 3) := by decide +kernel
theorem dX4_which_13 : decode cX4_which 13 = .ok (.invokestatic 49, 3) := by decide +kernel
theorem dX4_which_16 : decode cX4_which 16 = .ok (.ifCond .eq 12, 3) := by decide +kernel
theorem dX4_which_19 : decode cX4_which 19 = .ok (.aload_n 0, 1) := by decide +kernel
theorem dX4_which_20 : decode cX4_which 20 = .ok (.iload_n 1, 1) := by decide +kernel
theorem dX4_which_21 : decode cX4_which 21 = .ok (.iload_n 2, 1) := by decide +kernel
theorem dX4_which_22 : decode cX4_which 22 = .ok (.invokevirtual 125, 3) := by decide +kernel
theorem dX4_which_25 : decode cX4_which 25 = .ok (.goto 9, 3) := by decide +kernel
theorem dX4_which_28 : decode cX4_which 28 = .ok (.aload_n 0, 1) := by decide +kernel
theorem dX4_which_29 : decode cX4_which 29 = .ok (.ldc 42, 2) := by decide +kernel
theorem dX4_which_31 : decode cX4_which 31 = .ok (.invokevirtual 57, 3) := by decide +kernel
theorem dX4_which_34 : decode cX4_which 34 = .ok (.ireturn, 1) := by decide +kernel
theorem dX4_findSet_0 : decode cX4_findSet 0 = .ok (.aload_n 0, 1) := by decide +kernel
theorem dX4_findSet_1 : decode cX4_findSet 1 = .ok (.iload_n 1, 1) := by decide +kernel
theorem dX4_findSet_2 : decode cX4_findSet 2 = .ok (.invokevirtual 128, 3) := by decide +kernel
theorem dX4_findSet_5 : decode cX4_findSet 5 = .ok (.istore_n 3, 1) := by decide +kernel
theorem dX4_findSet_6 : decode cX4_findSet 6 = .ok (.iconst (-1), 1) := by decide +kernel
theorem dX4_findSet_7 : decode cX4_findSet 7 = .ok (.istore 4, 2) := by decide +kernel
theorem dX4_findSet_9 : decode cX4_findSet 9 = .ok (.aload_n 0, 1) := by decide +kernel
theorem dX4_findSet_10 : decode cX4_findSet 10 = .ok (.getfield 35, 3) := by decide +kernel
theorem dX4_findSet_13 : decode cX4_findSet 13 = .ok (.iconst 0, 1) := by decide +kernel
theorem dX4_findSet_14 : decode cX4_findSet 14 = .ok (.iconst 0, 1) := by decide +kernel
theorem dX4_findSet_15 : decode cX4_findSet 15 = .ok (.iastore, 1) := by decide +kernel
theorem dX4_findSet_16 : decode cX4_findSet 16 = .ok (.iconst 1, 1) := by decide +kernel
theorem dX4_findSet_17 : decode cX4_findSet 17 = .ok (.istore 5, 2) := by decide +kernel
theorem dX4_findSet_19 : decode cX4_findSet 19 = .ok (.iload 5, 2) := by decide +kernel
theorem dX4_findSet_21 : decode cX4_findSet 21 = .ok (.iload_n 3, 1) := by decide +kernel
theorem dX4_findSet_22 : decode cX4_findSet 22 = .ok (.if_icmp .gt 89, 3) := by decide +kernel
theorem dX4_findSet_25 : decode cX4_findSet 25 = .ok (.iload 5, 2) := by decide +kernel
theorem dX4_findSet_27 : decode cX4_findSet 27 = .ok (.iload_n 3, 1) := by decide +kernel
theorem dX4_findSet_28 : decode cX4_findSet 28 = .ok (.iconst (-1), 1) := by decide +kernel
theorem dX4_findSet_29 : decode cX4_findSet 29 = .ok (.ixor, 1) := by decide +kernel
theorem dX4_findSet_30 : decode cX4_findSet 30 = .ok (.iand, 1) := by decide +kernel
theorem dX4_findSet_31 : decode cX4_findSet 31 = .ok (.ifCond .ne 74, 3) := by decide +kernel
theorem dX4_findSet_34 : decode cX4_findSet 34 = .ok (.aload_n 0, 1) := by decide +kernel
theorem dX4_findSet_35 : decode cX4_findSet 35 = .ok (.getfield 35, 3) := by decide +kernel
theorem dX4_findSet_38 : decode cX4_findSet 38 = .ok (.iload 5, 2) := by decide +kernel
theorem dX4_findSet_40 : decode cX4_findSet 40 = .ok (.aload_n 0, 1) := by decide +kernel
theorem dX4_findSet_41 : decode cX4_findSet 41 = .ok (.getfield 35, 3) := by decide +kernel
theorem dX4_findSet_44 : decode cX4_findSet 44 = .ok (.iload 5, 2) := by decide +kernel
theorem dX4_findSet_46 : decode cX4_findSet 46 = .ok (.iload 5, 2) := by decide +kernel
theorem dX4_findSet_48 : decode cX4_findSet 48 = .ok (.iconst 1, 1) := by decide +kernel
theorem dX4_findSet_49 : decode cX4_findSet 49 = .ok (.isub, 1) := by decide +kernel
theorem dX4_findSet_50 : decode cX4_findSet 50 = .ok (.iand, 1) := by decide +kernel
theorem dX4_findSet_51 : decode cX4_findSet 51 = .ok (.iaload, 1) := by decide +kernel
theorem dX4_findSet_52 : decode cX4_findSet 52 = .ok (.aload_n 0, 1) := by decide +kernel
theorem dX4_findSet_53 : decode cX4_findSet 53 = .ok (.iload 5, 2) := by decide +kernel
theorem dX4_findSet_55 : decode cX4_findSet 55 = .ok (.invokestatic 131, 3) := by decide +kernel
theorem dX4_findSet_58 : decode cX4_findSet 58 = .ok (.invokevirtual 92, 3) := by decide +kernel
theorem dX4_findSet_61 : decode cX4_findSet 61 = .ok (.iadd, 1) := by decide +kernel
theorem dX4_findSet_62 : decode cX4_findSet 62 = .ok (.iastore, 1) := by decide +kernel
theorem dX4_findSet_63 : decode cX4_findSet 63 = .ok (.aload_n 0, 1) := by decide +kernel
theorem dX4_findSet_64 : decode cX4_findSet 64 = .ok (.getfield 35, 3) := by decide +kernel
theorem dX4_findSet_67 : decode cX4_findSet 67 = .ok (.iload 5, 2) := by decide +kernel
theorem dX4_findSet_69 : decode cX4_findSet 69 = .ok (.iaload, 1) := by decide +kernel
theorem dX4_findSet_70 : decode cX4_findSet 70 = .ok (.iload_n 2, 1) := by decide +kernel
theorem dX4_findSet_71 : decode cX4_findSet 71 = .ok (.if_icmp .lt 30, 3) := by decide +kernel
theorem dX4_findSet_74 : decode cX4_findSet 74 = .ok (.iload 4, 2) := by decide +kernel
theorem dX4_findSet_76 : decode cX4_findSet 76 = .ok (.ifCond .lt 20, 3) := by decide +kernel
theorem dX4_findSet_79 : decode cX4_findSet 79 = .ok (.aload_n 0, 1) := by decide +kernel
theorem dX4_findSet_80 : decode cX4_findSet 80 = .ok (.getfield 35, 3) := by decide +kernel
theorem dX4_findSet_83 : decode cX4_findSet 83 = .ok (.iload 5, 2) := by decide +kernel
theorem dX4_findSet_85 : decode cX4_findSet 85 = .ok (.iaload, 1) := by decide +kernel
theorem dX4_findSet_86 : decode cX4_findSet 86 = .ok (.aload_n 0, 1) := by decide +kernel
theorem dX4_findSet_87 : decode cX4_findSet 87 = .ok (.getfield 35, 3) := by decide +kernel
theorem dX4_findSet_90 : decode cX4_findSet 90 = .ok (.iload 4, 2) := by decide +kernel
theorem dX4_findSet_92 : decode cX4_findSet 92 = .ok (.iaload, 1) := by decide +kernel
theorem dX4_findSet_93 : decode cX4_findSet 93 = .ok (.if_icmp .ge 8, 3) := by decide +kernel
theorem dX4_findSet_96 : decode cX4_findSet 96 = .ok (.iload 5, 2) := by decide +kernel
theorem dX4_findSet_98 : decode cX4_findSet 98 = .ok (.goto 5, 3) := by decide +kernel
theorem dX4_findSet_101 : decode cX4_findSet 101 = .ok (.iload 4, 2) := by decide +kernel
theorem dX4_findSet_103 : decode cX4_findSet 103 = .ok (.istore 4, 2) := by decide +kernel
theorem dX4_findSet_105 : decode cX4_findSet 105 = .ok (.iinc 5 1, 3) := by decide +kernel
theorem dX4_findSet_108 : decode cX4_findSet 108 = .ok (.goto (-89), 3) := by decide +kernel
theorem dX4_findSet_111 : decode cX4_findSet 111 = .ok (.iload 4, 2) := by decide +kernel
theorem dX4_findSet_113 : decode cX4_findSet 113 = .ok (.ifCond .ge 7, 3) := by decide +kernel
theorem dX4_findSet_116 : decode cX4_findSet 116 = .ok (.iload_n 3, 1) := by decide +kernel
theorem dX4_findSet_117 : decode cX4_findSet 117 = .ok (.goto 5, 3) := by decide +kernel
theorem dX4_findSet_120 : decode cX4_findSet 120 = .ok (.iload 4, 2) := by decide +kernel
theorem dX4_findSet_122 : decode cX4_findSet 122 = .ok (.ireturn, 1) := by decide +kernel
theorem dX4_over_0 : decode cX4_over 0 = .ok (.iload_n 1, 1) := by decide +kernel
theorem dX4_over_1 : decode cX4_over 1 = .ok (.invokestatic 43, 3) := by decide +kernel
theorem dX4_over_4 : decode cX4_over 4 = .ok (.ifCond .eq 31, 3) := by decide +kernel
theorem dX4_over_7 : decode cX4_over 7 = .ok (.iload_n 2, 1) := by decide +kernel
theorem dX4_over_8 : decode cX4_over 8 = .ok (.i2l, 1) := by decide +kernel
theorem dX4_over_9 : decode cX4_over 9 = .ok (.lconst 1, 1) := by decide +kernel
theorem dX4_over_10 : decode cX4_over 10 = .ok (.ldc2_w 123, 3) := by decide +kernel
theorem dX4_over_13 : decode cX4_over 13 = .ok (.invokestatic 49, 3) := by decide +kernel
theorem dX4_over_16 : decode cX4_over 16 = .ok (.ifCond .eq 19, 3) := by decide +kernel
theorem dX4_over_19 : decode cX4_over 19 = .ok (.aload_n 0, 1) := by decide +kernel
theorem dX4_over_20 : decode cX4_over 20 = .ok (.getfield 35, 3) := by decide +kernel
theorem dX4_over_23 : decode cX4_over 23 = .ok (.aload_n 0, 1) := by decide +kernel
theorem dX4_over_24 : decode cX4_over 24 = .ok (.iload_n 1, 1) := by decide +kernel
theorem dX4_over_25 : decode cX4_over 25 = .ok (.iload_n 2, 1) := by decide +kernel
theorem dX4_over_26 : decode cX4_over 26 = .ok (.invokevirtual 125, 3) := by decide +kernel
theorem dX4_over_29 : decode cX4_over 29 = .ok (.iaload, 1) := by decide +kernel
theorem dX4_over_30 : decode cX4_over 30 = .ok (.iload_n 2, 1) := by decide +kernel
theorem dX4_over_31 : decode cX4_over 31 = .ok (.isub, 1) := by decide +kernel
theorem dX4_over_32 : decode cX4_over 32 = .ok (.goto 9, 3) := by decide +kernel
theorem dX4_over_35 : decode cX4_over 35 = .ok (.aload_n 0, 1) := by decide +kernel
theorem dX4_over_36 : decode cX4_over 36 = .ok (.ldc 42, 2) := by decide +kernel
theorem dX4_over_38 : decode cX4_over 38 = .ok (.invokevirtual 57, 3) := by decide +kernel
theorem dX4_over_41 : decode cX4_over 41 = .ok (.ireturn, 1) := by decide +kernel
theorem dX4_pays_0 : decode cX4_pays 0 = .ok (.aload_n 0, 1) := by decide +kernel
theorem dX4_pays_1 : decode cX4_pays 1 = .ok (.iload_n 1, 1) := by decide +kernel
theorem dX4_pays_2 : decode cX4_pays 2 = .ok (.iload_n 3, 1) := by decide +kernel
theorem dX4_pays_3 : decode cX4_pays 3 = .ok (.invokevirtual 125, 3) := by decide +kernel
theorem dX4_pays_6 : decode cX4_pays 6 = .ok (.istore 4, 2) := by decide +kernel
theorem dX4_pays_8 : decode cX4_pays 8 = .ok (.aload_n 0, 1) := by decide +kernel
theorem dX4_pays_9 : decode cX4_pays 9 = .ok (.getfield 7, 3) := by decide +kernel
theorem dX4_pays_12 : decode cX4_pays 12 = .ok (.iconst 3, 1) := by decide +kernel
theorem dX4_pays_13 : decode cX4_pays 13 = .ok (.dup2, 1) := by decide +kernel
theorem dX4_pays_14 : decode cX4_pays 14 = .ok (.iaload, 1) := by decide +kernel
theorem dX4_pays_15 : decode cX4_pays 15 = .ok (.aload_n 0, 1) := by decide +kernel
theorem dX4_pays_16 : decode cX4_pays 16 = .ok (.getfield 35, 3) := by decide +kernel
theorem dX4_pays_19 : decode cX4_pays 19 = .ok (.iload 4, 2) := by decide +kernel
theorem dX4_pays_21 : decode cX4_pays 21 = .ok (.iaload, 1) := by decide +kernel
theorem dX4_pays_22 : decode cX4_pays 22 = .ok (.iload_n 3, 1) := by decide +kernel
theorem dX4_pays_23 : decode cX4_pays 23 = .ok (.if_icmp .ge 15, 3) := by decide +kernel
theorem dX4_pays_26 : decode cX4_pays 26 = .ok (.iload_n 3, 1) := by decide +kernel
theorem dX4_pays_27 : decode cX4_pays 27 = .ok (.aload_n 0, 1) := by decide +kernel
theorem dX4_pays_28 : decode cX4_pays 28 = .ok (.getfield 35, 3) := by decide +kernel
theorem dX4_pays_31 : decode cX4_pays 31 = .ok (.iload 4, 2) := by decide +kernel
theorem dX4_pays_33 : decode cX4_pays 33 = .ok (.iaload, 1) := by decide +kernel
theorem dX4_pays_34 : decode cX4_pays 34 = .ok (.isub, 1) := by decide +kernel
theorem dX4_pays_35 : decode cX4_pays 35 = .ok (.goto 4, 3) := by decide +kernel
theorem dX4_pays_38 : decode cX4_pays 38 = .ok (.iconst 0, 1) := by decide +kernel
theorem dX4_pays_39 : decode cX4_pays 39 = .ok (.iadd, 1) := by decide +kernel
theorem dX4_pays_40 : decode cX4_pays 40 = .ok (.iastore, 1) := by decide +kernel
theorem dX4_pays_41 : decode cX4_pays 41 = .ok (.iconst 0, 1) := by decide +kernel
theorem dX4_pays_42 : decode cX4_pays 42 = .ok (.istore 5, 2) := by decide +kernel
theorem dX4_pays_44 : decode cX4_pays 44 = .ok (.iload 5, 2) := by decide +kernel
theorem dX4_pays_46 : decode cX4_pays 46 = .ok (.aload_n 0, 1) := by decide +kernel
theorem dX4_pays_47 : decode cX4_pays 47 = .ok (.getfield 7, 3) := by decide +kernel
theorem dX4_pays_50 : decode cX4_pays 50 = .ok (.iconst 0, 1) := by decide +kernel
theorem dX4_pays_51 : decode cX4_pays 51 = .ok (.iaload, 1) := by decide +kernel
theorem dX4_pays_52 : decode cX4_pays 52 = .ok (.if_icmp .ge 28, 3) := by decide +kernel
theorem dX4_pays_55 : decode cX4_pays 55 = .ok (.iload 4, 2) := by decide +kernel
theorem dX4_pays_57 : decode cX4_pays 57 = .ok (.iload 5, 2) := by decide +kernel
theorem dX4_pays_59 : decode cX4_pays 59 = .ok (.ishr, 1) := by decide +kernel
theorem dX4_pays_60 : decode cX4_pays 60 = .ok (.iconst 1, 1) := by decide +kernel
theorem dX4_pays_61 : decode cX4_pays 61 = .ok (.iand, 1) := by decide +kernel
theorem dX4_pays_62 : decode cX4_pays 62 = .ok (.iconst 1, 1) := by decide +kernel
theorem dX4_pays_63 : decode cX4_pays 63 = .ok (.if_icmp .ne 11, 3) := by decide +kernel
theorem dX4_pays_66 : decode cX4_pays 66 = .ok (.aload_n 0, 1) := by decide +kernel
theorem dX4_pays_67 : decode cX4_pays 67 = .ok (.iload 5, 2) := by decide +kernel
theorem dX4_pays_69 : decode cX4_pays 69 = .ok (.iconst 1, 1) := by decide +kernel
theorem dX4_pays_70 : decode cX4_pays 70 = .ok (.iload_n 2, 1) := by decide +kernel
theorem dX4_pays_71 : decode cX4_pays 71 = .ok (.invokevirtual 65, 3) := by decide +kernel
theorem dX4_pays_74 : decode cX4_pays 74 = .ok (.iinc 5 1, 3) := by decide +kernel
theorem dX4_pays_77 : decode cX4_pays 77 = .ok (.goto (-33), 3) := by decide +kernel
theorem dX4_pays_80 : decode cX4_pays 80 = .ok (.iload 4, 2) := by decide +kernel
theorem dX4_pays_82 : decode cX4_pays 82 = .ok (.ireturn, 1) := by decide +kernel
theorem dX4_pay_0 : decode cX4_pay 0 = .ok (.iload_n 1, 1) := by decide +kernel
theorem dX4_pay_1 : decode cX4_pay 1 = .ok (.invokestatic 43, 3) := by decide +kernel
theorem dX4_pay_4 : decode cX4_pay 4 = .ok (.ifCond .eq 37, 3) := by decide +kernel
theorem dX4_pay_7 : decode cX4_pay 7 = .ok (.iload_n 2, 1) := by decide +kernel
theorem dX4_pay_8 : decode cX4_pay 8 = .ok (.invokestatic 43, 3) := by decide +kernel
theorem dX4_pay_11 : decode cX4_pay 11 = .ok (.ifCond .eq 30, 3) := by decide +kernel
theorem dX4_pay_14 : decode cX4_pay 14 = .ok (.iload_n 1, 1) := by decide +kernel
theorem dX4_pay_15 : decode cX4_pay 15 = .ok (.iload_n 2, 1) := by decide +kernel
theorem dX4_pay_16 : decode cX4_pay 16 = .ok (.if_icmp .eq 25, 3) := by decide +kernel
theorem dX4_pay_19 : decode cX4_pay 19 = .ok (.iload_n 3, 1) := by decide +kernel
theorem dX4_pay_20 : decode cX4_pay 20 = .ok (.i2l, 1) := by decide +kernel
theorem dX4_pay_21 : decode cX4_pay 21 = .ok (.lconst 1, 1) := by decide +kernel
theorem dX4_pay_22 : decode cX4_pay 22 = .ok (.ldc2_w 123, 3) := by decide +kernel
theorem dX4_pay_25 : decode cX4_pay 25 = .ok (.invokestatic 49, 3) := by decide +kernel
theorem dX4_pay_28 : decode cX4_pay 28 = .ok (.ifCond .eq 13, 3) := by decide +kernel
theorem dX4_pay_31 : decode cX4_pay 31 = .ok (.aload_n 0, 1) := by decide +kernel
theorem dX4_pay_32 : decode cX4_pay 32 = .ok (.iload_n 1, 1) := by decide +kernel
theorem dX4_pay_33 : decode cX4_pay 33 = .ok (.iload_n 2, 1) := by decide +kernel
theorem dX4_pay_34 : decode cX4_pay 34 = .ok (.iload_n 3, 1) := by decide +kernel
theorem dX4_pay_35 : decode cX4_pay 35 = .ok (.invokevirtual 134, 3) := by decide +kernel
theorem dX4_pay_38 : decode cX4_pay 38 = .ok (.goto 9, 3) := by decide +kernel
theorem dX4_pay_41 : decode cX4_pay 41 = .ok (.aload_n 0, 1) := by decide +kernel
theorem dX4_pay_42 : decode cX4_pay 42 = .ok (.ldc 42, 2) := by decide +kernel
theorem dX4_pay_44 : decode cX4_pay 44 = .ok (.invokevirtual 57, 3) := by decide +kernel
theorem dX4_pay_47 : decode cX4_pay 47 = .ok (.ireturn, 1) := by decide +kernel
theorem dX4_lends_0 : decode cX4_lends 0 = .ok (.bipush 68, 2) := by decide +kernel
theorem dX4_lends_2 : decode cX4_lends 2 = .ok (.iconst 5, 1) := by decide +kernel
theorem dX4_lends_3 : decode cX4_lends 3 = .ok (.aload_n 0, 1) := by decide +kernel
theorem dX4_lends_4 : decode cX4_lends 4 = .ok (.getfield 7, 3) := by decide +kernel
theorem dX4_lends_7 : decode cX4_lends 7 = .ok (.iconst 1, 1) := by decide +kernel
theorem dX4_lends_8 : decode cX4_lends 8 = .ok (.iaload, 1) := by decide +kernel
theorem dX4_lends_9 : decode cX4_lends 9 = .ok (.imul, 1) := by decide +kernel
theorem dX4_lends_10 : decode cX4_lends 10 = .ok (.iadd, 1) := by decide +kernel
theorem dX4_lends_11 : decode cX4_lends 11 = .ok (.istore 5, 2) := by decide +kernel
theorem dX4_lends_13 : decode cX4_lends 13 = .ok (.aload_n 0, 1) := by decide +kernel
theorem dX4_lends_14 : decode cX4_lends 14 = .ok (.getfield 7, 3) := by decide +kernel
theorem dX4_lends_17 : decode cX4_lends 17 = .ok (.iload 5, 2) := by decide +kernel
theorem dX4_lends_19 : decode cX4_lends 19 = .ok (.iload_n 1, 1) := by decide +kernel
theorem dX4_lends_20 : decode cX4_lends 20 = .ok (.iastore, 1) := by decide +kernel
theorem dX4_lends_21 : decode cX4_lends 21 = .ok (.aload_n 0, 1) := by decide +kernel
theorem dX4_lends_22 : decode cX4_lends 22 = .ok (.getfield 7, 3) := by decide +kernel
theorem dX4_lends_25 : decode cX4_lends 25 = .ok (.iload 5, 2) := by decide +kernel
theorem dX4_lends_27 : decode cX4_lends 27 = .ok (.iconst 1, 1) := by decide +kernel
theorem dX4_lends_28 : decode cX4_lends 28 = .ok (.iadd, 1) := by decide +kernel
theorem dX4_lends_29 : decode cX4_lends 29 = .ok (.iload_n 2, 1) := by decide +kernel
theorem dX4_lends_30 : decode cX4_lends 30 = .ok (.iastore, 1) := by decide +kernel
theorem dX4_lends_31 : decode cX4_lends 31 = .ok (.aload_n 0, 1) := by decide +kernel
theorem dX4_lends_32 : decode cX4_lends 32 = .ok (.getfield 7, 3) := by decide +kernel
theorem dX4_lends_35 : decode cX4_lends 35 = .ok (.iload 5, 2) := by decide +kernel
theorem dX4_lends_37 : decode cX4_lends 37 = .ok (.iconst 2, 1) := by decide +kernel
theorem dX4_lends_38 : decode cX4_lends 38 = .ok (.iadd, 1) := by decide +kernel
theorem dX4_lends_39 : decode cX4_lends 39 = .ok (.iload_n 3, 1) := by decide +kernel
theorem dX4_lends_40 : decode cX4_lends 40 = .ok (.iastore, 1) := by decide +kernel
theorem dX4_lends_41 : decode cX4_lends 41 = .ok (.aload_n 0, 1) := by decide +kernel
theorem dX4_lends_42 : decode cX4_lends 42 = .ok (.getfield 7, 3) := by decide +kernel
theorem dX4_lends_45 : decode cX4_lends 45 = .ok (.iload 5, 2) := by decide +kernel
theorem dX4_lends_47 : decode cX4_lends 47 = .ok (.iconst 3, 1) := by decide +kernel
theorem dX4_lends_48 : decode cX4_lends 48 = .ok (.iadd, 1) := by decide +kernel
theorem dX4_lends_49 : decode cX4_lends 49 = .ok (.aload_n 0, 1) := by decide +kernel
theorem dX4_lends_50 : decode cX4_lends 50 = .ok (.getfield 7, 3) := by decide +kernel
theorem dX4_lends_53 : decode cX4_lends 53 = .ok (.iconst 2, 1) := by decide +kernel
theorem dX4_lends_54 : decode cX4_lends 54 = .ok (.iaload, 1) := by decide +kernel
theorem dX4_lends_55 : decode cX4_lends 55 = .ok (.iload 4, 2) := by decide +kernel
theorem dX4_lends_57 : decode cX4_lends 57 = .ok (.iadd, 1) := by decide +kernel
theorem dX4_lends_58 : decode cX4_lends 58 = .ok (.iastore, 1) := by decide +kernel
theorem dX4_lends_59 : decode cX4_lends 59 = .ok (.aload_n 0, 1) := by decide +kernel
theorem dX4_lends_60 : decode cX4_lends 60 = .ok (.getfield 7, 3) := by decide +kernel
theorem dX4_lends_63 : decode cX4_lends 63 = .ok (.iload 5, 2) := by decide +kernel
theorem dX4_lends_65 : decode cX4_lends 65 = .ok (.iconst 4, 1) := by decide +kernel
theorem dX4_lends_66 : decode cX4_lends 66 = .ok (.iadd, 1) := by decide +kernel
theorem dX4_lends_67 : decode cX4_lends 67 = .ok (.iconst 0, 1) := by decide +kernel
theorem dX4_lends_68 : decode cX4_lends 68 = .ok (.iastore, 1) := by decide +kernel
theorem dX4_lends_69 : decode cX4_lends 69 = .ok (.aload_n 0, 1) := by decide +kernel
theorem dX4_lends_70 : decode cX4_lends 70 = .ok (.getfield 7, 3) := by decide +kernel
theorem dX4_lends_73 : decode cX4_lends 73 = .ok (.iconst 1, 1) := by decide +kernel
theorem dX4_lends_74 : decode cX4_lends 74 = .ok (.dup2, 1) := by decide +kernel
theorem dX4_lends_75 : decode cX4_lends 75 = .ok (.iaload, 1) := by decide +kernel
theorem dX4_lends_76 : decode cX4_lends 76 = .ok (.iconst 1, 1) := by decide +kernel
theorem dX4_lends_77 : decode cX4_lends 77 = .ok (.iadd, 1) := by decide +kernel
theorem dX4_lends_78 : decode cX4_lends 78 = .ok (.iastore, 1) := by decide +kernel
theorem dX4_lends_79 : decode cX4_lends 79 = .ok (.aload_n 0, 1) := by decide +kernel
theorem dX4_lends_80 : decode cX4_lends 80 = .ok (.getfield 7, 3) := by decide +kernel
theorem dX4_lends_83 : decode cX4_lends 83 = .ok (.iconst 1, 1) := by decide +kernel
theorem dX4_lends_84 : decode cX4_lends 84 = .ok (.iaload, 1) := by decide +kernel
theorem dX4_lends_85 : decode cX4_lends 85 = .ok (.iconst 1, 1) := by decide +kernel
theorem dX4_lends_86 : decode cX4_lends 86 = .ok (.isub, 1) := by decide +kernel
theorem dX4_lends_87 : decode cX4_lends 87 = .ok (.ireturn, 1) := by decide +kernel
theorem dX4_loan_0 : decode cX4_loan 0 = .ok (.iload_n 1, 1) := by decide +kernel
theorem dX4_loan_1 : decode cX4_loan 1 = .ok (.invokestatic 43, 3) := by decide +kernel
theorem dX4_loan_4 : decode cX4_loan 4 = .ok (.ifCond .eq 40, 3) := by decide +kernel
theorem dX4_loan_7 : decode cX4_loan 7 = .ok (.iload_n 2, 1) := by decide +kernel
theorem dX4_loan_8 : decode cX4_loan 8 = .ok (.invokestatic 43, 3) := by decide +kernel
theorem dX4_loan_11 : decode cX4_loan 11 = .ok (.ifCond .eq 33, 3) := by decide +kernel
theorem dX4_loan_14 : decode cX4_loan 14 = .ok (.iload_n 1, 1) := by decide +kernel
theorem dX4_loan_15 : decode cX4_loan 15 = .ok (.iload_n 2, 1) := by decide +kernel
theorem dX4_loan_16 : decode cX4_loan 16 = .ok (.if_icmp .eq 28, 3) := by decide +kernel
theorem dX4_loan_19 : decode cX4_loan 19 = .ok (.iload_n 3, 1) := by decide +kernel
theorem dX4_loan_20 : decode cX4_loan 20 = .ok (.i2l, 1) := by decide +kernel
theorem dX4_loan_21 : decode cX4_loan 21 = .ok (.lconst 1, 1) := by decide +kernel
theorem dX4_loan_22 : decode cX4_loan 22 = .ok (.ldc2_w 123, 3) := by decide +kernel
theorem dX4_loan_25 : decode cX4_loan 25 = .ok (.invokestatic 49, 3) := by decide +kernel
theorem dX4_loan_28 : decode cX4_loan 28 = .ok (.ifCond .eq 16, 3) := by decide +kernel
theorem dX4_loan_31 : decode cX4_loan 31 = .ok (.iload 4, 2) := by decide +kernel
theorem dX4_loan_33 : decode cX4_loan 33 = .ok (.i2l, 1) := by decide +kernel
theorem dX4_loan_34 : decode cX4_loan 34 = .ok (.lconst 1, 1) := by decide +kernel
theorem dX4_loan_35 : decode cX4_loan 35 = .ok (.ldc2_w 137, 3) := by decide +kernel
theorem dX4_loan_38 : decode cX4_loan 38 = .ok (.invokestatic 49, 3) := by decide +kernel
theorem dX4_loan_41 : decode cX4_loan 41 = .ok (.ifCond .ne 10, 3) := by decide +kernel
theorem dX4_loan_44 : decode cX4_loan 44 = .ok (.aload_n 0, 1) := by decide +kernel
theorem dX4_loan_45 : decode cX4_loan 45 = .ok (.ldc 42, 2) := by decide +kernel
theorem dX4_loan_47 : decode cX4_loan 47 = .ok (.invokevirtual 57, 3) := by decide +kernel
theorem dX4_loan_50 : decode cX4_loan 50 = .ok (.ireturn, 1) := by decide +kernel
theorem dX4_loan_51 : decode cX4_loan 51 = .ok (.aload_n 0, 1) := by decide +kernel
theorem dX4_loan_52 : decode cX4_loan 52 = .ok (.iload 4, 2) := by decide +kernel
theorem dX4_loan_54 : decode cX4_loan 54 = .ok (.invokevirtual 139, 3) := by decide +kernel
theorem dX4_loan_57 : decode cX4_loan 57 = .ok (.ifCond .eq 10, 3) := by decide +kernel
theorem dX4_loan_60 : decode cX4_loan 60 = .ok (.aload_n 0, 1) := by decide +kernel
theorem dX4_loan_61 : decode cX4_loan 61 = .ok (.ldc 119, 2) := by decide +kernel
theorem dX4_loan_63 : decode cX4_loan 63 = .ok (.invokevirtual 57, 3) := by decide +kernel
theorem dX4_loan_66 : decode cX4_loan 66 = .ok (.ireturn, 1) := by decide +kernel
theorem dX4_loan_67 : decode cX4_loan 67 = .ok (.aload_n 0, 1) := by decide +kernel
theorem dX4_loan_68 : decode cX4_loan 68 = .ok (.getfield 7, 3) := by decide +kernel
theorem dX4_loan_71 : decode cX4_loan 71 = .ok (.iconst 1, 1) := by decide +kernel
theorem dX4_loan_72 : decode cX4_loan 72 = .ok (.iaload, 1) := by decide +kernel
theorem dX4_loan_73 : decode cX4_loan 73 = .ok (.bipush 8, 2) := by decide +kernel
theorem dX4_loan_75 : decode cX4_loan 75 = .ok (.if_icmp .ne 12, 3) := by decide +kernel
theorem dX4_loan_78 : decode cX4_loan 78 = .ok (.aload_n 0, 1) := by decide +kernel
theorem dX4_loan_79 : decode cX4_loan 79 = .ok (.ldc 71, 2) := by decide +kernel
theorem dX4_loan_81 : decode cX4_loan 81 = .ok (.invokevirtual 57, 3) := by decide +kernel
theorem dX4_loan_84 : decode cX4_loan 84 = .ok (.goto 12, 3) := by decide +kernel
theorem dX4_loan_87 : decode cX4_loan 87 = .ok (.aload_n 0, 1) := by decide +kernel
theorem dX4_loan_88 : decode cX4_loan 88 = .ok (.iload_n 1, 1) := by decide +kernel
theorem dX4_loan_89 : decode cX4_loan 89 = .ok (.iload_n 2, 1) := by decide +kernel
theorem dX4_loan_90 : decode cX4_loan 90 = .ok (.iload_n 3, 1) := by decide +kernel
theorem dX4_loan_91 : decode cX4_loan 91 = .ok (.iload 4, 2) := by decide +kernel
theorem dX4_loan_93 : decode cX4_loan 93 = .ok (.invokevirtual 142, 3) := by decide +kernel
theorem dX4_loan_96 : decode cX4_loan 96 = .ok (.ireturn, 1) := by decide +kernel
theorem dX4_loanOf_0 : decode cX4_loanOf 0 = .ok (.iload_n 1, 1) := by decide +kernel
theorem dX4_loanOf_1 : decode cX4_loanOf 1 = .ok (.i2l, 1) := by decide +kernel
theorem dX4_loanOf_2 : decode cX4_loanOf 2 = .ok (.lconst 0, 1) := by decide +kernel
theorem dX4_loanOf_3 : decode cX4_loanOf 3 = .ok (.aload_n 0, 1) := by decide +kernel
theorem dX4_loanOf_4 : decode cX4_loanOf 4 = .ok (.getfield 7, 3) := by decide +kernel
theorem dX4_loanOf_7 : decode cX4_loanOf 7 = .ok (.iconst 1, 1) := by decide +kernel
theorem dX4_loanOf_8 : decode cX4_loanOf 8 = .ok (.iaload, 1) := by decide +kernel
theorem dX4_loanOf_9 : decode cX4_loanOf 9 = .ok (.iconst 1, 1) := by decide +kernel
theorem dX4_loanOf_10 : decode cX4_loanOf 10 = .ok (.isub, 1) := by decide +kernel
theorem dX4_loanOf_11 : decode cX4_loanOf 11 = .ok (.i2l, 1) := by decide +kernel
theorem dX4_loanOf_12 : decode cX4_loanOf 12 = .ok (.invokestatic 49, 3) := by decide +kernel
theorem dX4_loanOf_15 : decode cX4_loanOf 15 = .ok (.ifCond .eq 31, 3) := by decide +kernel
theorem dX4_loanOf_18 : decode cX4_loanOf 18 = .ok (.iload_n 2, 1) := by decide +kernel
theorem dX4_loanOf_19 : decode cX4_loanOf 19 = .ok (.i2l, 1) := by decide +kernel
theorem dX4_loanOf_20 : decode cX4_loanOf 20 = .ok (.lconst 0, 1) := by decide +kernel
theorem dX4_loanOf_21 : decode cX4_loanOf 21 = .ok (.ldc2_w 82, 3) := by decide +kernel
theorem dX4_loanOf_24 : decode cX4_loanOf 24 = .ok (.invokestatic 49, 3) := by decide +kernel
theorem dX4_loanOf_27 : decode cX4_loanOf 27 = .ok (.ifCond .eq 19, 3) := by decide +kernel
theorem dX4_loanOf_30 : decode cX4_loanOf 30 = .ok (.aload_n 0, 1) := by decide +kernel
theorem dX4_loanOf_31 : decode cX4_loanOf 31 = .ok (.getfield 7, 3) := by decide +kernel
theorem dX4_loanOf_34 : decode cX4_loanOf 34 = .ok (.bipush 68, 2) := by decide +kernel
theorem dX4_loanOf_36 : decode cX4_loanOf 36 = .ok (.iconst 5, 1) := by decide +kernel
theorem dX4_loanOf_37 : decode cX4_loanOf 37 = .ok (.iload_n 1, 1) := by decide +kernel
theorem dX4_loanOf_38 : decode cX4_loanOf 38 = .ok (.imul, 1) := by decide +kernel
theorem dX4_loanOf_39 : decode cX4_loanOf 39 = .ok (.iadd, 1) := by decide +kernel
theorem dX4_loanOf_40 : decode cX4_loanOf 40 = .ok (.iload_n 2, 1) := by decide +kernel
theorem dX4_loanOf_41 : decode cX4_loanOf 41 = .ok (.iadd, 1) := by decide +kernel
theorem dX4_loanOf_42 : decode cX4_loanOf 42 = .ok (.iaload, 1) := by decide +kernel
theorem dX4_loanOf_43 : decode cX4_loanOf 43 = .ok (.goto 9, 3) := by decide +kernel
theorem dX4_loanOf_46 : decode cX4_loanOf 46 = .ok (.aload_n 0, 1) := by decide +kernel
theorem dX4_loanOf_47 : decode cX4_loanOf 47 = .ok (.ldc 42, 2) := by decide +kernel
theorem dX4_loanOf_49 : decode cX4_loanOf 49 = .ok (.invokevirtual 57, 3) := by decide +kernel
theorem dX4_loanOf_52 : decode cX4_loanOf 52 = .ok (.ireturn, 1) := by decide +kernel
theorem dX4_tax_0 : decode cX4_tax 0 = .ok (.iconst 0, 1) := by decide +kernel
theorem dX4_tax_1 : decode cX4_tax 1 = .ok (.istore_n 1, 1) := by decide +kernel
theorem dX4_tax_2 : decode cX4_tax 2 = .ok (.iconst 0, 1) := by decide +kernel
theorem dX4_tax_3 : decode cX4_tax 3 = .ok (.istore_n 2, 1) := by decide +kernel
theorem dX4_tax_4 : decode cX4_tax 4 = .ok (.iload_n 2, 1) := by decide +kernel
theorem dX4_tax_5 : decode cX4_tax 5 = .ok (.iconst 4, 1) := by decide +kernel
theorem dX4_tax_6 : decode cX4_tax 6 = .ok (.if_icmp .ge 103, 3) := by decide +kernel
theorem dX4_tax_9 : decode cX4_tax 9 = .ok (.iconst (-1), 1) := by decide +kernel
theorem dX4_tax_10 : decode cX4_tax 10 = .ok (.istore_n 3, 1) := by decide +kernel
theorem dX4_tax_11 : decode cX4_tax 11 = .ok (.iconst 0, 1) := by decide +kernel
theorem dX4_tax_12 : decode cX4_tax 12 = .ok (.istore 4, 2) := by decide +kernel
theorem dX4_tax_14 : decode cX4_tax 14 = .ok (.iload 4, 2) := by decide +kernel
theorem dX4_tax_16 : decode cX4_tax 16 = .ok (.aload_n 0, 1) := by decide +kernel
theorem dX4_tax_17 : decode cX4_tax 17 = .ok (.getfield 7, 3) := by decide +kernel
theorem dX4_tax_20 : decode cX4_tax 20 = .ok (.iconst 0, 1) := by decide +kernel
theorem dX4_tax_21 : decode cX4_tax 21 = .ok (.iaload, 1) := by decide +kernel
theorem dX4_tax_22 : decode cX4_tax 22 = .ok (.if_icmp .ge 67, 3) := by decide +kernel
theorem dX4_tax_25 : decode cX4_tax 25 = .ok (.aload_n 0, 1) := by decide +kernel
theorem dX4_tax_26 : decode cX4_tax 26 = .ok (.iload 4, 2) := by decide +kernel
theorem dX4_tax_28 : decode cX4_tax 28 = .ok (.iconst 1, 1) := by decide +kernel
theorem dX4_tax_29 : decode cX4_tax 29 = .ok (.invokevirtual 84, 3) := by decide +kernel
theorem dX4_tax_32 : decode cX4_tax 32 = .ok (.iload_n 2, 1) := by decide +kernel
theorem dX4_tax_33 : decode cX4_tax 33 = .ok (.if_icmp .ne 17, 3) := by decide +kernel
theorem dX4_tax_36 : decode cX4_tax 36 = .ok (.aload_n 0, 1) := by decide +kernel
theorem dX4_tax_37 : decode cX4_tax 37 = .ok (.iload 4, 2) := by decide +kernel
theorem dX4_tax_39 : decode cX4_tax 39 = .ok (.iconst 3, 1) := by decide +kernel
theorem dX4_tax_40 : decode cX4_tax 40 = .ok (.invokevirtual 84, 3) := by decide +kernel
theorem dX4_tax_43 : decode cX4_tax 43 = .ok (.ifCond .ne 7, 3) := by decide +kernel
theorem dX4_tax_46 : decode cX4_tax 46 = .ok (.iconst 1, 1) := by decide +kernel
theorem dX4_tax_47 : decode cX4_tax 47 = .ok (.goto 4, 3) := by decide +kernel
theorem dX4_tax_50 : decode cX4_tax 50 = .ok (.iconst 0, 1) := by decide +kernel
theorem dX4_tax_51 : decode cX4_tax 51 = .ok (.istore 5, 2) := by decide +kernel
theorem dX4_tax_53 : decode cX4_tax 53 = .ok (.iload 5, 2) := by decide +kernel
theorem dX4_tax_55 : decode cX4_tax 55 = .ok (.ifCond .eq 26, 3) := by decide +kernel
theorem dX4_tax_58 : decode cX4_tax 58 = .ok (.iload_n 3, 1) := by decide +kernel
theorem dX4_tax_59 : decode cX4_tax 59 = .ok (.ifCond .lt 17, 3) := by decide +kernel
theorem dX4_tax_62 : decode cX4_tax 62 = .ok (.aload_n 0, 1) := by decide +kernel
theorem dX4_tax_63 : decode cX4_tax 63 = .ok (.iload 4, 2) := by decide +kernel
theorem dX4_tax_65 : decode cX4_tax 65 = .ok (.invokevirtual 92, 3) := by decide +kernel
theorem dX4_tax_68 : decode cX4_tax 68 = .ok (.aload_n 0, 1) := by decide +kernel
theorem dX4_tax_69 : decode cX4_tax 69 = .ok (.iload_n 3, 1) := by decide +kernel
theorem dX4_tax_70 : decode cX4_tax 70 = .ok (.invokevirtual 92, 3) := by decide +kernel
theorem dX4_tax_73 : decode cX4_tax 73 = .ok (.if_icmp .le 8, 3) := by decide +kernel
theorem dX4_tax_76 : decode cX4_tax 76 = .ok (.iload 4, 2) := by decide +kernel
theorem dX4_tax_78 : decode cX4_tax 78 = .ok (.goto 4, 3) := by decide +kernel
theorem dX4_tax_81 : decode cX4_tax 81 = .ok (.iload_n 3, 1) := by decide +kernel
theorem dX4_tax_82 : decode cX4_tax 82 = .ok (.istore_n 3, 1) := by decide +kernel
theorem dX4_tax_83 : decode cX4_tax 83 = .ok (.iinc 4 1, 3) := by decide +kernel
theorem dX4_tax_86 : decode cX4_tax 86 = .ok (.goto (-72), 3) := by decide +kernel
theorem dX4_tax_89 : decode cX4_tax 89 = .ok (.iload_n 3, 1) := by decide +kernel
theorem dX4_tax_90 : decode cX4_tax 90 = .ok (.ifCond .lt 13, 3) := by decide +kernel
theorem dX4_tax_93 : decode cX4_tax 93 = .ok (.aload_n 0, 1) := by decide +kernel
theorem dX4_tax_94 : decode cX4_tax 94 = .ok (.iload_n 3, 1) := by decide +kernel
theorem dX4_tax_95 : decode cX4_tax 95 = .ok (.iconst 0, 1) := by decide +kernel
theorem dX4_tax_96 : decode cX4_tax 96 = .ok (.iconst 4, 1) := by decide +kernel
theorem dX4_tax_97 : decode cX4_tax 97 = .ok (.invokevirtual 65, 3) := by decide +kernel
theorem dX4_tax_100 : decode cX4_tax 100 = .ok (.iinc 1 1, 3) := by decide +kernel
theorem dX4_tax_103 : decode cX4_tax 103 = .ok (.iinc 2 1, 3) := by decide +kernel
theorem dX4_tax_106 : decode cX4_tax 106 = .ok (.goto (-102), 3) := by decide +kernel
theorem dX4_tax_109 : decode cX4_tax 109 = .ok (.iload_n 1, 1) := by decide +kernel
theorem dX4_tax_110 : decode cX4_tax 110 = .ok (.ireturn, 1) := by decide +kernel
theorem dX4_manyThat_0 : decode cX4_manyThat 0 = .ok (.iconst 0, 1) := by decide +kernel
theorem dX4_manyThat_1 : decode cX4_manyThat 1 = .ok (.istore_n 2, 1) := by decide +kernel
theorem dX4_manyThat_2 : decode cX4_manyThat 2 = .ok (.iconst 0, 1) := by decide +kernel
theorem dX4_manyThat_3 : decode cX4_manyThat 3 = .ok (.istore_n 3, 1) := by decide +kernel
theorem dX4_manyThat_4 : decode cX4_manyThat 4 = .ok (.iload_n 3, 1) := by decide +kernel
theorem dX4_manyThat_5 : decode cX4_manyThat 5 = .ok (.aload_n 0, 1) := by decide +kernel
theorem dX4_manyThat_6 : decode cX4_manyThat 6 = .ok (.getfield 7, 3) := by decide +kernel
theorem dX4_manyThat_9 : decode cX4_manyThat 9 = .ok (.iconst 0, 1) := by decide +kernel
theorem dX4_manyThat_10 : decode cX4_manyThat 10 = .ok (.iaload, 1) := by decide +kernel
theorem dX4_manyThat_11 : decode cX4_manyThat 11 = .ok (.if_icmp .ge 27, 3) := by decide +kernel
theorem dX4_manyThat_14 : decode cX4_manyThat 14 = .ok (.iload_n 2, 1) := by decide +kernel
theorem dX4_manyThat_15 : decode cX4_manyThat 15 = .ok (.aload_n 0, 1) := by decide +kernel
theorem dX4_manyThat_16 : decode cX4_manyThat 16 = .ok (.iload_n 3, 1) := by decide +kernel
theorem dX4_manyThat_17 : decode cX4_manyThat 17 = .ok (.iconst 3, 1) := by decide +kernel
theorem dX4_manyThat_18 : decode cX4_manyThat 18 = .ok (.invokevirtual 84, 3) := by decide +kernel
theorem dX4_manyThat_21 : decode cX4_manyThat 21 = .ok (.iload_n 1, 1) := by decide +kernel
theorem dX4_manyThat_22 : decode cX4_manyThat 22 = .ok (.if_icmp .ne 7, 3) := by decide +kernel
theorem dX4_manyThat_25 : decode cX4_manyThat 25 = .ok (.iconst 1, 1) := by decide +kernel
theorem dX4_manyThat_26 : decode cX4_manyThat 26 = .ok (.goto 4, 3) := by decide +kernel
theorem dX4_manyThat_29 : decode cX4_manyThat 29 = .ok (.iconst 0, 1) := by decide +kernel
theorem dX4_manyThat_30 : decode cX4_manyThat 30 = .ok (.iadd, 1) := by decide +kernel
theorem dX4_manyThat_31 : decode cX4_manyThat 31 = .ok (.istore_n 2, 1) := by decide +kernel
theorem dX4_manyThat_32 : decode cX4_manyThat 32 = .ok (.iinc 3 1, 3) := by decide +kernel
theorem dX4_manyThat_35 : decode cX4_manyThat 35 = .ok (.goto (-31), 3) := by decide +kernel
theorem dX4_manyThat_38 : decode cX4_manyThat 38 = .ok (.iload_n 2, 1) := by decide +kernel
theorem dX4_manyThat_39 : decode cX4_manyThat 39 = .ok (.ireturn, 1) := by decide +kernel
theorem dX4_goesOn_0 : decode cX4_goesOn 0 = .ok (.iconst 0, 1) := by decide +kernel
theorem dX4_goesOn_1 : decode cX4_goesOn 1 = .ok (.istore_n 1, 1) := by decide +kernel
theorem dX4_goesOn_2 : decode cX4_goesOn 2 = .ok (.iload_n 1, 1) := by decide +kernel
theorem dX4_goesOn_3 : decode cX4_goesOn 3 = .ok (.bipush 14, 2) := by decide +kernel
theorem dX4_goesOn_5 : decode cX4_goesOn 5 = .ok (.if_icmp .ge 42, 3) := by decide +kernel
theorem dX4_goesOn_8 : decode cX4_goesOn 8 = .ok (.aload_n 0, 1) := by decide +kernel
theorem dX4_goesOn_9 : decode cX4_goesOn 9 = .ok (.getfield 38, 3) := by decide +kernel
theorem dX4_goesOn_12 : decode cX4_goesOn 12 = .ok (.iload_n 1, 1) := by decide +kernel
theorem dX4_goesOn_13 : decode cX4_goesOn 13 = .ok (.aload_n 0, 1) := by decide +kernel
theorem dX4_goesOn_14 : decode cX4_goesOn 14 = .ok (.iload_n 1, 1) := by decide +kernel
theorem dX4_goesOn_15 : decode cX4_goesOn 15 = .ok (.iconst 1, 1) := by decide +kernel
theorem dX4_goesOn_16 : decode cX4_goesOn 16 = .ok (.isub, 1) := by decide +kernel
theorem dX4_goesOn_17 : decode cX4_goesOn 17 = .ok (.invokevirtual 87, 3) := by decide +kernel
theorem dX4_goesOn_20 : decode cX4_goesOn 20 = .ok (.ifCond .eq 19, 3) := by decide +kernel
theorem dX4_goesOn_23 : decode cX4_goesOn 23 = .ok (.aload_n 0, 1) := by decide +kernel
theorem dX4_goesOn_24 : decode cX4_goesOn 24 = .ok (.iload_n 1, 1) := by decide +kernel
theorem dX4_goesOn_25 : decode cX4_goesOn 25 = .ok (.iconst 1, 1) := by decide +kernel
theorem dX4_goesOn_26 : decode cX4_goesOn 26 = .ok (.isub, 1) := by decide +kernel
theorem dX4_goesOn_27 : decode cX4_goesOn 27 = .ok (.iconst 3, 1) := by decide +kernel
theorem dX4_goesOn_28 : decode cX4_goesOn 28 = .ok (.invokevirtual 84, 3) := by decide +kernel
theorem dX4_goesOn_31 : decode cX4_goesOn 31 = .ok (.iconst 1, 1) := by decide +kernel
theorem dX4_goesOn_32 : decode cX4_goesOn 32 = .ok (.if_icmp .ne 7, 3) := by decide +kernel
theorem dX4_goesOn_35 : decode cX4_goesOn 35 = .ok (.iconst 1, 1) := by decide +kernel
theorem dX4_goesOn_36 : decode cX4_goesOn 36 = .ok (.goto 4, 3) := by decide +kernel
theorem dX4_goesOn_39 : decode cX4_goesOn 39 = .ok (.iconst 0, 1) := by decide +kernel
theorem dX4_goesOn_40 : decode cX4_goesOn 40 = .ok (.bastore, 1) := by decide +kernel
theorem dX4_goesOn_41 : decode cX4_goesOn 41 = .ok (.iinc 1 1, 3) := by decide +kernel
theorem dX4_goesOn_44 : decode cX4_goesOn 44 = .ok (.goto (-42), 3) := by decide +kernel
theorem dX4_goesOn_47 : decode cX4_goesOn 47 = .ok (.iconst 0, 1) := by decide +kernel
theorem dX4_goesOn_48 : decode cX4_goesOn 48 = .ok (.istore_n 1, 1) := by decide +kernel
theorem dX4_goesOn_49 : decode cX4_goesOn 49 = .ok (.iload_n 1, 1) := by decide +kernel
theorem dX4_goesOn_50 : decode cX4_goesOn 50 = .ok (.aload_n 0, 1) := by decide +kernel
theorem dX4_goesOn_51 : decode cX4_goesOn 51 = .ok (.getfield 7, 3) := by decide +kernel
theorem dX4_goesOn_54 : decode cX4_goesOn 54 = .ok (.iconst 0, 1) := by decide +kernel
theorem dX4_goesOn_55 : decode cX4_goesOn 55 = .ok (.iaload, 1) := by decide +kernel
theorem dX4_goesOn_56 : decode cX4_goesOn 56 = .ok (.if_icmp .ge 171, 3) := by decide +kernel
theorem dX4_goesOn_59 : decode cX4_goesOn 59 = .ok (.aload_n 0, 1) := by decide +kernel
theorem dX4_goesOn_60 : decode cX4_goesOn 60 = .ok (.iload_n 1, 1) := by decide +kernel
theorem dX4_goesOn_61 : decode cX4_goesOn 61 = .ok (.iconst 3, 1) := by decide +kernel
theorem dX4_goesOn_62 : decode cX4_goesOn 62 = .ok (.invokevirtual 84, 3) := by decide +kernel
theorem dX4_goesOn_65 : decode cX4_goesOn 65 = .ok (.ifCond .ne 91, 3) := by decide +kernel
theorem dX4_goesOn_68 : decode cX4_goesOn 68 = .ok (.aload_n 0, 1) := by decide +kernel
theorem dX4_goesOn_69 : decode cX4_goesOn 69 = .ok (.iload_n 1, 1) := by decide +kernel
theorem dX4_goesOn_70 : decode cX4_goesOn 70 = .ok (.iconst 2, 1) := by decide +kernel
theorem dX4_goesOn_71 : decode cX4_goesOn 71 = .ok (.invokevirtual 84, 3) := by decide +kernel
theorem dX4_goesOn_74 : decode cX4_goesOn 74 = .ok (.aload_n 0, 1) := by decide +kernel
theorem dX4_goesOn_75 : decode cX4_goesOn 75 = .ok (.iload_n 1, 1) := by decide +kernel
theorem dX4_goesOn_76 : decode cX4_goesOn 76 = .ok (.invokevirtual 95, 3) := by decide +kernel
theorem dX4_goesOn_79 : decode cX4_goesOn 79 = .ok (.isub, 1) := by decide +kernel
theorem dX4_goesOn_80 : decode cX4_goesOn 80 = .ok (.istore_n 2, 1) := by decide +kernel
theorem dX4_goesOn_81 : decode cX4_goesOn 81 = .ok (.aload_n 0, 1) := by decide +kernel
theorem dX4_goesOn_82 : decode cX4_goesOn 82 = .ok (.iload_n 1, 1) := by decide +kernel
theorem dX4_goesOn_83 : decode cX4_goesOn 83 = .ok (.iconst 2, 1) := by decide +kernel
theorem dX4_goesOn_84 : decode cX4_goesOn 84 = .ok (.iload_n 2, 1) := by decide +kernel
theorem dX4_goesOn_85 : decode cX4_goesOn 85 = .ok (.ifCond .ge 7, 3) := by decide +kernel
theorem dX4_goesOn_88 : decode cX4_goesOn 88 = .ok (.iconst 0, 1) := by decide +kernel
theorem dX4_goesOn_89 : decode cX4_goesOn 89 = .ok (.goto 4, 3) := by decide +kernel
theorem dX4_goesOn_92 : decode cX4_goesOn 92 = .ok (.iload_n 2, 1) := by decide +kernel
theorem dX4_goesOn_93 : decode cX4_goesOn 93 = .ok (.invokevirtual 65, 3) := by decide +kernel
theorem dX4_goesOn_96 : decode cX4_goesOn 96 = .ok (.aload_n 0, 1) := by decide +kernel
theorem dX4_goesOn_97 : decode cX4_goesOn 97 = .ok (.iload_n 1, 1) := by decide +kernel
theorem dX4_goesOn_98 : decode cX4_goesOn 98 = .ok (.iconst 0, 1) := by decide +kernel
theorem dX4_goesOn_99 : decode cX4_goesOn 99 = .ok (.invokevirtual 84, 3) := by decide +kernel
theorem dX4_goesOn_102 : decode cX4_goesOn 102 = .ok (.invokestatic 101, 3) := by decide +kernel
theorem dX4_goesOn_105 : decode cX4_goesOn 105 = .ok (.ifCond .ne 27, 3) := by decide +kernel
theorem dX4_goesOn_108 : decode cX4_goesOn 108 = .ok (.aload_n 0, 1) := by decide +kernel
theorem dX4_goesOn_109 : decode cX4_goesOn 109 = .ok (.getfield 38, 3) := by decide +kernel
theorem dX4_goesOn_112 : decode cX4_goesOn 112 = .ok (.iload_n 1, 1) := by decide +kernel
theorem dX4_goesOn_113 : decode cX4_goesOn 113 = .ok (.baload, 1) := by decide +kernel
theorem dX4_goesOn_114 : decode cX4_goesOn 114 = .ok (.ifCond .ne 14, 3) := by decide +kernel
theorem dX4_goesOn_117 : decode cX4_goesOn 117 = .ok (.aload_n 0, 1) := by decide +kernel
theorem dX4_goesOn_118 : decode cX4_goesOn 118 = .ok (.getfield 38, 3) := by decide +kernel
theorem dX4_goesOn_121 : decode cX4_goesOn 121 = .ok (.iload_n 1, 1) := by decide +kernel
theorem dX4_goesOn_122 : decode cX4_goesOn 122 = .ok (.iconst 2, 1) := by decide +kernel
theorem dX4_goesOn_123 : decode cX4_goesOn 123 = .ok (.iadd, 1) := by decide +kernel
theorem dX4_goesOn_124 : decode cX4_goesOn 124 = .ok (.baload, 1) := by decide +kernel
theorem dX4_goesOn_125 : decode cX4_goesOn 125 = .ok (.ifCond .eq 7, 3) := by decide +kernel
theorem dX4_goesOn_128 : decode cX4_goesOn 128 = .ok (.iconst 1, 1) := by decide +kernel
theorem dX4_goesOn_129 : decode cX4_goesOn 129 = .ok (.goto 4, 3) := by decide +kernel
theorem dX4_goesOn_132 : decode cX4_goesOn 132 = .ok (.iconst 0, 1) := by decide +kernel
theorem dX4_goesOn_133 : decode cX4_goesOn 133 = .ok (.istore_n 3, 1) := by decide +kernel
theorem dX4_goesOn_134 : decode cX4_goesOn 134 = .ok (.aload_n 0, 1) := by decide +kernel
theorem dX4_goesOn_135 : decode cX4_goesOn 135 = .ok (.iload_n 1, 1) := by decide +kernel
theorem dX4_goesOn_136 : decode cX4_goesOn 136 = .ok (.iconst 3, 1) := by decide +kernel
theorem dX4_goesOn_137 : decode cX4_goesOn 137 = .ok (.iload_n 2, 1) := by decide +kernel
theorem dX4_goesOn_138 : decode cX4_goesOn 138 = .ok (.ifCond .le 7, 3) := by decide +kernel
theorem dX4_goesOn_141 : decode cX4_goesOn 141 = .ok (.iload_n 3, 1) := by decide +kernel
theorem dX4_goesOn_142 : decode cX4_goesOn 142 = .ok (.ifCond .eq 7, 3) := by decide +kernel
theorem dX4_goesOn_145 : decode cX4_goesOn 145 = .ok (.iconst 1, 1) := by decide +kernel
theorem dX4_goesOn_146 : decode cX4_goesOn 146 = .ok (.goto 4, 3) := by decide +kernel
theorem dX4_goesOn_149 : decode cX4_goesOn 149 = .ok (.iconst 0, 1) := by decide +kernel
theorem dX4_goesOn_150 : decode cX4_goesOn 150 = .ok (.invokevirtual 65, 3) := by decide +kernel
theorem dX4_goesOn_153 : decode cX4_goesOn 153 = .ok (.goto 68, 3) := by decide +kernel
theorem dX4_goesOn_156 : decode cX4_goesOn 156 = .ok (.aload_n 0, 1) := by decide +kernel
theorem dX4_goesOn_157 : decode cX4_goesOn 157 = .ok (.iload_n 1, 1) := by decide +kernel
theorem dX4_goesOn_158 : decode cX4_goesOn 158 = .ok (.iconst 3, 1) := by decide +kernel
theorem dX4_goesOn_159 : decode cX4_goesOn 159 = .ok (.invokevirtual 84, 3) := by decide +kernel
theorem dX4_goesOn_162 : decode cX4_goesOn 162 = .ok (.iconst 2, 1) := by decide +kernel
theorem dX4_goesOn_163 : decode cX4_goesOn 163 = .ok (.if_icmp .ne 58, 3) := by decide +kernel
theorem dX4_goesOn_166 : decode cX4_goesOn 166 = .ok (.aload_n 0, 1) := by decide +kernel
theorem dX4_goesOn_167 : decode cX4_goesOn 167 = .ok (.invokevirtual 76, 3) := by decide +kernel
theorem dX4_goesOn_170 : decode cX4_goesOn 170 = .ok (.bipush 8, 2) := by decide +kernel
theorem dX4_goesOn_172 : decode cX4_goesOn 172 = .ok (.if_icmp .ne 49, 3) := by decide +kernel
theorem dX4_goesOn_175 : decode cX4_goesOn 175 = .ok (.aload_n 0, 1) := by decide +kernel
theorem dX4_goesOn_176 : decode cX4_goesOn 176 = .ok (.iload_n 1, 1) := by decide +kernel
theorem dX4_goesOn_177 : decode cX4_goesOn 177 = .ok (.iconst 2, 1) := by decide +kernel
theorem dX4_goesOn_178 : decode cX4_goesOn 178 = .ok (.invokevirtual 84, 3) := by decide +kernel
theorem dX4_goesOn_181 : decode cX4_goesOn 181 = .ok (.aload_n 0, 1) := by decide +kernel
theorem dX4_goesOn_182 : decode cX4_goesOn 182 = .ok (.iload_n 1, 1) := by decide +kernel
theorem dX4_goesOn_183 : decode cX4_goesOn 183 = .ok (.invokevirtual 98, 3) := by decide +kernel
theorem dX4_goesOn_186 : decode cX4_goesOn 186 = .ok (.imul, 1) := by decide +kernel
theorem dX4_goesOn_187 : decode cX4_goesOn 187 = .ok (.istore_n 2, 1) := by decide +kernel
theorem dX4_goesOn_188 : decode cX4_goesOn 188 = .ok (.aload_n 0, 1) := by decide +kernel
theorem dX4_goesOn_189 : decode cX4_goesOn 189 = .ok (.iload_n 1, 1) := by decide +kernel
theorem dX4_goesOn_190 : decode cX4_goesOn 190 = .ok (.iconst 2, 1) := by decide +kernel
theorem dX4_goesOn_191 : decode cX4_goesOn 191 = .ok (.iload_n 2, 1) := by decide +kernel
theorem dX4_goesOn_192 : decode cX4_goesOn 192 = .ok (.bipush 99, 2) := by decide +kernel
theorem dX4_goesOn_194 : decode cX4_goesOn 194 = .ok (.if_icmp .le 8, 3) := by decide +kernel
theorem dX4_goesOn_197 : decode cX4_goesOn 197 = .ok (.bipush 99, 2) := by decide +kernel
theorem dX4_goesOn_199 : decode cX4_goesOn 199 = .ok (.goto 4, 3) := by decide +kernel
theorem dX4_goesOn_202 : decode cX4_goesOn 202 = .ok (.iload_n 2, 1) := by decide +kernel
theorem dX4_goesOn_203 : decode cX4_goesOn 203 = .ok (.invokevirtual 65, 3) := by decide +kernel
theorem dX4_goesOn_206 : decode cX4_goesOn 206 = .ok (.aload_n 0, 1) := by decide +kernel
theorem dX4_goesOn_207 : decode cX4_goesOn 207 = .ok (.iload_n 1, 1) := by decide +kernel
theorem dX4_goesOn_208 : decode cX4_goesOn 208 = .ok (.iconst 3, 1) := by decide +kernel
theorem dX4_goesOn_209 : decode cX4_goesOn 209 = .ok (.iload_n 2, 1) := by decide +kernel
theorem dX4_goesOn_210 : decode cX4_goesOn 210 = .ok (.ifCond .ne 7, 3) := by decide +kernel
theorem dX4_goesOn_213 : decode cX4_goesOn 213 = .ok (.iconst 1, 1) := by decide +kernel
theorem dX4_goesOn_214 : decode cX4_goesOn 214 = .ok (.goto 4, 3) := by decide +kernel
theorem dX4_goesOn_217 : decode cX4_goesOn 217 = .ok (.iconst 0, 1) := by decide +kernel
theorem dX4_goesOn_218 : decode cX4_goesOn 218 = .ok (.invokevirtual 65, 3) := by decide +kernel
theorem dX4_goesOn_221 : decode cX4_goesOn 221 = .ok (.iinc 1 1, 3) := by decide +kernel
theorem dX4_goesOn_224 : decode cX4_goesOn 224 = .ok (.goto (-175), 3) := by decide +kernel
theorem dX4_goesOn_227 : decode cX4_goesOn 227 = .ok (.aload_n 0, 1) := by decide +kernel
theorem dX4_goesOn_228 : decode cX4_goesOn 228 = .ok (.getfield 7, 3) := by decide +kernel
theorem dX4_goesOn_231 : decode cX4_goesOn 231 = .ok (.iconst 2, 1) := by decide +kernel
theorem dX4_goesOn_232 : decode cX4_goesOn 232 = .ok (.dup2, 1) := by decide +kernel
theorem dX4_goesOn_233 : decode cX4_goesOn 233 = .ok (.iaload, 1) := by decide +kernel
theorem dX4_goesOn_234 : decode cX4_goesOn 234 = .ok (.iconst 1, 1) := by decide +kernel
theorem dX4_goesOn_235 : decode cX4_goesOn 235 = .ok (.iadd, 1) := by decide +kernel
theorem dX4_goesOn_236 : decode cX4_goesOn 236 = .ok (.iastore, 1) := by decide +kernel
theorem dX4_goesOn_237 : decode cX4_goesOn 237 = .ok (.bipush 68, 2) := by decide +kernel
theorem dX4_goesOn_239 : decode cX4_goesOn 239 = .ok (.istore_n 1, 1) := by decide +kernel
theorem dX4_goesOn_240 : decode cX4_goesOn 240 = .ok (.iload_n 1, 1) := by decide +kernel
theorem dX4_goesOn_241 : decode cX4_goesOn 241 = .ok (.bipush 68, 2) := by decide +kernel
theorem dX4_goesOn_243 : decode cX4_goesOn 243 = .ok (.iconst 5, 1) := by decide +kernel
theorem dX4_goesOn_244 : decode cX4_goesOn 244 = .ok (.aload_n 0, 1) := by decide +kernel
theorem dX4_goesOn_245 : decode cX4_goesOn 245 = .ok (.getfield 7, 3) := by decide +kernel
theorem dX4_goesOn_248 : decode cX4_goesOn 248 = .ok (.iconst 1, 1) := by decide +kernel
theorem dX4_goesOn_249 : decode cX4_goesOn 249 = .ok (.iaload, 1) := by decide +kernel
theorem dX4_goesOn_250 : decode cX4_goesOn 250 = .ok (.imul, 1) := by decide +kernel
theorem dX4_goesOn_251 : decode cX4_goesOn 251 = .ok (.iadd, 1) := by decide +kernel
theorem dX4_goesOn_252 : decode cX4_goesOn 252 = .ok (.if_icmp .ge 73, 3) := by decide +kernel
theorem dX4_goesOn_255 : decode cX4_goesOn 255 = .ok (.aload_n 0, 1) := by decide +kernel
theorem dX4_goesOn_256 : decode cX4_goesOn 256 = .ok (.getfield 7, 3) := by decide +kernel
theorem dX4_goesOn_259 : decode cX4_goesOn 259 = .ok (.iload_n 1, 1) := by decide +kernel
theorem dX4_goesOn_260 : decode cX4_goesOn 260 = .ok (.iconst 3, 1) := by decide +kernel
theorem dX4_goesOn_261 : decode cX4_goesOn 261 = .ok (.iadd, 1) := by decide +kernel
theorem dX4_goesOn_262 : decode cX4_goesOn 262 = .ok (.iaload, 1) := by decide +kernel
theorem dX4_goesOn_263 : decode cX4_goesOn 263 = .ok (.aload_n 0, 1) := by decide +kernel
theorem dX4_goesOn_264 : decode cX4_goesOn 264 = .ok (.getfield 7, 3) := by decide +kernel
theorem dX4_goesOn_267 : decode cX4_goesOn 267 = .ok (.iconst 2, 1) := by decide +kernel
theorem dX4_goesOn_268 : decode cX4_goesOn 268 = .ok (.iaload, 1) := by decide +kernel
theorem dX4_goesOn_269 : decode cX4_goesOn 269 = .ok (.if_icmp .ne 50, 3) := by decide +kernel
theorem dX4_goesOn_272 : decode cX4_goesOn 272 = .ok (.aload_n 0, 1) := by decide +kernel
theorem dX4_goesOn_273 : decode cX4_goesOn 273 = .ok (.getfield 7, 3) := by decide +kernel
theorem dX4_goesOn_276 : decode cX4_goesOn 276 = .ok (.iload_n 1, 1) := by decide +kernel
theorem dX4_goesOn_277 : decode cX4_goesOn 277 = .ok (.iconst 4, 1) := by decide +kernel
theorem dX4_goesOn_278 : decode cX4_goesOn 278 = .ok (.iadd, 1) := by decide +kernel
theorem dX4_goesOn_279 : decode cX4_goesOn 279 = .ok (.iaload, 1) := by decide +kernel
theorem dX4_goesOn_280 : decode cX4_goesOn 280 = .ok (.ifCond .ne 39, 3) := by decide +kernel
theorem dX4_goesOn_283 : decode cX4_goesOn 283 = .ok (.aload_n 0, 1) := by decide +kernel
theorem dX4_goesOn_284 : decode cX4_goesOn 284 = .ok (.getfield 7, 3) := by decide +kernel
theorem dX4_goesOn_287 : decode cX4_goesOn 287 = .ok (.iload_n 1, 1) := by decide +kernel
theorem dX4_goesOn_288 : decode cX4_goesOn 288 = .ok (.iconst 4, 1) := by decide +kernel
theorem dX4_goesOn_289 : decode cX4_goesOn 289 = .ok (.iadd, 1) := by decide +kernel
theorem dX4_goesOn_290 : decode cX4_goesOn 290 = .ok (.iconst 1, 1) := by decide +kernel
theorem dX4_goesOn_291 : decode cX4_goesOn 291 = .ok (.iastore, 1) := by decide +kernel
theorem dX4_goesOn_292 : decode cX4_goesOn 292 = .ok (.aload_n 0, 1) := by decide +kernel
theorem dX4_goesOn_293 : decode cX4_goesOn 293 = .ok (.aload_n 0, 1) := by decide +kernel
theorem dX4_goesOn_294 : decode cX4_goesOn 294 = .ok (.getfield 7, 3) := by decide +kernel
theorem dX4_goesOn_297 : decode cX4_goesOn 297 = .ok (.iload_n 1, 1) := by decide +kernel
theorem dX4_goesOn_298 : decode cX4_goesOn 298 = .ok (.iaload, 1) := by decide +kernel
theorem dX4_goesOn_299 : decode cX4_goesOn 299 = .ok (.aload_n 0, 1) := by decide +kernel
theorem dX4_goesOn_300 : decode cX4_goesOn 300 = .ok (.getfield 7, 3) := by decide +kernel
theorem dX4_goesOn_303 : decode cX4_goesOn 303 = .ok (.iload_n 1, 1) := by decide +kernel
theorem dX4_goesOn_304 : decode cX4_goesOn 304 = .ok (.iconst 1, 1) := by decide +kernel
theorem dX4_goesOn_305 : decode cX4_goesOn 305 = .ok (.iadd, 1) := by decide +kernel
theorem dX4_goesOn_306 : decode cX4_goesOn 306 = .ok (.iaload, 1) := by decide +kernel
theorem dX4_goesOn_307 : decode cX4_goesOn 307 = .ok (.aload_n 0, 1) := by decide +kernel
theorem dX4_goesOn_308 : decode cX4_goesOn 308 = .ok (.getfield 7, 3) := by decide +kernel
theorem dX4_goesOn_311 : decode cX4_goesOn 311 = .ok (.iload_n 1, 1) := by decide +kernel
theorem dX4_goesOn_312 : decode cX4_goesOn 312 = .ok (.iconst 2, 1) := by decide +kernel
theorem dX4_goesOn_313 : decode cX4_goesOn 313 = .ok (.iadd, 1) := by decide +kernel
theorem dX4_goesOn_314 : decode cX4_goesOn 314 = .ok (.iaload, 1) := by decide +kernel
theorem dX4_goesOn_315 : decode cX4_goesOn 315 = .ok (.invokevirtual 134, 3) := by decide +kernel
theorem dX4_goesOn_318 : decode cX4_goesOn 318 = .ok (.istore_n 2, 1) := by decide +kernel
theorem dX4_goesOn_319 : decode cX4_goesOn 319 = .ok (.iinc 1 5, 3) := by decide +kernel
theorem dX4_goesOn_322 : decode cX4_goesOn 322 = .ok (.goto (-82), 3) := by decide +kernel
theorem dX4_goesOn_325 : decode cX4_goesOn 325 = .ok (.return_, 1) := by decide +kernel
theorem dX4_goesOnMany_0 : decode cX4_goesOnMany 0 = .ok (.iconst 0, 1) := by decide +kernel
theorem dX4_goesOnMany_1 : decode cX4_goesOnMany 1 = .ok (.istore_n 2, 1) := by decide +kernel
theorem dX4_goesOnMany_2 : decode cX4_goesOnMany 2 = .ok (.iload_n 2, 1) := by decide +kernel
theorem dX4_goesOnMany_3 : decode cX4_goesOnMany 3 = .ok (.iload_n 1, 1) := by decide +kernel
theorem dX4_goesOnMany_4 : decode cX4_goesOnMany 4 = .ok (.if_icmp .ge 13, 3) := by decide +kernel
theorem dX4_goesOnMany_7 : decode cX4_goesOnMany 7 = .ok (.aload_n 0, 1) := by decide +kernel
theorem dX4_goesOnMany_8 : decode cX4_goesOnMany 8 = .ok (.invokevirtual 146, 3) := by decide +kernel
theorem dX4_goesOnMany_11 : decode cX4_goesOnMany 11 = .ok (.iinc 2 1, 3) := by decide +kernel
theorem dX4_goesOnMany_14 : decode cX4_goesOnMany 14 = .ok (.goto (-12), 3) := by decide +kernel
theorem dX4_goesOnMany_17 : decode cX4_goesOnMany 17 = .ok (.return_, 1) := by decide +kernel
theorem dX4_months_0 : decode cX4_months 0 = .ok (.iload_n 1, 1) := by decide +kernel
theorem dX4_months_1 : decode cX4_months 1 = .ok (.i2l, 1) := by decide +kernel
theorem dX4_months_2 : decode cX4_months 2 = .ok (.lconst 1, 1) := by decide +kernel
theorem dX4_months_3 : decode cX4_months 3 = .ok (.ldc2_w 137, 3) := by decide +kernel
theorem dX4_months_6 : decode cX4_months 6 = .ok (.invokestatic 49, 3) := by decide +kernel
theorem dX4_months_9 : decode cX4_months 9 = .ok (.ifCond .ne 10, 3) := by decide +kernel
theorem dX4_months_12 : decode cX4_months 12 = .ok (.aload_n 0, 1) := by decide +kernel
theorem dX4_months_13 : decode cX4_months 13 = .ok (.ldc 42, 2) := by decide +kernel
theorem dX4_months_15 : decode cX4_months 15 = .ok (.invokevirtual 57, 3) := by decide +kernel
theorem dX4_months_18 : decode cX4_months 18 = .ok (.ireturn, 1) := by decide +kernel
theorem dX4_months_19 : decode cX4_months 19 = .ok (.aload_n 0, 1) := by decide +kernel
theorem dX4_months_20 : decode cX4_months 20 = .ok (.iload_n 1, 1) := by decide +kernel
theorem dX4_months_21 : decode cX4_months 21 = .ok (.invokevirtual 139, 3) := by decide +kernel
theorem dX4_months_24 : decode cX4_months 24 = .ok (.ifCond .eq 10, 3) := by decide +kernel
theorem dX4_months_27 : decode cX4_months 27 = .ok (.aload_n 0, 1) := by decide +kernel
theorem dX4_months_28 : decode cX4_months 28 = .ok (.ldc 119, 2) := by decide +kernel
theorem dX4_months_30 : decode cX4_months 30 = .ok (.invokevirtual 57, 3) := by decide +kernel
theorem dX4_months_33 : decode cX4_months 33 = .ok (.ireturn, 1) := by decide +kernel
theorem dX4_months_34 : decode cX4_months 34 = .ok (.aload_n 0, 1) := by decide +kernel
theorem dX4_months_35 : decode cX4_months 35 = .ok (.iconst 1, 1) := by decide +kernel
theorem dX4_months_36 : decode cX4_months 36 = .ok (.invokevirtual 149, 3) := by decide +kernel
theorem dX4_months_39 : decode cX4_months 39 = .ok (.istore_n 2, 1) := by decide +kernel
theorem dX4_months_40 : decode cX4_months 40 = .ok (.aload_n 0, 1) := by decide +kernel
theorem dX4_months_41 : decode cX4_months 41 = .ok (.iload_n 1, 1) := by decide +kernel
theorem dX4_months_42 : decode cX4_months 42 = .ok (.invokevirtual 152, 3) := by decide +kernel
theorem dX4_months_45 : decode cX4_months 45 = .ok (.aload_n 0, 1) := by decide +kernel
theorem dX4_months_46 : decode cX4_months 46 = .ok (.iconst 1, 1) := by decide +kernel
theorem dX4_months_47 : decode cX4_months 47 = .ok (.invokevirtual 149, 3) := by decide +kernel
theorem dX4_months_50 : decode cX4_months 50 = .ok (.iload_n 2, 1) := by decide +kernel
theorem dX4_months_51 : decode cX4_months 51 = .ok (.isub, 1) := by decide +kernel
theorem dX4_months_52 : decode cX4_months 52 = .ok (.ireturn, 1) := by decide +kernel
theorem dX4_now_0 : decode cX4_now 0 = .ok (.iload_n 1, 1) := by decide +kernel
theorem dX4_now_1 : decode cX4_now 1 = .ok (.tableswitch 76 0 5 #[39, 46, 51, 58, 64, 70], 39) := by decide +kernel
theorem dX4_now_40 : decode cX4_now 40 = .ok (.aload_n 0, 1) := by decide +kernel
theorem dX4_now_41 : decode cX4_now 41 = .ok (.getfield 7, 3) := by decide +kernel
theorem dX4_now_44 : decode cX4_now 44 = .ok (.iconst 2, 1) := by decide +kernel
theorem dX4_now_45 : decode cX4_now 45 = .ok (.iaload, 1) := by decide +kernel
theorem dX4_now_46 : decode cX4_now 46 = .ok (.ireturn, 1) := by decide +kernel
theorem dX4_now_47 : decode cX4_now 47 = .ok (.aload_n 0, 1) := by decide +kernel
theorem dX4_now_48 : decode cX4_now 48 = .ok (.invokevirtual 76, 3) := by decide +kernel
theorem dX4_now_51 : decode cX4_now 51 = .ok (.ireturn, 1) := by decide +kernel
theorem dX4_now_52 : decode cX4_now 52 = .ok (.aload_n 0, 1) := by decide +kernel
theorem dX4_now_53 : decode cX4_now 53 = .ok (.getfield 7, 3) := by decide +kernel
theorem dX4_now_56 : decode cX4_now 56 = .ok (.iconst 3, 1) := by decide +kernel
theorem dX4_now_57 : decode cX4_now 57 = .ok (.iaload, 1) := by decide +kernel
theorem dX4_now_58 : decode cX4_now 58 = .ok (.ireturn, 1) := by decide +kernel
theorem dX4_now_59 : decode cX4_now 59 = .ok (.aload_n 0, 1) := by decide +kernel
theorem dX4_now_60 : decode cX4_now 60 = .ok (.iconst 0, 1) := by decide +kernel
theorem dX4_now_61 : decode cX4_now 61 = .ok (.invokevirtual 149, 3) := by decide +kernel
theorem dX4_now_64 : decode cX4_now 64 = .ok (.ireturn, 1) := by decide +kernel
theorem dX4_now_65 : decode cX4_now 65 = .ok (.aload_n 0, 1) := by decide +kernel
theorem dX4_now_66 : decode cX4_now 66 = .ok (.iconst 1, 1) := by decide +kernel
theorem dX4_now_67 : decode cX4_now 67 = .ok (.invokevirtual 149, 3) := by decide +kernel
theorem dX4_now_70 : decode cX4_now 70 = .ok (.ireturn, 1) := by decide +kernel
theorem dX4_now_71 : decode cX4_now 71 = .ok (.aload_n 0, 1) := by decide +kernel
theorem dX4_now_72 : decode cX4_now 72 = .ok (.iconst 2, 1) := by decide +kernel
theorem dX4_now_73 : decode cX4_now 73 = .ok (.invokevirtual 149, 3) := by decide +kernel
theorem dX4_now_76 : decode cX4_now 76 = .ok (.ireturn, 1) := by decide +kernel
theorem dX4_now_77 : decode cX4_now 77 = .ok (.aload_n 0, 1) := by decide +kernel
theorem dX4_now_78 : decode cX4_now 78 = .ok (.ldc 42, 2) := by decide +kernel
theorem dX4_now_80 : decode cX4_now 80 = .ok (.invokevirtual 57, 3) := by decide +kernel
theorem dX4_now_83 : decode cX4_now 83 = .ok (.ireturn, 1) := by decide +kernel
theorem dX4_laysBy_0 : decode cX4_laysBy 0 = .ok (.aload_n 0, 1) := by decide +kernel
theorem dX4_laysBy_1 : decode cX4_laysBy 1 = .ok (.getfield 7, 3) := by decide +kernel
theorem dX4_laysBy_4 : decode cX4_laysBy 4 = .ok (.aload_n 0, 1) := by decide +kernel
theorem dX4_laysBy_5 : decode cX4_laysBy 5 = .ok (.getfield 16, 3) := by decide +kernel
theorem dX4_laysBy_8 : decode cX4_laysBy 8 = .ok (.invokestatic 156, 3) := by decide +kernel
theorem dX4_laysBy_11 : decode cX4_laysBy 11 = .ok (.return_, 1) := by decide +kernel
theorem dX4_laysBack_0 : decode cX4_laysBack 0 = .ok (.aload_n 0, 1) := by decide +kernel
theorem dX4_laysBack_1 : decode cX4_laysBack 1 = .ok (.getfield 16, 3) := by decide +kernel
theorem dX4_laysBack_4 : decode cX4_laysBack 4 = .ok (.aload_n 0, 1) := by decide +kernel
theorem dX4_laysBack_5 : decode cX4_laysBack 5 = .ok (.getfield 7, 3) := by decide +kernel
theorem dX4_laysBack_8 : decode cX4_laysBack 8 = .ok (.invokestatic 156, 3) := by decide +kernel
theorem dX4_laysBack_11 : decode cX4_laysBack 11 = .ok (.return_, 1) := by decide +kernel
theorem dX4_on_0 : decode cX4_on 0 = .ok (.aload_n 0, 1) := by decide +kernel
theorem dX4_on_1 : decode cX4_on 1 = .ok (.iload_n 1, 1) := by decide +kernel
theorem dX4_on_2 : decode cX4_on 2 = .ok (.invokevirtual 87, 3) := by decide +kernel
theorem dX4_on_5 : decode cX4_on 5 = .ok (.ifCond .eq 15, 3) := by decide +kernel
theorem dX4_on_8 : decode cX4_on 8 = .ok (.iload_n 2, 1) := by decide +kernel
theorem dX4_on_9 : decode cX4_on 9 = .ok (.i2l, 1) := by decide +kernel
theorem dX4_on_10 : decode cX4_on 10 = .ok (.lconst 0, 1) := by decide +kernel
theorem dX4_on_11 : decode cX4_on 11 = .ok (.ldc2_w 137, 3) := by decide +kernel
theorem dX4_on_14 : decode cX4_on 14 = .ok (.invokestatic 49, 3) := by decide +kernel
theorem dX4_on_17 : decode cX4_on 17 = .ok (.ifCond .ne 10, 3) := by decide +kernel
theorem dX4_on_20 : decode cX4_on 20 = .ok (.aload_n 0, 1) := by decide +kernel
theorem dX4_on_21 : decode cX4_on 21 = .ok (.ldc 42, 2) := by decide +kernel
theorem dX4_on_23 : decode cX4_on 23 = .ok (.invokevirtual 57, 3) := by decide +kernel
theorem dX4_on_26 : decode cX4_on 26 = .ok (.ireturn, 1) := by decide +kernel
theorem dX4_on_27 : decode cX4_on 27 = .ok (.aload_n 0, 1) := by decide +kernel
theorem dX4_on_28 : decode cX4_on 28 = .ok (.iload_n 2, 1) := by decide +kernel
theorem dX4_on_29 : decode cX4_on 29 = .ok (.invokevirtual 139, 3) := by decide +kernel
theorem dX4_on_32 : decode cX4_on 32 = .ok (.ifCond .eq 10, 3) := by decide +kernel
theorem dX4_on_35 : decode cX4_on 35 = .ok (.aload_n 0, 1) := by decide +kernel
theorem dX4_on_36 : decode cX4_on 36 = .ok (.ldc 119, 2) := by decide +kernel
theorem dX4_on_38 : decode cX4_on 38 = .ok (.invokevirtual 57, 3) := by decide +kernel
theorem dX4_on_41 : decode cX4_on 41 = .ok (.ireturn, 1) := by decide +kernel
theorem dX4_on_42 : decode cX4_on 42 = .ok (.aload_n 0, 1) := by decide +kernel
theorem dX4_on_43 : decode cX4_on 43 = .ok (.invokevirtual 160, 3) := by decide +kernel
theorem dX4_on_46 : decode cX4_on 46 = .ok (.aload_n 0, 1) := by decide +kernel
theorem dX4_on_47 : decode cX4_on 47 = .ok (.iload_n 2, 1) := by decide +kernel
theorem dX4_on_48 : decode cX4_on 48 = .ok (.invokevirtual 152, 3) := by decide +kernel
theorem dX4_on_51 : decode cX4_on 51 = .ok (.aload_n 0, 1) := by decide +kernel
theorem dX4_on_52 : decode cX4_on 52 = .ok (.iload_n 1, 1) := by decide +kernel
theorem dX4_on_53 : decode cX4_on 53 = .ok (.iconst 2, 1) := by decide +kernel
theorem dX4_on_54 : decode cX4_on 54 = .ok (.invokevirtual 84, 3) := by decide +kernel
theorem dX4_on_57 : decode cX4_on 57 = .ok (.istore_n 3, 1) := by decide +kernel
theorem dX4_on_58 : decode cX4_on 58 = .ok (.aload_n 0, 1) := by decide +kernel
theorem dX4_on_59 : decode cX4_on 59 = .ok (.invokevirtual 163, 3) := by decide +kernel
theorem dX4_on_62 : decode cX4_on 62 = .ok (.iload_n 3, 1) := by decide +kernel
theorem dX4_on_63 : decode cX4_on 63 = .ok (.ireturn, 1) := by decide +kernel
theorem dX4_purseOn_0 : decode cX4_purseOn 0 = .ok (.iload_n 1, 1) := by decide +kernel
theorem dX4_purseOn_1 : decode cX4_purseOn 1 = .ok (.invokestatic 43, 3) := by decide +kernel
theorem dX4_purseOn_4 : decode cX4_purseOn 4 = .ok (.ifCond .eq 15, 3) := by decide +kernel
theorem dX4_purseOn_7 : decode cX4_purseOn 7 = .ok (.iload_n 2, 1) := by decide +kernel
theorem dX4_purseOn_8 : decode cX4_purseOn 8 = .ok (.i2l, 1) := by decide +kernel
theorem dX4_purseOn_9 : decode cX4_purseOn 9 = .ok (.lconst 0, 1) := by decide +kernel
theorem dX4_purseOn_10 : decode cX4_purseOn 10 = .ok (.ldc2_w 137, 3) := by decide +kernel
theorem dX4_purseOn_13 : decode cX4_purseOn 13 = .ok (.invokestatic 49, 3) := by decide +kernel
theorem dX4_purseOn_16 : decode cX4_purseOn 16 = .ok (.ifCond .ne 10, 3) := by decide +kernel
theorem dX4_purseOn_19 : decode cX4_purseOn 19 = .ok (.aload_n 0, 1) := by decide +kernel
theorem dX4_purseOn_20 : decode cX4_purseOn 20 = .ok (.ldc 42, 2) := by decide +kernel
theorem dX4_purseOn_22 : decode cX4_purseOn 22 = .ok (.invokevirtual 57, 3) := by decide +kernel
theorem dX4_purseOn_25 : decode cX4_purseOn 25 = .ok (.ireturn, 1) := by decide +kernel
theorem dX4_purseOn_26 : decode cX4_purseOn 26 = .ok (.aload_n 0, 1) := by decide +kernel
theorem dX4_purseOn_27 : decode cX4_purseOn 27 = .ok (.iload_n 2, 1) := by decide +kernel
theorem dX4_purseOn_28 : decode cX4_purseOn 28 = .ok (.invokevirtual 139, 3) := by decide +kernel
theorem dX4_purseOn_31 : decode cX4_purseOn 31 = .ok (.ifCond .eq 10, 3) := by decide +kernel
theorem dX4_purseOn_34 : decode cX4_purseOn 34 = .ok (.aload_n 0, 1) := by decide +kernel
theorem dX4_purseOn_35 : decode cX4_purseOn 35 = .ok (.ldc 119, 2) := by decide +kernel
theorem dX4_purseOn_37 : decode cX4_purseOn 37 = .ok (.invokevirtual 57, 3) := by decide +kernel
theorem dX4_purseOn_40 : decode cX4_purseOn 40 = .ok (.ireturn, 1) := by decide +kernel
theorem dX4_purseOn_41 : decode cX4_purseOn 41 = .ok (.aload_n 0, 1) := by decide +kernel
theorem dX4_purseOn_42 : decode cX4_purseOn 42 = .ok (.invokevirtual 160, 3) := by decide +kernel
theorem dX4_purseOn_45 : decode cX4_purseOn 45 = .ok (.aload_n 0, 1) := by decide +kernel
theorem dX4_purseOn_46 : decode cX4_purseOn 46 = .ok (.iload_n 2, 1) := by decide +kernel
theorem dX4_purseOn_47 : decode cX4_purseOn 47 = .ok (.invokevirtual 152, 3) := by decide +kernel
theorem dX4_purseOn_50 : decode cX4_purseOn 50 = .ok (.aload_n 0, 1) := by decide +kernel
theorem dX4_purseOn_51 : decode cX4_purseOn 51 = .ok (.iload_n 1, 1) := by decide +kernel
theorem dX4_purseOn_52 : decode cX4_purseOn 52 = .ok (.invokevirtual 120, 3) := by decide +kernel
theorem dX4_purseOn_55 : decode cX4_purseOn 55 = .ok (.istore_n 3, 1) := by decide +kernel
theorem dX4_purseOn_56 : decode cX4_purseOn 56 = .ok (.aload_n 0, 1) := by decide +kernel
theorem dX4_purseOn_57 : decode cX4_purseOn 57 = .ok (.invokevirtual 163, 3) := by decide +kernel
theorem dX4_purseOn_60 : decode cX4_purseOn 60 = .ok (.iload_n 3, 1) := by decide +kernel
theorem dX4_purseOn_61 : decode cX4_purseOn 61 = .ok (.ireturn, 1) := by decide +kernel
theorem dX4_rich_0 : decode cX4_rich 0 = .ok (.iload_n 1, 1) := by decide +kernel
theorem dX4_rich_1 : decode cX4_rich 1 = .ok (.i2l, 1) := by decide +kernel
theorem dX4_rich_2 : decode cX4_rich 2 = .ok (.lconst 0, 1) := by decide +kernel
theorem dX4_rich_3 : decode cX4_rich 3 = .ok (.ldc2_w 137, 3) := by decide +kernel
theorem dX4_rich_6 : decode cX4_rich 6 = .ok (.invokestatic 49, 3) := by decide +kernel
theorem dX4_rich_9 : decode cX4_rich 9 = .ok (.ifCond .ne 10, 3) := by decide +kernel
theorem dX4_rich_12 : decode cX4_rich 12 = .ok (.aload_n 0, 1) := by decide +kernel
theorem dX4_rich_13 : decode cX4_rich 13 = .ok (.ldc 42, 2) := by decide +kernel
theorem dX4_rich_15 : decode cX4_rich 15 = .ok (.invokevirtual 57, 3) := by decide +kernel
theorem dX4_rich_18 : decode cX4_rich 18 = .ok (.ireturn, 1) := by decide +kernel
theorem dX4_rich_19 : decode cX4_rich 19 = .ok (.aload_n 0, 1) := by decide +kernel
theorem dX4_rich_20 : decode cX4_rich 20 = .ok (.iload_n 1, 1) := by decide +kernel
theorem dX4_rich_21 : decode cX4_rich 21 = .ok (.invokevirtual 139, 3) := by decide +kernel
theorem dX4_rich_24 : decode cX4_rich 24 = .ok (.ifCond .eq 10, 3) := by decide +kernel
theorem dX4_rich_27 : decode cX4_rich 27 = .ok (.aload_n 0, 1) := by decide +kernel
theorem dX4_rich_28 : decode cX4_rich 28 = .ok (.ldc 119, 2) := by decide +kernel
theorem dX4_rich_30 : decode cX4_rich 30 = .ok (.invokevirtual 57, 3) := by decide +kernel
theorem dX4_rich_33 : decode cX4_rich 33 = .ok (.ireturn, 1) := by decide +kernel
theorem dX4_rich_34 : decode cX4_rich 34 = .ok (.aload_n 0, 1) := by decide +kernel
theorem dX4_rich_35 : decode cX4_rich 35 = .ok (.invokevirtual 160, 3) := by decide +kernel
theorem dX4_rich_38 : decode cX4_rich 38 = .ok (.aload_n 0, 1) := by decide +kernel
theorem dX4_rich_39 : decode cX4_rich 39 = .ok (.iload_n 1, 1) := by decide +kernel
theorem dX4_rich_40 : decode cX4_rich 40 = .ok (.invokevirtual 152, 3) := by decide +kernel
theorem dX4_rich_43 : decode cX4_rich 43 = .ok (.iconst 0, 1) := by decide +kernel
theorem dX4_rich_44 : decode cX4_rich 44 = .ok (.istore_n 2, 1) := by decide +kernel
theorem dX4_rich_45 : decode cX4_rich 45 = .ok (.iconst 1, 1) := by decide +kernel
theorem dX4_rich_46 : decode cX4_rich 46 = .ok (.istore_n 3, 1) := by decide +kernel
theorem dX4_rich_47 : decode cX4_rich 47 = .ok (.iload_n 3, 1) := by decide +kernel
theorem dX4_rich_48 : decode cX4_rich 48 = .ok (.iconst 4, 1) := by decide +kernel
theorem dX4_rich_49 : decode cX4_rich 49 = .ok (.if_icmp .ge 28, 3) := by decide +kernel
theorem dX4_rich_52 : decode cX4_rich 52 = .ok (.aload_n 0, 1) := by decide +kernel
theorem dX4_rich_53 : decode cX4_rich 53 = .ok (.iload_n 3, 1) := by decide +kernel
theorem dX4_rich_54 : decode cX4_rich 54 = .ok (.invokevirtual 120, 3) := by decide +kernel
theorem dX4_rich_57 : decode cX4_rich 57 = .ok (.aload_n 0, 1) := by decide +kernel
theorem dX4_rich_58 : decode cX4_rich 58 = .ok (.iload_n 2, 1) := by decide +kernel
theorem dX4_rich_59 : decode cX4_rich 59 = .ok (.invokevirtual 120, 3) := by decide +kernel
theorem dX4_rich_62 : decode cX4_rich 62 = .ok (.if_icmp .le 7, 3) := by decide +kernel
theorem dX4_rich_65 : decode cX4_rich 65 = .ok (.iload_n 3, 1) := by decide +kernel
theorem dX4_rich_66 : decode cX4_rich 66 = .ok (.goto 4, 3) := by decide +kernel
theorem dX4_rich_69 : decode cX4_rich 69 = .ok (.iload_n 2, 1) := by decide +kernel
theorem dX4_rich_70 : decode cX4_rich 70 = .ok (.istore_n 2, 1) := by decide +kernel
theorem dX4_rich_71 : decode cX4_rich 71 = .ok (.iinc 3 1, 3) := by decide +kernel
theorem dX4_rich_74 : decode cX4_rich 74 = .ok (.goto (-27), 3) := by decide +kernel
theorem dX4_rich_77 : decode cX4_rich 77 = .ok (.aload_n 0, 1) := by decide +kernel
theorem dX4_rich_78 : decode cX4_rich 78 = .ok (.invokevirtual 163, 3) := by decide +kernel
theorem dX4_rich_81 : decode cX4_rich 81 = .ok (.iload_n 2, 1) := by decide +kernel
theorem dX4_rich_82 : decode cX4_rich 82 = .ok (.ireturn, 1) := by decide +kernel
theorem dX4_rots_0 : decode cX4_rots 0 = .ok (.aload_n 0, 1) := by decide +kernel
theorem dX4_rots_1 : decode cX4_rots 1 = .ok (.iload_n 1, 1) := by decide +kernel
theorem dX4_rots_2 : decode cX4_rots 2 = .ok (.invokevirtual 87, 3) := by decide +kernel
theorem dX4_rots_5 : decode cX4_rots 5 = .ok (.ifCond .ne 10, 3) := by decide +kernel
theorem dX4_rots_8 : decode cX4_rots 8 = .ok (.aload_n 0, 1) := by decide +kernel
theorem dX4_rots_9 : decode cX4_rots 9 = .ok (.ldc 42, 2) := by decide +kernel
theorem dX4_rots_11 : decode cX4_rots 11 = .ok (.invokevirtual 57, 3) := by decide +kernel
theorem dX4_rots_14 : decode cX4_rots 14 = .ok (.ireturn, 1) := by decide +kernel
theorem dX4_rots_15 : decode cX4_rots 15 = .ok (.aload_n 0, 1) := by decide +kernel
theorem dX4_rots_16 : decode cX4_rots 16 = .ok (.bipush 120, 2) := by decide +kernel
theorem dX4_rots_18 : decode cX4_rots 18 = .ok (.invokevirtual 139, 3) := by decide +kernel
theorem dX4_rots_21 : decode cX4_rots 21 = .ok (.ifCond .eq 10, 3) := by decide +kernel
theorem dX4_rots_24 : decode cX4_rots 24 = .ok (.aload_n 0, 1) := by decide +kernel
theorem dX4_rots_25 : decode cX4_rots 25 = .ok (.ldc 119, 2) := by decide +kernel
theorem dX4_rots_27 : decode cX4_rots 27 = .ok (.invokevirtual 57, 3) := by decide +kernel
theorem dX4_rots_30 : decode cX4_rots 30 = .ok (.ireturn, 1) := by decide +kernel
theorem dX4_rots_31 : decode cX4_rots 31 = .ok (.aload_n 0, 1) := by decide +kernel
theorem dX4_rots_32 : decode cX4_rots 32 = .ok (.invokevirtual 160, 3) := by decide +kernel
theorem dX4_rots_35 : decode cX4_rots 35 = .ok (.iconst (-1), 1) := by decide +kernel
theorem dX4_rots_36 : decode cX4_rots 36 = .ok (.istore_n 2, 1) := by decide +kernel
theorem dX4_rots_37 : decode cX4_rots 37 = .ok (.iconst 0, 1) := by decide +kernel
theorem dX4_rots_38 : decode cX4_rots 38 = .ok (.istore_n 3, 1) := by decide +kernel
theorem dX4_rots_39 : decode cX4_rots 39 = .ok (.iload_n 3, 1) := by decide +kernel
theorem dX4_rots_40 : decode cX4_rots 40 = .ok (.bipush 120, 2) := by decide +kernel
theorem dX4_rots_42 : decode cX4_rots 42 = .ok (.if_icmp .gt 33, 3) := by decide +kernel
theorem dX4_rots_45 : decode cX4_rots 45 = .ok (.iload_n 2, 1) := by decide +kernel
theorem dX4_rots_46 : decode cX4_rots 46 = .ok (.ifCond .ge 29, 3) := by decide +kernel
theorem dX4_rots_49 : decode cX4_rots 49 = .ok (.aload_n 0, 1) := by decide +kernel
theorem dX4_rots_50 : decode cX4_rots 50 = .ok (.iload_n 1, 1) := by decide +kernel
theorem dX4_rots_51 : decode cX4_rots 51 = .ok (.iconst 3, 1) := by decide +kernel
theorem dX4_rots_52 : decode cX4_rots 52 = .ok (.invokevirtual 84, 3) := by decide +kernel
theorem dX4_rots_55 : decode cX4_rots 55 = .ok (.iconst 1, 1) := by decide +kernel
theorem dX4_rots_56 : decode cX4_rots 56 = .ok (.if_icmp .ne 7, 3) := by decide +kernel
theorem dX4_rots_59 : decode cX4_rots 59 = .ok (.iload_n 3, 1) := by decide +kernel
theorem dX4_rots_60 : decode cX4_rots 60 = .ok (.goto 4, 3) := by decide +kernel
theorem dX4_rots_63 : decode cX4_rots 63 = .ok (.iconst (-1), 1) := by decide +kernel
theorem dX4_rots_64 : decode cX4_rots 64 = .ok (.istore_n 2, 1) := by decide +kernel
theorem dX4_rots_65 : decode cX4_rots 65 = .ok (.aload_n 0, 1) := by decide +kernel
theorem dX4_rots_66 : decode cX4_rots 66 = .ok (.invokevirtual 146, 3) := by decide +kernel
theorem dX4_rots_69 : decode cX4_rots 69 = .ok (.iinc 3 1, 3) := by decide +kernel
theorem dX4_rots_72 : decode cX4_rots 72 = .ok (.goto (-33), 3) := by decide +kernel
theorem dX4_rots_75 : decode cX4_rots 75 = .ok (.aload_n 0, 1) := by decide +kernel
theorem dX4_rots_76 : decode cX4_rots 76 = .ok (.invokevirtual 163, 3) := by decide +kernel
theorem dX4_rots_79 : decode cX4_rots 79 = .ok (.iload_n 2, 1) := by decide +kernel
theorem dX4_rots_80 : decode cX4_rots 80 = .ok (.ifCond .ge 12, 3) := by decide +kernel
theorem dX4_rots_83 : decode cX4_rots 83 = .ok (.aload_n 0, 1) := by decide +kernel
theorem dX4_rots_84 : decode cX4_rots 84 = .ok (.ldc 166, 2) := by decide +kernel
theorem dX4_rots_86 : decode cX4_rots 86 = .ok (.invokevirtual 57, 3) := by decide +kernel
theorem dX4_rots_89 : decode cX4_rots 89 = .ok (.goto 4, 3) := by decide +kernel
theorem dX4_rots_92 : decode cX4_rots 92 = .ok (.iload_n 2, 1) := by decide +kernel
theorem dX4_rots_93 : decode cX4_rots 93 = .ok (.ireturn, 1) := by decide +kernel
theorem dX4_when_0 : decode cX4_when 0 = .ok (.aload_n 0, 1) := by decide +kernel
theorem dX4_when_1 : decode cX4_when 1 = .ok (.iload_n 1, 1) := by decide +kernel
theorem dX4_when_2 : decode cX4_when 2 = .ok (.invokevirtual 87, 3) := by decide +kernel
theorem dX4_when_5 : decode cX4_when 5 = .ok (.ifCond .ne 10, 3) := by decide +kernel
theorem dX4_when_8 : decode cX4_when 8 = .ok (.aload_n 0, 1) := by decide +kernel
theorem dX4_when_9 : decode cX4_when 9 = .ok (.ldc 42, 2) := by decide +kernel
theorem dX4_when_11 : decode cX4_when 11 = .ok (.invokevirtual 57, 3) := by decide +kernel
theorem dX4_when_14 : decode cX4_when 14 = .ok (.ireturn, 1) := by decide +kernel
theorem dX4_when_15 : decode cX4_when 15 = .ok (.aload_n 0, 1) := by decide +kernel
theorem dX4_when_16 : decode cX4_when 16 = .ok (.bipush 24, 2) := by decide +kernel
theorem dX4_when_18 : decode cX4_when 18 = .ok (.invokevirtual 139, 3) := by decide +kernel
theorem dX4_when_21 : decode cX4_when 21 = .ok (.ifCond .eq 10, 3) := by decide +kernel
theorem dX4_when_24 : decode cX4_when 24 = .ok (.aload_n 0, 1) := by decide +kernel
theorem dX4_when_25 : decode cX4_when 25 = .ok (.ldc 119, 2) := by decide +kernel
theorem dX4_when_27 : decode cX4_when 27 = .ok (.invokevirtual 57, 3) := by decide +kernel
theorem dX4_when_30 : decode cX4_when 30 = .ok (.ireturn, 1) := by decide +kernel
theorem dX4_when_31 : decode cX4_when 31 = .ok (.aload_n 0, 1) := by decide +kernel
theorem dX4_when_32 : decode cX4_when 32 = .ok (.invokevirtual 160, 3) := by decide +kernel
theorem dX4_when_35 : decode cX4_when 35 = .ok (.iconst 0, 1) := by decide +kernel
theorem dX4_when_36 : decode cX4_when 36 = .ok (.istore_n 2, 1) := by decide +kernel
theorem dX4_when_37 : decode cX4_when 37 = .ok (.iconst (-1), 1) := by decide +kernel
theorem dX4_when_38 : decode cX4_when 38 = .ok (.istore_n 3, 1) := by decide +kernel
theorem dX4_when_39 : decode cX4_when 39 = .ok (.iconst 0, 1) := by decide +kernel
theorem dX4_when_40 : decode cX4_when 40 = .ok (.istore 4, 2) := by decide +kernel
theorem dX4_when_42 : decode cX4_when 42 = .ok (.iload 4, 2) := by decide +kernel
theorem dX4_when_44 : decode cX4_when 44 = .ok (.bipush 24, 2) := by decide +kernel
theorem dX4_when_46 : decode cX4_when 46 = .ok (.if_icmp .gt 46, 3) := by decide +kernel
theorem dX4_when_49 : decode cX4_when 49 = .ok (.aload_n 0, 1) := by decide +kernel
theorem dX4_when_50 : decode cX4_when 50 = .ok (.iload_n 1, 1) := by decide +kernel
theorem dX4_when_51 : decode cX4_when 51 = .ok (.invokevirtual 92, 3) := by decide +kernel
theorem dX4_when_54 : decode cX4_when 54 = .ok (.istore 5, 2) := by decide +kernel
theorem dX4_when_56 : decode cX4_when 56 = .ok (.iload 5, 2) := by decide +kernel
theorem dX4_when_58 : decode cX4_when 58 = .ok (.iload_n 3, 1) := by decide +kernel
theorem dX4_when_59 : decode cX4_when 59 = .ok (.if_icmp .le 8, 3) := by decide +kernel
theorem dX4_when_62 : decode cX4_when 62 = .ok (.iload 4, 2) := by decide +kernel
theorem dX4_when_64 : decode cX4_when 64 = .ok (.goto 4, 3) := by decide +kernel
theorem dX4_when_67 : decode cX4_when 67 = .ok (.iload_n 2, 1) := by decide +kernel
theorem dX4_when_68 : decode cX4_when 68 = .ok (.istore_n 2, 1) := by decide +kernel
theorem dX4_when_69 : decode cX4_when 69 = .ok (.iload 5, 2) := by decide +kernel
theorem dX4_when_71 : decode cX4_when 71 = .ok (.iload_n 3, 1) := by decide +kernel
theorem dX4_when_72 : decode cX4_when 72 = .ok (.if_icmp .le 8, 3) := by decide +kernel
theorem dX4_when_75 : decode cX4_when 75 = .ok (.iload 5, 2) := by decide +kernel
theorem dX4_when_77 : decode cX4_when 77 = .ok (.goto 4, 3) := by decide +kernel
theorem dX4_when_80 : decode cX4_when 80 = .ok (.iload_n 3, 1) := by decide +kernel
theorem dX4_when_81 : decode cX4_when 81 = .ok (.istore_n 3, 1) := by decide +kernel
theorem dX4_when_82 : decode cX4_when 82 = .ok (.aload_n 0, 1) := by decide +kernel
theorem dX4_when_83 : decode cX4_when 83 = .ok (.invokevirtual 146, 3) := by decide +kernel
theorem dX4_when_86 : decode cX4_when 86 = .ok (.iinc 4 1, 3) := by decide +kernel
theorem dX4_when_89 : decode cX4_when 89 = .ok (.goto (-47), 3) := by decide +kernel
theorem dX4_when_92 : decode cX4_when 92 = .ok (.aload_n 0, 1) := by decide +kernel
theorem dX4_when_93 : decode cX4_when 93 = .ok (.invokevirtual 163, 3) := by decide +kernel
theorem dX4_when_96 : decode cX4_when 96 = .ok (.iload_n 2, 1) := by decide +kernel
theorem dX4_when_97 : decode cX4_when 97 = .ok (.ireturn, 1) := by decide +kernel
theorem dX4_lacks_0 : decode cX4_lacks 0 = .ok (.iload_n 1, 1) := by decide +kernel
theorem dX4_lacks_1 : decode cX4_lacks 1 = .ok (.i2l, 1) := by decide +kernel
theorem dX4_lacks_2 : decode cX4_lacks 2 = .ok (.lconst 0, 1) := by decide +kernel
theorem dX4_lacks_3 : decode cX4_lacks 3 = .ok (.ldc2_w 137, 3) := by decide +kernel
theorem dX4_lacks_6 : decode cX4_lacks 6 = .ok (.invokestatic 49, 3) := by decide +kernel
theorem dX4_lacks_9 : decode cX4_lacks 9 = .ok (.ifCond .ne 10, 3) := by decide +kernel
theorem dX4_lacks_12 : decode cX4_lacks 12 = .ok (.aload_n 0, 1) := by decide +kernel
theorem dX4_lacks_13 : decode cX4_lacks 13 = .ok (.ldc 42, 2) := by decide +kernel
theorem dX4_lacks_15 : decode cX4_lacks 15 = .ok (.invokevirtual 57, 3) := by decide +kernel
theorem dX4_lacks_18 : decode cX4_lacks 18 = .ok (.ireturn, 1) := by decide +kernel
theorem dX4_lacks_19 : decode cX4_lacks 19 = .ok (.aload_n 0, 1) := by decide +kernel
theorem dX4_lacks_20 : decode cX4_lacks 20 = .ok (.iload_n 1, 1) := by decide +kernel
theorem dX4_lacks_21 : decode cX4_lacks 21 = .ok (.invokevirtual 139, 3) := by decide +kernel
theorem dX4_lacks_24 : decode cX4_lacks 24 = .ok (.ifCond .eq 10, 3) := by decide +kernel
theorem dX4_lacks_27 : decode cX4_lacks 27 = .ok (.aload_n 0, 1) := by decide +kernel
theorem dX4_lacks_28 : decode cX4_lacks 28 = .ok (.ldc 119, 2) := by decide +kernel
theorem dX4_lacks_30 : decode cX4_lacks 30 = .ok (.invokevirtual 57, 3) := by decide +kernel
theorem dX4_lacks_33 : decode cX4_lacks 33 = .ok (.ireturn, 1) := by decide +kernel
theorem dX4_lacks_34 : decode cX4_lacks 34 = .ok (.aload_n 0, 1) := by decide +kernel
theorem dX4_lacks_35 : decode cX4_lacks 35 = .ok (.invokevirtual 160, 3) := by decide +kernel
theorem dX4_lacks_38 : decode cX4_lacks 38 = .ok (.aload_n 0, 1) := by decide +kernel
theorem dX4_lacks_39 : decode cX4_lacks 39 = .ok (.iload_n 1, 1) := by decide +kernel
theorem dX4_lacks_40 : decode cX4_lacks 40 = .ok (.invokevirtual 152, 3) := by decide +kernel
theorem dX4_lacks_43 : decode cX4_lacks 43 = .ok (.aload_n 0, 1) := by decide +kernel
theorem dX4_lacks_44 : decode cX4_lacks 44 = .ok (.getfield 7, 3) := by decide +kernel
theorem dX4_lacks_47 : decode cX4_lacks 47 = .ok (.iconst 3, 1) := by decide +kernel
theorem dX4_lacks_48 : decode cX4_lacks 48 = .ok (.iaload, 1) := by decide +kernel
theorem dX4_lacks_49 : decode cX4_lacks 49 = .ok (.istore_n 2, 1) := by decide +kernel
theorem dX4_lacks_50 : decode cX4_lacks 50 = .ok (.aload_n 0, 1) := by decide +kernel
theorem dX4_lacks_51 : decode cX4_lacks 51 = .ok (.invokevirtual 163, 3) := by decide +kernel
theorem dX4_lacks_54 : decode cX4_lacks 54 = .ok (.iload_n 2, 1) := by decide +kernel
theorem dX4_lacks_55 : decode cX4_lacks 55 = .ok (.aload_n 0, 1) := by decide +kernel
theorem dX4_lacks_56 : decode cX4_lacks 56 = .ok (.getfield 7, 3) := by decide +kernel
theorem dX4_lacks_59 : decode cX4_lacks 59 = .ok (.iconst 3, 1) := by decide +kernel
theorem dX4_lacks_60 : decode cX4_lacks 60 = .ok (.iaload, 1) := by decide +kernel
theorem dX4_lacks_61 : decode cX4_lacks 61 = .ok (.isub, 1) := by decide +kernel
theorem dX4_lacks_62 : decode cX4_lacks 62 = .ok (.ireturn, 1) := by decide +kernel
theorem dX4_worthOn_0 : decode cX4_worthOn 0 = .ok (.aload_n 0, 1) := by decide +kernel
theorem dX4_worthOn_1 : decode cX4_worthOn 1 = .ok (.iload_n 2, 1) := by decide +kernel
theorem dX4_worthOn_2 : decode cX4_worthOn 2 = .ok (.invokevirtual 152, 3) := by decide +kernel
theorem dX4_worthOn_5 : decode cX4_worthOn 5 = .ok (.aload_n 0, 1) := by decide +kernel
theorem dX4_worthOn_6 : decode cX4_worthOn 6 = .ok (.iload_n 1, 1) := by decide +kernel
theorem dX4_worthOn_7 : decode cX4_worthOn 7 = .ok (.invokevirtual 92, 3) := by decide +kernel
theorem dX4_worthOn_10 : decode cX4_worthOn 10 = .ok (.istore_n 3, 1) := by decide +kernel
theorem dX4_worthOn_11 : decode cX4_worthOn 11 = .ok (.aload_n 0, 1) := by decide +kernel
theorem dX4_worthOn_12 : decode cX4_worthOn 12 = .ok (.invokevirtual 163, 3) := by decide +kernel
theorem dX4_worthOn_15 : decode cX4_worthOn 15 = .ok (.iload_n 3, 1) := by decide +kernel
theorem dX4_worthOn_16 : decode cX4_worthOn 16 = .ok (.ireturn, 1) := by decide +kernel
theorem dX4_best_0 : decode cX4_best 0 = .ok (.aload_n 0, 1) := by decide +kernel
theorem dX4_best_1 : decode cX4_best 1 = .ok (.iload_n 1, 1) := by decide +kernel
theorem dX4_best_2 : decode cX4_best 2 = .ok (.invokevirtual 87, 3) := by decide +kernel
theorem dX4_best_5 : decode cX4_best 5 = .ok (.ifCond .eq 15, 3) := by decide +kernel
theorem dX4_best_8 : decode cX4_best 8 = .ok (.iload_n 2, 1) := by decide +kernel
theorem dX4_best_9 : decode cX4_best 9 = .ok (.i2l, 1) := by decide +kernel
theorem dX4_best_10 : decode cX4_best 10 = .ok (.lconst 1, 1) := by decide +kernel
theorem dX4_best_11 : decode cX4_best 11 = .ok (.ldc2_w 167, 3) := by decide +kernel
theorem dX4_best_14 : decode cX4_best 14 = .ok (.invokestatic 49, 3) := by decide +kernel
theorem dX4_best_17 : decode cX4_best 17 = .ok (.ifCond .ne 10, 3) := by decide +kernel
theorem dX4_best_20 : decode cX4_best 20 = .ok (.aload_n 0, 1) := by decide +kernel
theorem dX4_best_21 : decode cX4_best 21 = .ok (.ldc 42, 2) := by decide +kernel
theorem dX4_best_23 : decode cX4_best 23 = .ok (.invokevirtual 57, 3) := by decide +kernel
theorem dX4_best_26 : decode cX4_best 26 = .ok (.ireturn, 1) := by decide +kernel
theorem dX4_best_27 : decode cX4_best 27 = .ok (.aload_n 0, 1) := by decide +kernel
theorem dX4_best_28 : decode cX4_best 28 = .ok (.iload_n 1, 1) := by decide +kernel
theorem dX4_best_29 : decode cX4_best 29 = .ok (.iconst 3, 1) := by decide +kernel
theorem dX4_best_30 : decode cX4_best 30 = .ok (.invokevirtual 84, 3) := by decide +kernel
theorem dX4_best_33 : decode cX4_best 33 = .ok (.ifCond .ne 11, 3) := by decide +kernel
theorem dX4_best_36 : decode cX4_best 36 = .ok (.aload_n 0, 1) := by decide +kernel
theorem dX4_best_37 : decode cX4_best 37 = .ok (.iload_n 2, 1) := by decide +kernel
theorem dX4_best_38 : decode cX4_best 38 = .ok (.invokevirtual 139, 3) := by decide +kernel
theorem dX4_best_41 : decode cX4_best 41 = .ok (.ifCond .eq 10, 3) := by decide +kernel
theorem dX4_best_44 : decode cX4_best 44 = .ok (.aload_n 0, 1) := by decide +kernel
theorem dX4_best_45 : decode cX4_best 45 = .ok (.ldc 119, 2) := by decide +kernel
theorem dX4_best_47 : decode cX4_best 47 = .ok (.invokevirtual 57, 3) := by decide +kernel
theorem dX4_best_50 : decode cX4_best 50 = .ok (.ireturn, 1) := by decide +kernel
theorem dX4_best_51 : decode cX4_best 51 = .ok (.aload_n 0, 1) := by decide +kernel
theorem dX4_best_52 : decode cX4_best 52 = .ok (.invokevirtual 160, 3) := by decide +kernel
theorem dX4_best_55 : decode cX4_best 55 = .ok (.aload_n 0, 1) := by decide +kernel
theorem dX4_best_56 : decode cX4_best 56 = .ok (.iload_n 1, 1) := by decide +kernel
theorem dX4_best_57 : decode cX4_best 57 = .ok (.iload_n 2, 1) := by decide +kernel
theorem dX4_best_58 : decode cX4_best 58 = .ok (.invokevirtual 169, 3) := by decide +kernel
theorem dX4_best_61 : decode cX4_best 61 = .ok (.istore_n 3, 1) := by decide +kernel
theorem dX4_best_62 : decode cX4_best 62 = .ok (.aload_n 0, 1) := by decide +kernel
theorem dX4_best_63 : decode cX4_best 63 = .ok (.iload_n 1, 1) := by decide +kernel
theorem dX4_best_64 : decode cX4_best 64 = .ok (.invokevirtual 92, 3) := by decide +kernel
theorem dX4_best_67 : decode cX4_best 67 = .ok (.istore 4, 2) := by decide +kernel
theorem dX4_best_69 : decode cX4_best 69 = .ok (.iconst (-1), 1) := by decide +kernel
theorem dX4_best_70 : decode cX4_best 70 = .ok (.istore 5, 2) := by decide +kernel
theorem dX4_best_72 : decode cX4_best 72 = .ok (.aload_n 0, 1) := by decide +kernel
theorem dX4_best_73 : decode cX4_best 73 = .ok (.invokevirtual 115, 3) := by decide +kernel
theorem dX4_best_76 : decode cX4_best 76 = .ok (.ifCond .eq 18, 3) := by decide +kernel
theorem dX4_best_79 : decode cX4_best 79 = .ok (.aload_n 0, 1) := by decide +kernel
theorem dX4_best_80 : decode cX4_best 80 = .ok (.iload_n 1, 1) := by decide +kernel
theorem dX4_best_81 : decode cX4_best 81 = .ok (.iconst 3, 1) := by decide +kernel
theorem dX4_best_82 : decode cX4_best 82 = .ok (.iconst 2, 1) := by decide +kernel
theorem dX4_best_83 : decode cX4_best 83 = .ok (.invokevirtual 65, 3) := by decide +kernel
theorem dX4_best_86 : decode cX4_best 86 = .ok (.aload_n 0, 1) := by decide +kernel
theorem dX4_best_87 : decode cX4_best 87 = .ok (.iload_n 1, 1) := by decide +kernel
theorem dX4_best_88 : decode cX4_best 88 = .ok (.iload_n 2, 1) := by decide +kernel
theorem dX4_best_89 : decode cX4_best 89 = .ok (.invokevirtual 169, 3) := by decide +kernel
theorem dX4_best_92 : decode cX4_best 92 = .ok (.istore 5, 2) := by decide +kernel
theorem dX4_best_94 : decode cX4_best 94 = .ok (.iload 4, 2) := by decide +kernel
theorem dX4_best_96 : decode cX4_best 96 = .ok (.iload_n 3, 1) := by decide +kernel
theorem dX4_best_97 : decode cX4_best 97 = .ok (.if_icmp .le 7, 3) := by decide +kernel
theorem dX4_best_100 : decode cX4_best 100 = .ok (.iconst 1, 1) := by decide +kernel
theorem dX4_best_101 : decode cX4_best 101 = .ok (.goto 4, 3) := by decide +kernel
theorem dX4_best_104 : decode cX4_best 104 = .ok (.iconst 0, 1) := by decide +kernel
theorem dX4_best_105 : decode cX4_best 105 = .ok (.istore 6, 2) := by decide +kernel
theorem dX4_best_107 : decode cX4_best 107 = .ok (.iload 5, 2) := by decide +kernel
theorem dX4_best_109 : decode cX4_best 109 = .ok (.iload 6, 2) := by decide +kernel
theorem dX4_best_111 : decode cX4_best 111 = .ok (.iconst 1, 1) := by decide +kernel
theorem dX4_best_112 : decode cX4_best 112 = .ok (.if_icmp .ne 8, 3) := by decide +kernel
theorem dX4_best_115 : decode cX4_best 115 = .ok (.iload 4, 2) := by decide +kernel
theorem dX4_best_117 : decode cX4_best 117 = .ok (.goto 4, 3) := by decide +kernel
theorem dX4_best_120 : decode cX4_best 120 = .ok (.iload_n 3, 1) := by decide +kernel
theorem dX4_best_121 : decode cX4_best 121 = .ok (.if_icmp .le 7, 3) := by decide +kernel
theorem dX4_best_124 : decode cX4_best 124 = .ok (.iconst 2, 1) := by decide +kernel
theorem dX4_best_125 : decode cX4_best 125 = .ok (.goto 5, 3) := by decide +kernel
theorem dX4_best_128 : decode cX4_best 128 = .ok (.iload 6, 2) := by decide +kernel
theorem dX4_best_130 : decode cX4_best 130 = .ok (.ireturn, 1) := by decide +kernel
theorem dX4_kind_0 : decode cX4_kind 0 = .ok (.aload_n 0, 1) := by decide +kernel
theorem dX4_kind_1 : decode cX4_kind 1 = .ok (.iload_n 1, 1) := by decide +kernel
theorem dX4_kind_2 : decode cX4_kind 2 = .ok (.invokevirtual 87, 3) := by decide +kernel
theorem dX4_kind_5 : decode cX4_kind 5 = .ok (.ifCond .eq 15, 3) := by decide +kernel
theorem dX4_kind_8 : decode cX4_kind 8 = .ok (.iload_n 2, 1) := by decide +kernel
theorem dX4_kind_9 : decode cX4_kind 9 = .ok (.i2l, 1) := by decide +kernel
theorem dX4_kind_10 : decode cX4_kind 10 = .ok (.lconst 1, 1) := by decide +kernel
theorem dX4_kind_11 : decode cX4_kind 11 = .ok (.ldc2_w 137, 3) := by decide +kernel
theorem dX4_kind_14 : decode cX4_kind 14 = .ok (.invokestatic 49, 3) := by decide +kernel
theorem dX4_kind_17 : decode cX4_kind 17 = .ok (.ifCond .ne 10, 3) := by decide +kernel
theorem dX4_kind_20 : decode cX4_kind 20 = .ok (.aload_n 0, 1) := by decide +kernel
theorem dX4_kind_21 : decode cX4_kind 21 = .ok (.ldc 42, 2) := by decide +kernel
theorem dX4_kind_23 : decode cX4_kind 23 = .ok (.invokevirtual 57, 3) := by decide +kernel
theorem dX4_kind_26 : decode cX4_kind 26 = .ok (.ireturn, 1) := by decide +kernel
theorem dX4_kind_27 : decode cX4_kind 27 = .ok (.aload_n 0, 1) := by decide +kernel
theorem dX4_kind_28 : decode cX4_kind 28 = .ok (.iload_n 2, 1) := by decide +kernel
theorem dX4_kind_29 : decode cX4_kind 29 = .ok (.invokevirtual 139, 3) := by decide +kernel
theorem dX4_kind_32 : decode cX4_kind 32 = .ok (.ifCond .eq 10, 3) := by decide +kernel
theorem dX4_kind_35 : decode cX4_kind 35 = .ok (.aload_n 0, 1) := by decide +kernel
theorem dX4_kind_36 : decode cX4_kind 36 = .ok (.ldc 119, 2) := by decide +kernel
theorem dX4_kind_38 : decode cX4_kind 38 = .ok (.invokevirtual 57, 3) := by decide +kernel
theorem dX4_kind_41 : decode cX4_kind 41 = .ok (.ireturn, 1) := by decide +kernel
theorem dX4_kind_42 : decode cX4_kind 42 = .ok (.aload_n 0, 1) := by decide +kernel
theorem dX4_kind_43 : decode cX4_kind 43 = .ok (.invokevirtual 160, 3) := by decide +kernel
theorem dX4_kind_46 : decode cX4_kind 46 = .ok (.iconst 0, 1) := by decide +kernel
theorem dX4_kind_47 : decode cX4_kind 47 = .ok (.istore_n 3, 1) := by decide +kernel
theorem dX4_kind_48 : decode cX4_kind 48 = .ok (.iconst (-1), 1) := by decide +kernel
theorem dX4_kind_49 : decode cX4_kind 49 = .ok (.istore 4, 2) := by decide +kernel
theorem dX4_kind_51 : decode cX4_kind 51 = .ok (.iconst 0, 1) := by decide +kernel
theorem dX4_kind_52 : decode cX4_kind 52 = .ok (.istore 5, 2) := by decide +kernel
theorem dX4_kind_54 : decode cX4_kind 54 = .ok (.iload 5, 2) := by decide +kernel
theorem dX4_kind_56 : decode cX4_kind 56 = .ok (.iconst 5, 1) := by decide +kernel
theorem dX4_kind_57 : decode cX4_kind 57 = .ok (.if_icmp .gt 55, 3) := by decide +kernel
theorem dX4_kind_60 : decode cX4_kind 60 = .ok (.aload_n 0, 1) := by decide +kernel
theorem dX4_kind_61 : decode cX4_kind 61 = .ok (.iload_n 1, 1) := by decide +kernel
theorem dX4_kind_62 : decode cX4_kind 62 = .ok (.iconst 0, 1) := by decide +kernel
theorem dX4_kind_63 : decode cX4_kind 63 = .ok (.iload 5, 2) := by decide +kernel
theorem dX4_kind_65 : decode cX4_kind 65 = .ok (.invokevirtual 65, 3) := by decide +kernel
theorem dX4_kind_68 : decode cX4_kind 68 = .ok (.aload_n 0, 1) := by decide +kernel
theorem dX4_kind_69 : decode cX4_kind 69 = .ok (.iload_n 1, 1) := by decide +kernel
theorem dX4_kind_70 : decode cX4_kind 70 = .ok (.iload_n 2, 1) := by decide +kernel
theorem dX4_kind_71 : decode cX4_kind 71 = .ok (.invokevirtual 169, 3) := by decide +kernel
theorem dX4_kind_74 : decode cX4_kind 74 = .ok (.istore 6, 2) := by decide +kernel
theorem dX4_kind_76 : decode cX4_kind 76 = .ok (.iload 6, 2) := by decide +kernel
theorem dX4_kind_78 : decode cX4_kind 78 = .ok (.iload 4, 2) := by decide +kernel
theorem dX4_kind_80 : decode cX4_kind 80 = .ok (.if_icmp .le 8, 3) := by decide +kernel
theorem dX4_kind_83 : decode cX4_kind 83 = .ok (.iload 5, 2) := by decide +kernel
theorem dX4_kind_85 : decode cX4_kind 85 = .ok (.goto 4, 3) := by decide +kernel
theorem dX4_kind_88 : decode cX4_kind 88 = .ok (.iload_n 3, 1) := by decide +kernel
theorem dX4_kind_89 : decode cX4_kind 89 = .ok (.istore_n 3, 1) := by decide +kernel
theorem dX4_kind_90 : decode cX4_kind 90 = .ok (.iload 6, 2) := by decide +kernel
theorem dX4_kind_92 : decode cX4_kind 92 = .ok (.iload 4, 2) := by decide +kernel
theorem dX4_kind_94 : decode cX4_kind 94 = .ok (.if_icmp .le 8, 3) := by decide +kernel
theorem dX4_kind_97 : decode cX4_kind 97 = .ok (.iload 6, 2) := by decide +kernel
theorem dX4_kind_99 : decode cX4_kind 99 = .ok (.goto 5, 3) := by decide +kernel
theorem dX4_kind_102 : decode cX4_kind 102 = .ok (.iload 4, 2) := by decide +kernel
theorem dX4_kind_104 : decode cX4_kind 104 = .ok (.istore 4, 2) := by decide +kernel
theorem dX4_kind_106 : decode cX4_kind 106 = .ok (.iinc 5 1, 3) := by decide +kernel
theorem dX4_kind_109 : decode cX4_kind 109 = .ok (.goto (-55), 3) := by decide +kernel
theorem dX4_kind_112 : decode cX4_kind 112 = .ok (.iload_n 3, 1) := by decide +kernel
theorem dX4_kind_113 : decode cX4_kind 113 = .ok (.ireturn, 1) := by decide +kernel
theorem dX4_goodBy_0 : decode cX4_goodBy 0 = .ok (.aload_n 0, 1) := by decide +kernel
theorem dX4_goodBy_1 : decode cX4_goodBy 1 = .ok (.iload_n 1, 1) := by decide +kernel
theorem dX4_goodBy_2 : decode cX4_goodBy 2 = .ok (.iload_n 2, 1) := by decide +kernel
theorem dX4_goodBy_3 : decode cX4_goodBy 3 = .ok (.invokevirtual 111, 3) := by decide +kernel
theorem dX4_goodBy_6 : decode cX4_goodBy 6 = .ok (.aload_n 0, 1) := by decide +kernel
theorem dX4_goodBy_7 : decode cX4_goodBy 7 = .ok (.iload_n 3, 1) := by decide +kernel
theorem dX4_goodBy_8 : decode cX4_goodBy 8 = .ok (.invokevirtual 152, 3) := by decide +kernel
theorem dX4_goodBy_11 : decode cX4_goodBy 11 = .ok (.aload_n 0, 1) := by decide +kernel
theorem dX4_goodBy_12 : decode cX4_goodBy 12 = .ok (.getfield 7, 3) := by decide +kernel
theorem dX4_goodBy_15 : decode cX4_goodBy 15 = .ok (.iconst 0, 1) := by decide +kernel
theorem dX4_goodBy_16 : decode cX4_goodBy 16 = .ok (.iaload, 1) := by decide +kernel
theorem dX4_goodBy_17 : decode cX4_goodBy 17 = .ok (.aload_n 0, 1) := by decide +kernel
theorem dX4_goodBy_18 : decode cX4_goodBy 18 = .ok (.iconst 1, 1) := by decide +kernel
theorem dX4_goodBy_19 : decode cX4_goodBy 19 = .ok (.invokevirtual 149, 3) := by decide +kernel
theorem dX4_goodBy_22 : decode cX4_goodBy 22 = .ok (.isub, 1) := by decide +kernel
theorem dX4_goodBy_23 : decode cX4_goodBy 23 = .ok (.istore 4, 2) := by decide +kernel
theorem dX4_goodBy_25 : decode cX4_goodBy 25 = .ok (.aload_n 0, 1) := by decide +kernel
theorem dX4_goodBy_26 : decode cX4_goodBy 26 = .ok (.invokevirtual 163, 3) := by decide +kernel
theorem dX4_goodBy_29 : decode cX4_goodBy 29 = .ok (.iload 4, 2) := by decide +kernel
theorem dX4_goodBy_31 : decode cX4_goodBy 31 = .ok (.ireturn, 1) := by decide +kernel
theorem dX4_cellar_0 : decode cX4_cellar 0 = .ok (.iload_n 1, 1) := by decide +kernel
theorem dX4_cellar_1 : decode cX4_cellar 1 = .ok (.i2l, 1) := by decide +kernel
theorem dX4_cellar_2 : decode cX4_cellar 2 = .ok (.lconst 1, 1) := by decide +kernel
theorem dX4_cellar_3 : decode cX4_cellar 3 = .ok (.ldc2_w 172, 3) := by decide +kernel
theorem dX4_cellar_6 : decode cX4_cellar 6 = .ok (.invokestatic 49, 3) := by decide +kernel
theorem dX4_cellar_9 : decode cX4_cellar 9 = .ok (.ifCond .ne 10, 3) := by decide +kernel
theorem dX4_cellar_12 : decode cX4_cellar 12 = .ok (.aload_n 0, 1) := by decide +kernel
theorem dX4_cellar_13 : decode cX4_cellar 13 = .ok (.ldc 42, 2) := by decide +kernel
theorem dX4_cellar_15 : decode cX4_cellar 15 = .ok (.invokevirtual 57, 3) := by decide +kernel
theorem dX4_cellar_18 : decode cX4_cellar 18 = .ok (.ireturn, 1) := by decide +kernel
theorem dX4_cellar_19 : decode cX4_cellar 19 = .ok (.aload_n 0, 1) := by decide +kernel
theorem dX4_cellar_20 : decode cX4_cellar 20 = .ok (.iload_n 1, 1) := by decide +kernel
theorem dX4_cellar_21 : decode cX4_cellar 21 = .ok (.invokevirtual 139, 3) := by decide +kernel
theorem dX4_cellar_24 : decode cX4_cellar 24 = .ok (.ifCond .eq 10, 3) := by decide +kernel
theorem dX4_cellar_27 : decode cX4_cellar 27 = .ok (.aload_n 0, 1) := by decide +kernel
theorem dX4_cellar_28 : decode cX4_cellar 28 = .ok (.ldc 119, 2) := by decide +kernel
theorem dX4_cellar_30 : decode cX4_cellar 30 = .ok (.invokevirtual 57, 3) := by decide +kernel
theorem dX4_cellar_33 : decode cX4_cellar 33 = .ok (.ireturn, 1) := by decide +kernel
theorem dX4_cellar_34 : decode cX4_cellar 34 = .ok (.aload_n 0, 1) := by decide +kernel
theorem dX4_cellar_35 : decode cX4_cellar 35 = .ok (.invokevirtual 160, 3) := by decide +kernel
theorem dX4_cellar_38 : decode cX4_cellar 38 = .ok (.iconst (-1), 1) := by decide +kernel
theorem dX4_cellar_39 : decode cX4_cellar 39 = .ok (.istore_n 2, 1) := by decide +kernel
theorem dX4_cellar_40 : decode cX4_cellar 40 = .ok (.aload_n 0, 1) := by decide +kernel
theorem dX4_cellar_41 : decode cX4_cellar 41 = .ok (.getfield 7, 3) := by decide +kernel
theorem dX4_cellar_44 : decode cX4_cellar 44 = .ok (.iconst 0, 1) := by decide +kernel
theorem dX4_cellar_45 : decode cX4_cellar 45 = .ok (.iaload, 1) := by decide +kernel
theorem dX4_cellar_46 : decode cX4_cellar 46 = .ok (.ifCond .ne 7, 3) := by decide +kernel
theorem dX4_cellar_49 : decode cX4_cellar 49 = .ok (.iconst 0, 1) := by decide +kernel
theorem dX4_cellar_50 : decode cX4_cellar 50 = .ok (.goto 10, 3) := by decide +kernel
theorem dX4_cellar_53 : decode cX4_cellar 53 = .ok (.aload_n 0, 1) := by decide +kernel
theorem dX4_cellar_54 : decode cX4_cellar 54 = .ok (.iconst 0, 1) := by decide +kernel
theorem dX4_cellar_55 : decode cX4_cellar 55 = .ok (.iconst 0, 1) := by decide +kernel
theorem dX4_cellar_56 : decode cX4_cellar 56 = .ok (.iload_n 1, 1) := by decide +kernel
theorem dX4_cellar_57 : decode cX4_cellar 57 = .ok (.invokevirtual 174, 3) := by decide +kernel
theorem dX4_cellar_60 : decode cX4_cellar 60 = .ok (.istore_n 3, 1) := by decide +kernel
theorem dX4_cellar_61 : decode cX4_cellar 61 = .ok (.iconst 0, 1) := by decide +kernel
theorem dX4_cellar_62 : decode cX4_cellar 62 = .ok (.istore 4, 2) := by decide +kernel
theorem dX4_cellar_64 : decode cX4_cellar 64 = .ok (.iload 4, 2) := by decide +kernel
theorem dX4_cellar_66 : decode cX4_cellar 66 = .ok (.aload_n 0, 1) := by decide +kernel
theorem dX4_cellar_67 : decode cX4_cellar 67 = .ok (.getfield 7, 3) := by decide +kernel
theorem dX4_cellar_70 : decode cX4_cellar 70 = .ok (.iconst 0, 1) := by decide +kernel
theorem dX4_cellar_71 : decode cX4_cellar 71 = .ok (.iaload, 1) := by decide +kernel
theorem dX4_cellar_72 : decode cX4_cellar 72 = .ok (.if_icmp .ge 75, 3) := by decide +kernel
theorem dX4_cellar_75 : decode cX4_cellar 75 = .ok (.iload 4, 2) := by decide +kernel
theorem dX4_cellar_77 : decode cX4_cellar 77 = .ok (.iconst 1, 1) := by decide +kernel
theorem dX4_cellar_78 : decode cX4_cellar 78 = .ok (.iadd, 1) := by decide +kernel
theorem dX4_cellar_79 : decode cX4_cellar 79 = .ok (.istore 5, 2) := by decide +kernel
theorem dX4_cellar_81 : decode cX4_cellar 81 = .ok (.iload 5, 2) := by decide +kernel
theorem dX4_cellar_83 : decode cX4_cellar 83 = .ok (.aload_n 0, 1) := by decide +kernel
theorem dX4_cellar_84 : decode cX4_cellar 84 = .ok (.getfield 7, 3) := by decide +kernel
theorem dX4_cellar_87 : decode cX4_cellar 87 = .ok (.iconst 0, 1) := by decide +kernel
theorem dX4_cellar_88 : decode cX4_cellar 88 = .ok (.iaload, 1) := by decide +kernel
theorem dX4_cellar_89 : decode cX4_cellar 89 = .ok (.if_icmp .ge 52, 3) := by decide +kernel
theorem dX4_cellar_92 : decode cX4_cellar 92 = .ok (.aload_n 0, 1) := by decide +kernel
theorem dX4_cellar_93 : decode cX4_cellar 93 = .ok (.iload 4, 2) := by decide +kernel
theorem dX4_cellar_95 : decode cX4_cellar 95 = .ok (.iload 5, 2) := by decide +kernel
theorem dX4_cellar_97 : decode cX4_cellar 97 = .ok (.iload_n 1, 1) := by decide +kernel
theorem dX4_cellar_98 : decode cX4_cellar 98 = .ok (.invokevirtual 174, 3) := by decide +kernel
theorem dX4_cellar_101 : decode cX4_cellar 101 = .ok (.istore 6, 2) := by decide +kernel
theorem dX4_cellar_103 : decode cX4_cellar 103 = .ok (.iload 6, 2) := by decide +kernel
theorem dX4_cellar_105 : decode cX4_cellar 105 = .ok (.iload_n 3, 1) := by decide +kernel
theorem dX4_cellar_106 : decode cX4_cellar 106 = .ok (.if_icmp .le 14, 3) := by decide +kernel
theorem dX4_cellar_109 : decode cX4_cellar 109 = .ok (.bipush 100, 2) := by decide +kernel
theorem dX4_cellar_111 : decode cX4_cellar 111 = .ok (.iload 4, 2) := by decide +kernel
theorem dX4_cellar_113 : decode cX4_cellar 113 = .ok (.imul, 1) := by decide +kernel
theorem dX4_cellar_114 : decode cX4_cellar 114 = .ok (.iload 5, 2) := by decide +kernel
theorem dX4_cellar_116 : decode cX4_cellar 116 = .ok (.iadd, 1) := by decide +kernel
theorem dX4_cellar_117 : decode cX4_cellar 117 = .ok (.goto 4, 3) := by decide +kernel
theorem dX4_cellar_120 : decode cX4_cellar 120 = .ok (.iload_n 2, 1) := by decide +kernel
theorem dX4_cellar_121 : decode cX4_cellar 121 = .ok (.istore_n 2, 1) := by decide +kernel
theorem dX4_cellar_122 : decode cX4_cellar 122 = .ok (.iload 6, 2) := by decide +kernel
theorem dX4_cellar_124 : decode cX4_cellar 124 = .ok (.iload_n 3, 1) := by decide +kernel
theorem dX4_cellar_125 : decode cX4_cellar 125 = .ok (.if_icmp .le 8, 3) := by decide +kernel
theorem dX4_cellar_128 : decode cX4_cellar 128 = .ok (.iload 6, 2) := by decide +kernel
theorem dX4_cellar_130 : decode cX4_cellar 130 = .ok (.goto 4, 3) := by decide +kernel
theorem dX4_cellar_133 : decode cX4_cellar 133 = .ok (.iload_n 3, 1) := by decide +kernel
theorem dX4_cellar_134 : decode cX4_cellar 134 = .ok (.istore_n 3, 1) := by decide +kernel
theorem dX4_cellar_135 : decode cX4_cellar 135 = .ok (.iinc 5 1, 3) := by decide +kernel
theorem dX4_cellar_138 : decode cX4_cellar 138 = .ok (.goto (-57), 3) := by decide +kernel
theorem dX4_cellar_141 : decode cX4_cellar 141 = .ok (.iinc 4 1, 3) := by decide +kernel
theorem dX4_cellar_144 : decode cX4_cellar 144 = .ok (.goto (-80), 3) := by decide +kernel
theorem dX4_cellar_147 : decode cX4_cellar 147 = .ok (.iload_n 2, 1) := by decide +kernel
theorem dX4_cellar_148 : decode cX4_cellar 148 = .ok (.ifCond .ge 12, 3) := by decide +kernel
theorem dX4_cellar_151 : decode cX4_cellar 151 = .ok (.aload_n 0, 1) := by decide +kernel
theorem dX4_cellar_152 : decode cX4_cellar 152 = .ok (.ldc 166, 2) := by decide +kernel
theorem dX4_cellar_154 : decode cX4_cellar 154 = .ok (.invokevirtual 57, 3) := by decide +kernel
theorem dX4_cellar_157 : decode cX4_cellar 157 = .ok (.goto 4, 3) := by decide +kernel
theorem dX4_cellar_160 : decode cX4_cellar 160 = .ok (.iload_n 2, 1) := by decide +kernel
theorem dX4_cellar_161 : decode cX4_cellar 161 = .ok (.ireturn, 1) := by decide +kernel
theorem dX4_manyIn_0 : decode cX4_manyIn 0 = .ok (.iconst 0, 1) := by decide +kernel
theorem dX4_manyIn_1 : decode cX4_manyIn 1 = .ok (.istore_n 1, 1) := by decide +kernel
theorem dX4_manyIn_2 : decode cX4_manyIn 2 = .ok (.iload_n 0, 1) := by decide +kernel
theorem dX4_manyIn_3 : decode cX4_manyIn 3 = .ok (.istore_n 2, 1) := by decide +kernel
theorem dX4_manyIn_4 : decode cX4_manyIn 4 = .ok (.iload_n 2, 1) := by decide +kernel
theorem dX4_manyIn_5 : decode cX4_manyIn 5 = .ok (.ifCond .eq 15, 3) := by decide +kernel
theorem dX4_manyIn_8 : decode cX4_manyIn 8 = .ok (.iinc 1 1, 3) := by decide +kernel
theorem dX4_manyIn_11 : decode cX4_manyIn 11 = .ok (.iload_n 2, 1) := by decide +kernel
theorem dX4_manyIn_12 : decode cX4_manyIn 12 = .ok (.iload_n 2, 1) := by decide +kernel
theorem dX4_manyIn_13 : decode cX4_manyIn 13 = .ok (.iconst 1, 1) := by decide +kernel
theorem dX4_manyIn_14 : decode cX4_manyIn 14 = .ok (.isub, 1) := by decide +kernel
theorem dX4_manyIn_15 : decode cX4_manyIn 15 = .ok (.iand, 1) := by decide +kernel
theorem dX4_manyIn_16 : decode cX4_manyIn 16 = .ok (.istore_n 2, 1) := by decide +kernel
theorem dX4_manyIn_17 : decode cX4_manyIn 17 = .ok (.goto (-13), 3) := by decide +kernel
theorem dX4_manyIn_20 : decode cX4_manyIn 20 = .ok (.iload_n 1, 1) := by decide +kernel
theorem dX4_manyIn_21 : decode cX4_manyIn 21 = .ok (.ireturn, 1) := by decide +kernel
theorem dX4_purseBy_0 : decode cX4_purseBy 0 = .ok (.iconst 0, 1) := by decide +kernel
theorem dX4_purseBy_1 : decode cX4_purseBy 1 = .ok (.istore 4, 2) := by decide +kernel
theorem dX4_purseBy_3 : decode cX4_purseBy 3 = .ok (.iload 4, 2) := by decide +kernel
theorem dX4_purseBy_5 : decode cX4_purseBy 5 = .ok (.aload_n 0, 1) := by decide +kernel
theorem dX4_purseBy_6 : decode cX4_purseBy 6 = .ok (.getfield 7, 3) := by decide +kernel
theorem dX4_purseBy_9 : decode cX4_purseBy 9 = .ok (.iconst 0, 1) := by decide +kernel
theorem dX4_purseBy_10 : decode cX4_purseBy 10 = .ok (.iaload, 1) := by decide +kernel
theorem dX4_purseBy_11 : decode cX4_purseBy 11 = .ok (.if_icmp .ge 27, 3) := by decide +kernel
theorem dX4_purseBy_14 : decode cX4_purseBy 14 = .ok (.iload_n 2, 1) := by decide +kernel
theorem dX4_purseBy_15 : decode cX4_purseBy 15 = .ok (.iload 4, 2) := by decide +kernel
theorem dX4_purseBy_17 : decode cX4_purseBy 17 = .ok (.ishr, 1) := by decide +kernel
theorem dX4_purseBy_18 : decode cX4_purseBy 18 = .ok (.iconst 1, 1) := by decide +kernel
theorem dX4_purseBy_19 : decode cX4_purseBy 19 = .ok (.iand, 1) := by decide +kernel
theorem dX4_purseBy_20 : decode cX4_purseBy 20 = .ok (.iconst 1, 1) := by decide +kernel
theorem dX4_purseBy_21 : decode cX4_purseBy 21 = .ok (.if_icmp .ne 11, 3) := by decide +kernel
theorem dX4_purseBy_24 : decode cX4_purseBy 24 = .ok (.aload_n 0, 1) := by decide +kernel
theorem dX4_purseBy_25 : decode cX4_purseBy 25 = .ok (.iload 4, 2) := by decide +kernel
theorem dX4_purseBy_27 : decode cX4_purseBy 27 = .ok (.iconst 3, 1) := by decide +kernel
theorem dX4_purseBy_28 : decode cX4_purseBy 28 = .ok (.iconst 2, 1) := by decide +kernel
theorem dX4_purseBy_29 : decode cX4_purseBy 29 = .ok (.invokevirtual 65, 3) := by decide +kernel
theorem dX4_purseBy_32 : decode cX4_purseBy 32 = .ok (.iinc 4 1, 3) := by decide +kernel
theorem dX4_purseBy_35 : decode cX4_purseBy 35 = .ok (.goto (-32), 3) := by decide +kernel
theorem dX4_purseBy_38 : decode cX4_purseBy 38 = .ok (.aload_n 0, 1) := by decide +kernel
theorem dX4_purseBy_39 : decode cX4_purseBy 39 = .ok (.iload_n 3, 1) := by decide +kernel
theorem dX4_purseBy_40 : decode cX4_purseBy 40 = .ok (.invokevirtual 152, 3) := by decide +kernel
theorem dX4_purseBy_43 : decode cX4_purseBy 43 = .ok (.aload_n 0, 1) := by decide +kernel
theorem dX4_purseBy_44 : decode cX4_purseBy 44 = .ok (.iload_n 1, 1) := by decide +kernel
theorem dX4_purseBy_45 : decode cX4_purseBy 45 = .ok (.invokevirtual 120, 3) := by decide +kernel
theorem dX4_purseBy_48 : decode cX4_purseBy 48 = .ok (.istore 4, 2) := by decide +kernel
theorem dX4_purseBy_50 : decode cX4_purseBy 50 = .ok (.aload_n 0, 1) := by decide +kernel
theorem dX4_purseBy_51 : decode cX4_purseBy 51 = .ok (.invokevirtual 163, 3) := by decide +kernel
theorem dX4_purseBy_54 : decode cX4_purseBy 54 = .ok (.iload 4, 2) := by decide +kernel
theorem dX4_purseBy_56 : decode cX4_purseBy 56 = .ok (.ireturn, 1) := by decide +kernel
theorem dX4_field_0 : decode cX4_field 0 = .ok (.iload_n 1, 1) := by decide +kernel
theorem dX4_field_1 : decode cX4_field 1 = .ok (.invokestatic 43, 3) := by decide +kernel
theorem dX4_field_4 : decode cX4_field 4 = .ok (.ifCond .eq 15, 3) := by decide +kernel
theorem dX4_field_7 : decode cX4_field 7 = .ok (.iload_n 2, 1) := by decide +kernel
theorem dX4_field_8 : decode cX4_field 8 = .ok (.i2l, 1) := by decide +kernel
theorem dX4_field_9 : decode cX4_field 9 = .ok (.lconst 1, 1) := by decide +kernel
theorem dX4_field_10 : decode cX4_field 10 = .ok (.ldc2_w 167, 3) := by decide +kernel
theorem dX4_field_13 : decode cX4_field 13 = .ok (.invokestatic 49, 3) := by decide +kernel
theorem dX4_field_16 : decode cX4_field 16 = .ok (.ifCond .ne 10, 3) := by decide +kernel
theorem dX4_field_19 : decode cX4_field 19 = .ok (.aload_n 0, 1) := by decide +kernel
theorem dX4_field_20 : decode cX4_field 20 = .ok (.ldc 42, 2) := by decide +kernel
theorem dX4_field_22 : decode cX4_field 22 = .ok (.invokevirtual 57, 3) := by decide +kernel
theorem dX4_field_25 : decode cX4_field 25 = .ok (.ireturn, 1) := by decide +kernel
theorem dX4_field_26 : decode cX4_field 26 = .ok (.aload_n 0, 1) := by decide +kernel
theorem dX4_field_27 : decode cX4_field 27 = .ok (.invokevirtual 115, 3) := by decide +kernel
theorem dX4_field_30 : decode cX4_field 30 = .ok (.ifCond .eq 11, 3) := by decide +kernel
theorem dX4_field_33 : decode cX4_field 33 = .ok (.aload_n 0, 1) := by decide +kernel
theorem dX4_field_34 : decode cX4_field 34 = .ok (.iload_n 2, 1) := by decide +kernel
theorem dX4_field_35 : decode cX4_field 35 = .ok (.invokevirtual 139, 3) := by decide +kernel
theorem dX4_field_38 : decode cX4_field 38 = .ok (.ifCond .eq 10, 3) := by decide +kernel
theorem dX4_field_41 : decode cX4_field 41 = .ok (.aload_n 0, 1) := by decide +kernel
theorem dX4_field_42 : decode cX4_field 42 = .ok (.ldc 119, 2) := by decide +kernel
theorem dX4_field_44 : decode cX4_field 44 = .ok (.invokevirtual 57, 3) := by decide +kernel
theorem dX4_field_47 : decode cX4_field 47 = .ok (.ireturn, 1) := by decide +kernel
theorem dX4_field_48 : decode cX4_field 48 = .ok (.aload_n 0, 1) := by decide +kernel
theorem dX4_field_49 : decode cX4_field 49 = .ok (.iload_n 1, 1) := by decide +kernel
theorem dX4_field_50 : decode cX4_field 50 = .ok (.invokevirtual 128, 3) := by decide +kernel
theorem dX4_field_53 : decode cX4_field 53 = .ok (.istore_n 3, 1) := by decide +kernel
theorem dX4_field_54 : decode cX4_field 54 = .ok (.iload_n 3, 1) := by decide +kernel
theorem dX4_field_55 : decode cX4_field 55 = .ok (.invokestatic 177, 3) := by decide +kernel
theorem dX4_field_58 : decode cX4_field 58 = .ok (.bipush 6, 2) := by decide +kernel
theorem dX4_field_60 : decode cX4_field 60 = .ok (.if_icmp .le 10, 3) := by decide +kernel
theorem dX4_field_63 : decode cX4_field 63 = .ok (.aload_n 0, 1) := by decide +kernel
theorem dX4_field_64 : decode cX4_field 64 = .ok (.ldc 180, 2) := by decide +kernel
theorem dX4_field_66 : decode cX4_field 66 = .ok (.invokevirtual 57, 3) := by decide +kernel
theorem dX4_field_69 : decode cX4_field 69 = .ok (.ireturn, 1) := by decide +kernel
theorem dX4_field_70 : decode cX4_field 70 = .ok (.aload_n 0, 1) := by decide +kernel
theorem dX4_field_71 : decode cX4_field 71 = .ok (.invokevirtual 160, 3) := by decide +kernel
theorem dX4_field_74 : decode cX4_field 74 = .ok (.iconst 0, 1) := by decide +kernel
theorem dX4_field_75 : decode cX4_field 75 = .ok (.istore 4, 2) := by decide +kernel
theorem dX4_field_77 : decode cX4_field 77 = .ok (.iconst (-1), 1) := by decide +kernel
theorem dX4_field_78 : decode cX4_field 78 = .ok (.istore 5, 2) := by decide +kernel
theorem dX4_field_80 : decode cX4_field 80 = .ok (.iconst 0, 1) := by decide +kernel
theorem dX4_field_81 : decode cX4_field 81 = .ok (.istore 6, 2) := by decide +kernel
theorem dX4_field_83 : decode cX4_field 83 = .ok (.iload 6, 2) := by decide +kernel
theorem dX4_field_85 : decode cX4_field 85 = .ok (.iload_n 3, 1) := by decide +kernel
theorem dX4_field_86 : decode cX4_field 86 = .ok (.if_icmp .gt 64, 3) := by decide +kernel
theorem dX4_field_89 : decode cX4_field 89 = .ok (.iload 6, 2) := by decide +kernel
theorem dX4_field_91 : decode cX4_field 91 = .ok (.iload_n 3, 1) := by decide +kernel
theorem dX4_field_92 : decode cX4_field 92 = .ok (.iconst (-1), 1) := by decide +kernel
theorem dX4_field_93 : decode cX4_field 93 = .ok (.ixor, 1) := by decide +kernel
theorem dX4_field_94 : decode cX4_field 94 = .ok (.iand, 1) := by decide +kernel
theorem dX4_field_95 : decode cX4_field 95 = .ok (.ifCond .ne 14, 3) := by decide +kernel
theorem dX4_field_98 : decode cX4_field 98 = .ok (.aload_n 0, 1) := by decide +kernel
theorem dX4_field_99 : decode cX4_field 99 = .ok (.iload_n 1, 1) := by decide +kernel
theorem dX4_field_100 : decode cX4_field 100 = .ok (.iload 6, 2) := by decide +kernel
theorem dX4_field_102 : decode cX4_field 102 = .ok (.iload_n 2, 1) := by decide +kernel
theorem dX4_field_103 : decode cX4_field 103 = .ok (.invokevirtual 181, 3) := by decide +kernel
theorem dX4_field_106 : decode cX4_field 106 = .ok (.goto 4, 3) := by decide +kernel
theorem dX4_field_109 : decode cX4_field 109 = .ok (.iconst (-1), 1) := by decide +kernel
theorem dX4_field_110 : decode cX4_field 110 = .ok (.istore 7, 2) := by decide +kernel
theorem dX4_field_112 : decode cX4_field 112 = .ok (.iload 7, 2) := by decide +kernel
theorem dX4_field_114 : decode cX4_field 114 = .ok (.iload 5, 2) := by decide +kernel
theorem dX4_field_116 : decode cX4_field 116 = .ok (.if_icmp .le 8, 3) := by decide +kernel
theorem dX4_field_119 : decode cX4_field 119 = .ok (.iload 6, 2) := by decide +kernel
theorem dX4_field_121 : decode cX4_field 121 = .ok (.goto 5, 3) := by decide +kernel
theorem dX4_field_124 : decode cX4_field 124 = .ok (.iload 4, 2) := by decide +kernel
theorem dX4_field_126 : decode cX4_field 126 = .ok (.istore 4, 2) := by decide +kernel
theorem dX4_field_128 : decode cX4_field 128 = .ok (.iload 7, 2) := by decide +kernel
theorem dX4_field_130 : decode cX4_field 130 = .ok (.iload 5, 2) := by decide +kernel
theorem dX4_field_132 : decode cX4_field 132 = .ok (.if_icmp .le 8, 3) := by decide +kernel
theorem dX4_field_135 : decode cX4_field 135 = .ok (.iload 7, 2) := by decide +kernel
theorem dX4_field_137 : decode cX4_field 137 = .ok (.goto 5, 3) := by decide +kernel
theorem dX4_field_140 : decode cX4_field 140 = .ok (.iload 5, 2) := by decide +kernel
theorem dX4_field_142 : decode cX4_field 142 = .ok (.istore 5, 2) := by decide +kernel
theorem dX4_field_144 : decode cX4_field 144 = .ok (.iinc 6 1, 3) := by decide +kernel
theorem dX4_field_147 : decode cX4_field 147 = .ok (.goto (-64), 3) := by decide +kernel
theorem dX4_field_150 : decode cX4_field 150 = .ok (.iload 4, 2) := by decide +kernel
theorem dX4_field_152 : decode cX4_field 152 = .ok (.ireturn, 1) := by decide +kernel
theorem dX4_priceFor_0 : decode cX4_priceFor 0 = .ok (.iload_n 1, 1) := by decide +kernel
theorem dX4_priceFor_1 : decode cX4_priceFor 1 = .ok (.invokestatic 43, 3) := by decide +kernel
theorem dX4_priceFor_4 : decode cX4_priceFor 4 = .ok (.ifCond .eq 15, 3) := by decide +kernel
theorem dX4_priceFor_7 : decode cX4_priceFor 7 = .ok (.iload_n 2, 1) := by decide +kernel
theorem dX4_priceFor_8 : decode cX4_priceFor 8 = .ok (.i2l, 1) := by decide +kernel
theorem dX4_priceFor_9 : decode cX4_priceFor 9 = .ok (.lconst 0, 1) := by decide +kernel
theorem dX4_priceFor_10 : decode cX4_priceFor 10 = .ok (.ldc2_w 123, 3) := by decide +kernel
theorem dX4_priceFor_13 : decode cX4_priceFor 13 = .ok (.invokestatic 49, 3) := by decide +kernel
theorem dX4_priceFor_16 : decode cX4_priceFor 16 = .ok (.ifCond .ne 10, 3) := by decide +kernel
theorem dX4_priceFor_19 : decode cX4_priceFor 19 = .ok (.aload_n 0, 1) := by decide +kernel
theorem dX4_priceFor_20 : decode cX4_priceFor 20 = .ok (.ldc 42, 2) := by decide +kernel
theorem dX4_priceFor_22 : decode cX4_priceFor 22 = .ok (.invokevirtual 57, 3) := by decide +kernel
theorem dX4_priceFor_25 : decode cX4_priceFor 25 = .ok (.ireturn, 1) := by decide +kernel
theorem dX4_priceFor_26 : decode cX4_priceFor 26 = .ok (.bipush 8, 2) := by decide +kernel
theorem dX4_priceFor_28 : decode cX4_priceFor 28 = .ok (.aload_n 0, 1) := by decide +kernel
theorem dX4_priceFor_29 : decode cX4_priceFor 29 = .ok (.invokevirtual 76, 3) := by decide +kernel
theorem dX4_priceFor_32 : decode cX4_priceFor 32 = .ok (.iadd, 1) := by decide +kernel
theorem dX4_priceFor_33 : decode cX4_priceFor 33 = .ok (.istore_n 3, 1) := by decide +kernel
theorem dX4_priceFor_34 : decode cX4_priceFor 34 = .ok (.aload_n 0, 1) := by decide +kernel
theorem dX4_priceFor_35 : decode cX4_priceFor 35 = .ok (.getfield 7, 3) := by decide +kernel
theorem dX4_priceFor_38 : decode cX4_priceFor 38 = .ok (.iload_n 3, 1) := by decide +kernel
theorem dX4_priceFor_39 : decode cX4_priceFor 39 = .ok (.iaload, 1) := by decide +kernel
theorem dX4_priceFor_40 : decode cX4_priceFor 40 = .ok (.istore 4, 2) := by decide +kernel
theorem dX4_priceFor_42 : decode cX4_priceFor 42 = .ok (.iconst (-1), 1) := by decide +kernel
theorem dX4_priceFor_43 : decode cX4_priceFor 43 = .ok (.istore 5, 2) := by decide +kernel
theorem dX4_priceFor_45 : decode cX4_priceFor 45 = .ok (.bipush 99, 2) := by decide +kernel
theorem dX4_priceFor_47 : decode cX4_priceFor 47 = .ok (.istore 6, 2) := by decide +kernel
theorem dX4_priceFor_49 : decode cX4_priceFor 49 = .ok (.iload 6, 2) := by decide +kernel
theorem dX4_priceFor_51 : decode cX4_priceFor 51 = .ok (.ifCond .lt 35, 3) := by decide +kernel
theorem dX4_priceFor_54 : decode cX4_priceFor 54 = .ok (.aload_n 0, 1) := by decide +kernel
theorem dX4_priceFor_55 : decode cX4_priceFor 55 = .ok (.getfield 7, 3) := by decide +kernel
theorem dX4_priceFor_58 : decode cX4_priceFor 58 = .ok (.iload_n 3, 1) := by decide +kernel
theorem dX4_priceFor_59 : decode cX4_priceFor 59 = .ok (.iload 6, 2) := by decide +kernel
theorem dX4_priceFor_61 : decode cX4_priceFor 61 = .ok (.iastore, 1) := by decide +kernel
theorem dX4_priceFor_62 : decode cX4_priceFor 62 = .ok (.aload_n 0, 1) := by decide +kernel
theorem dX4_priceFor_63 : decode cX4_priceFor 63 = .ok (.iload_n 1, 1) := by decide +kernel
theorem dX4_priceFor_64 : decode cX4_priceFor 64 = .ok (.invokevirtual 120, 3) := by decide +kernel
theorem dX4_priceFor_67 : decode cX4_priceFor 67 = .ok (.iload_n 2, 1) := by decide +kernel
theorem dX4_priceFor_68 : decode cX4_priceFor 68 = .ok (.if_icmp .lt 8, 3) := by decide +kernel
theorem dX4_priceFor_71 : decode cX4_priceFor 71 = .ok (.iload 6, 2) := by decide +kernel
theorem dX4_priceFor_73 : decode cX4_priceFor 73 = .ok (.goto 5, 3) := by decide +kernel
theorem dX4_priceFor_76 : decode cX4_priceFor 76 = .ok (.iload 5, 2) := by decide +kernel
theorem dX4_priceFor_78 : decode cX4_priceFor 78 = .ok (.istore 5, 2) := by decide +kernel
theorem dX4_priceFor_80 : decode cX4_priceFor 80 = .ok (.iinc 6 (-1), 3) := by decide +kernel
theorem dX4_priceFor_83 : decode cX4_priceFor 83 = .ok (.goto (-34), 3) := by decide +kernel
theorem dX4_priceFor_86 : decode cX4_priceFor 86 = .ok (.aload_n 0, 1) := by decide +kernel
theorem dX4_priceFor_87 : decode cX4_priceFor 87 = .ok (.getfield 7, 3) := by decide +kernel
theorem dX4_priceFor_90 : decode cX4_priceFor 90 = .ok (.iload_n 3, 1) := by decide +kernel
theorem dX4_priceFor_91 : decode cX4_priceFor 91 = .ok (.iload 4, 2) := by decide +kernel
theorem dX4_priceFor_93 : decode cX4_priceFor 93 = .ok (.iastore, 1) := by decide +kernel
theorem dX4_priceFor_94 : decode cX4_priceFor 94 = .ok (.iload 5, 2) := by decide +kernel
theorem dX4_priceFor_96 : decode cX4_priceFor 96 = .ok (.ifCond .ge 12, 3) := by decide +kernel
theorem dX4_priceFor_99 : decode cX4_priceFor 99 = .ok (.aload_n 0, 1) := by decide +kernel
theorem dX4_priceFor_100 : decode cX4_priceFor 100 = .ok (.ldc 166, 2) := by decide +kernel
theorem dX4_priceFor_102 : decode cX4_priceFor 102 = .ok (.invokevirtual 57, 3) := by decide +kernel
theorem dX4_priceFor_105 : decode cX4_priceFor 105 = .ok (.goto 5, 3) := by decide +kernel
theorem dX4_priceFor_108 : decode cX4_priceFor 108 = .ok (.iload 5, 2) := by decide +kernel
theorem dX4_priceFor_110 : decode cX4_priceFor 110 = .ok (.ireturn, 1) := by decide +kernel
theorem dX4_taxMonth_0 : decode cX4_taxMonth 0 = .ok (.aload_n 0, 1) := by decide +kernel
theorem dX4_taxMonth_1 : decode cX4_taxMonth 1 = .ok (.bipush 12, 2) := by decide +kernel
theorem dX4_taxMonth_3 : decode cX4_taxMonth 3 = .ok (.invokevirtual 139, 3) := by decide +kernel
theorem dX4_taxMonth_6 : decode cX4_taxMonth 6 = .ok (.ifCond .eq 10, 3) := by decide +kernel
theorem dX4_taxMonth_9 : decode cX4_taxMonth 9 = .ok (.aload_n 0, 1) := by decide +kernel
theorem dX4_taxMonth_10 : decode cX4_taxMonth 10 = .ok (.ldc 119, 2) := by decide +kernel
theorem dX4_taxMonth_12 : decode cX4_taxMonth 12 = .ok (.invokevirtual 57, 3) := by decide +kernel
theorem dX4_taxMonth_15 : decode cX4_taxMonth 15 = .ok (.ireturn, 1) := by decide +kernel
theorem dX4_taxMonth_16 : decode cX4_taxMonth 16 = .ok (.aload_n 0, 1) := by decide +kernel
theorem dX4_taxMonth_17 : decode cX4_taxMonth 17 = .ok (.invokevirtual 160, 3) := by decide +kernel
theorem dX4_taxMonth_20 : decode cX4_taxMonth 20 = .ok (.iconst 0, 1) := by decide +kernel
theorem dX4_taxMonth_21 : decode cX4_taxMonth 21 = .ok (.istore_n 1, 1) := by decide +kernel
theorem dX4_taxMonth_22 : decode cX4_taxMonth 22 = .ok (.iconst (-1), 1) := by decide +kernel
theorem dX4_taxMonth_23 : decode cX4_taxMonth 23 = .ok (.istore_n 2, 1) := by decide +kernel
theorem dX4_taxMonth_24 : decode cX4_taxMonth 24 = .ok (.iconst 0, 1) := by decide +kernel
theorem dX4_taxMonth_25 : decode cX4_taxMonth 25 = .ok (.istore_n 3, 1) := by decide +kernel
theorem dX4_taxMonth_26 : decode cX4_taxMonth 26 = .ok (.iload_n 3, 1) := by decide +kernel
theorem dX4_taxMonth_27 : decode cX4_taxMonth 27 = .ok (.bipush 12, 2) := by decide +kernel
theorem dX4_taxMonth_29 : decode cX4_taxMonth 29 = .ok (.if_icmp .ge 82, 3) := by decide +kernel
theorem dX4_taxMonth_32 : decode cX4_taxMonth 32 = .ok (.aload_n 0, 1) := by decide +kernel
theorem dX4_taxMonth_33 : decode cX4_taxMonth 33 = .ok (.iload_n 3, 1) := by decide +kernel
theorem dX4_taxMonth_34 : decode cX4_taxMonth 34 = .ok (.invokevirtual 152, 3) := by decide +kernel
theorem dX4_taxMonth_37 : decode cX4_taxMonth 37 = .ok (.aload_n 0, 1) := by decide +kernel
theorem dX4_taxMonth_38 : decode cX4_taxMonth 38 = .ok (.invokevirtual 184, 3) := by decide +kernel
theorem dX4_taxMonth_41 : decode cX4_taxMonth 41 = .ok (.istore 4, 2) := by decide +kernel
theorem dX4_taxMonth_43 : decode cX4_taxMonth 43 = .ok (.aload_n 0, 1) := by decide +kernel
theorem dX4_taxMonth_44 : decode cX4_taxMonth 44 = .ok (.bipush 12, 2) := by decide +kernel
theorem dX4_taxMonth_46 : decode cX4_taxMonth 46 = .ok (.iload_n 3, 1) := by decide +kernel
theorem dX4_taxMonth_47 : decode cX4_taxMonth 47 = .ok (.isub, 1) := by decide +kernel
theorem dX4_taxMonth_48 : decode cX4_taxMonth 48 = .ok (.invokevirtual 152, 3) := by decide +kernel
theorem dX4_taxMonth_51 : decode cX4_taxMonth 51 = .ok (.aload_n 0, 1) := by decide +kernel
theorem dX4_taxMonth_52 : decode cX4_taxMonth 52 = .ok (.iconst 0, 1) := by decide +kernel
theorem dX4_taxMonth_53 : decode cX4_taxMonth 53 = .ok (.invokevirtual 120, 3) := by decide +kernel
theorem dX4_taxMonth_56 : decode cX4_taxMonth 56 = .ok (.aload_n 0, 1) := by decide +kernel
theorem dX4_taxMonth_57 : decode cX4_taxMonth 57 = .ok (.iconst 1, 1) := by decide +kernel
theorem dX4_taxMonth_58 : decode cX4_taxMonth 58 = .ok (.invokevirtual 120, 3) := by decide +kernel
theorem dX4_taxMonth_61 : decode cX4_taxMonth 61 = .ok (.iadd, 1) := by decide +kernel
theorem dX4_taxMonth_62 : decode cX4_taxMonth 62 = .ok (.aload_n 0, 1) := by decide +kernel
theorem dX4_taxMonth_63 : decode cX4_taxMonth 63 = .ok (.iconst 2, 1) := by decide +kernel
theorem dX4_taxMonth_64 : decode cX4_taxMonth 64 = .ok (.invokevirtual 120, 3) := by decide +kernel
theorem dX4_taxMonth_67 : decode cX4_taxMonth 67 = .ok (.iadd, 1) := by decide +kernel
theorem dX4_taxMonth_68 : decode cX4_taxMonth 68 = .ok (.aload_n 0, 1) := by decide +kernel
theorem dX4_taxMonth_69 : decode cX4_taxMonth 69 = .ok (.iconst 3, 1) := by decide +kernel
theorem dX4_taxMonth_70 : decode cX4_taxMonth 70 = .ok (.invokevirtual 120, 3) := by decide +kernel
theorem dX4_taxMonth_73 : decode cX4_taxMonth 73 = .ok (.iadd, 1) := by decide +kernel
theorem dX4_taxMonth_74 : decode cX4_taxMonth 74 = .ok (.istore 5, 2) := by decide +kernel
theorem dX4_taxMonth_76 : decode cX4_taxMonth 76 = .ok (.aload_n 0, 1) := by decide +kernel
theorem dX4_taxMonth_77 : decode cX4_taxMonth 77 = .ok (.invokevirtual 163, 3) := by decide +kernel
theorem dX4_taxMonth_80 : decode cX4_taxMonth 80 = .ok (.iload 5, 2) := by decide +kernel
theorem dX4_taxMonth_82 : decode cX4_taxMonth 82 = .ok (.iload_n 2, 1) := by decide +kernel
theorem dX4_taxMonth_83 : decode cX4_taxMonth 83 = .ok (.if_icmp .le 7, 3) := by decide +kernel
theorem dX4_taxMonth_86 : decode cX4_taxMonth 86 = .ok (.iload_n 3, 1) := by decide +kernel
theorem dX4_taxMonth_87 : decode cX4_taxMonth 87 = .ok (.goto 4, 3) := by decide +kernel
theorem dX4_taxMonth_90 : decode cX4_taxMonth 90 = .ok (.iload_n 1, 1) := by decide +kernel
theorem dX4_taxMonth_91 : decode cX4_taxMonth 91 = .ok (.istore_n 1, 1) := by decide +kernel
theorem dX4_taxMonth_92 : decode cX4_taxMonth 92 = .ok (.iload 5, 2) := by decide +kernel
theorem dX4_taxMonth_94 : decode cX4_taxMonth 94 = .ok (.iload_n 2, 1) := by decide +kernel
theorem dX4_taxMonth_95 : decode cX4_taxMonth 95 = .ok (.if_icmp .le 8, 3) := by decide +kernel
theorem dX4_taxMonth_98 : decode cX4_taxMonth 98 = .ok (.iload 5, 2) := by decide +kernel
theorem dX4_taxMonth_100 : decode cX4_taxMonth 100 = .ok (.goto 4, 3) := by decide +kernel
theorem dX4_taxMonth_103 : decode cX4_taxMonth 103 = .ok (.iload_n 2, 1) := by decide +kernel
theorem dX4_taxMonth_104 : decode cX4_taxMonth 104 = .ok (.istore_n 2, 1) := by decide +kernel
theorem dX4_taxMonth_105 : decode cX4_taxMonth 105 = .ok (.iinc 3 1, 3) := by decide +kernel
theorem dX4_taxMonth_108 : decode cX4_taxMonth 108 = .ok (.goto (-82), 3) := by decide +kernel
theorem dX4_taxMonth_111 : decode cX4_taxMonth 111 = .ok (.iload_n 1, 1) := by decide +kernel
theorem dX4_taxMonth_112 : decode cX4_taxMonth 112 = .ok (.ireturn, 1) := by decide +kernel
theorem dX4_bluesOf_0 : decode cX4_bluesOf 0 = .ok (.iconst 0, 1) := by decide +kernel
theorem dX4_bluesOf_1 : decode cX4_bluesOf 1 = .ok (.istore_n 2, 1) := by decide +kernel
theorem dX4_bluesOf_2 : decode cX4_bluesOf 2 = .ok (.iconst 0, 1) := by decide +kernel
theorem dX4_bluesOf_3 : decode cX4_bluesOf 3 = .ok (.istore_n 3, 1) := by decide +kernel
theorem dX4_bluesOf_4 : decode cX4_bluesOf 4 = .ok (.iload_n 3, 1) := by decide +kernel
theorem dX4_bluesOf_5 : decode cX4_bluesOf 5 = .ok (.aload_n 0, 1) := by decide +kernel
theorem dX4_bluesOf_6 : decode cX4_bluesOf 6 = .ok (.getfield 7, 3) := by decide +kernel
theorem dX4_bluesOf_9 : decode cX4_bluesOf 9 = .ok (.iconst 0, 1) := by decide +kernel
theorem dX4_bluesOf_10 : decode cX4_bluesOf 10 = .ok (.iaload, 1) := by decide +kernel
theorem dX4_bluesOf_11 : decode cX4_bluesOf 11 = .ok (.if_icmp .ge 48, 3) := by decide +kernel
theorem dX4_bluesOf_14 : decode cX4_bluesOf 14 = .ok (.iload_n 2, 1) := by decide +kernel
theorem dX4_bluesOf_15 : decode cX4_bluesOf 15 = .ok (.aload_n 0, 1) := by decide +kernel
theorem dX4_bluesOf_16 : decode cX4_bluesOf 16 = .ok (.iload_n 3, 1) := by decide +kernel
theorem dX4_bluesOf_17 : decode cX4_bluesOf 17 = .ok (.iconst 1, 1) := by decide +kernel
theorem dX4_bluesOf_18 : decode cX4_bluesOf 18 = .ok (.invokevirtual 84, 3) := by decide +kernel
theorem dX4_bluesOf_21 : decode cX4_bluesOf 21 = .ok (.iload_n 1, 1) := by decide +kernel
theorem dX4_bluesOf_22 : decode cX4_bluesOf 22 = .ok (.if_icmp .ne 28, 3) := by decide +kernel
theorem dX4_bluesOf_25 : decode cX4_bluesOf 25 = .ok (.aload_n 0, 1) := by decide +kernel
theorem dX4_bluesOf_26 : decode cX4_bluesOf 26 = .ok (.iload_n 3, 1) := by decide +kernel
theorem dX4_bluesOf_27 : decode cX4_bluesOf 27 = .ok (.iconst 3, 1) := by decide +kernel
theorem dX4_bluesOf_28 : decode cX4_bluesOf 28 = .ok (.invokevirtual 84, 3) := by decide +kernel
theorem dX4_bluesOf_31 : decode cX4_bluesOf 31 = .ok (.ifCond .ne 19, 3) := by decide +kernel
theorem dX4_bluesOf_34 : decode cX4_bluesOf 34 = .ok (.aload_n 0, 1) := by decide +kernel
theorem dX4_bluesOf_35 : decode cX4_bluesOf 35 = .ok (.iload_n 3, 1) := by decide +kernel
theorem dX4_bluesOf_36 : decode cX4_bluesOf 36 = .ok (.iconst 0, 1) := by decide +kernel
theorem dX4_bluesOf_37 : decode cX4_bluesOf 37 = .ok (.invokevirtual 84, 3) := by decide +kernel
theorem dX4_bluesOf_40 : decode cX4_bluesOf 40 = .ok (.invokestatic 101, 3) := by decide +kernel
theorem dX4_bluesOf_43 : decode cX4_bluesOf 43 = .ok (.ifCond .eq 7, 3) := by decide +kernel
theorem dX4_bluesOf_46 : decode cX4_bluesOf 46 = .ok (.iconst 1, 1) := by decide +kernel
theorem dX4_bluesOf_47 : decode cX4_bluesOf 47 = .ok (.goto 4, 3) := by decide +kernel
theorem dX4_bluesOf_50 : decode cX4_bluesOf 50 = .ok (.iconst 0, 1) := by decide +kernel
theorem dX4_bluesOf_51 : decode cX4_bluesOf 51 = .ok (.iadd, 1) := by decide +kernel
theorem dX4_bluesOf_52 : decode cX4_bluesOf 52 = .ok (.istore_n 2, 1) := by decide +kernel
theorem dX4_bluesOf_53 : decode cX4_bluesOf 53 = .ok (.iinc 3 1, 3) := by decide +kernel
theorem dX4_bluesOf_56 : decode cX4_bluesOf 56 = .ok (.goto (-52), 3) := by decide +kernel
theorem dX4_bluesOf_59 : decode cX4_bluesOf 59 = .ok (.iload_n 2, 1) := by decide +kernel
theorem dX4_bluesOf_60 : decode cX4_bluesOf 60 = .ok (.ireturn, 1) := by decide +kernel
theorem dX4_bank_0 : decode cX4_bank 0 = .ok (.iconst 0, 1) := by decide +kernel
theorem dX4_bank_1 : decode cX4_bank 1 = .ok (.istore_n 1, 1) := by decide +kernel
theorem dX4_bank_2 : decode cX4_bank 2 = .ok (.iconst 1, 1) := by decide +kernel
theorem dX4_bank_3 : decode cX4_bank 3 = .ok (.istore_n 2, 1) := by decide +kernel
theorem dX4_bank_4 : decode cX4_bank 4 = .ok (.iload_n 2, 1) := by decide +kernel
theorem dX4_bank_5 : decode cX4_bank 5 = .ok (.iconst 4, 1) := by decide +kernel
theorem dX4_bank_6 : decode cX4_bank 6 = .ok (.if_icmp .ge 28, 3) := by decide +kernel
theorem dX4_bank_9 : decode cX4_bank 9 = .ok (.aload_n 0, 1) := by decide +kernel
theorem dX4_bank_10 : decode cX4_bank 10 = .ok (.iload_n 2, 1) := by decide +kernel
theorem dX4_bank_11 : decode cX4_bank 11 = .ok (.invokevirtual 187, 3) := by decide +kernel
theorem dX4_bank_14 : decode cX4_bank 14 = .ok (.aload_n 0, 1) := by decide +kernel
theorem dX4_bank_15 : decode cX4_bank 15 = .ok (.iload_n 1, 1) := by decide +kernel
theorem dX4_bank_16 : decode cX4_bank 16 = .ok (.invokevirtual 187, 3) := by decide +kernel
theorem dX4_bank_19 : decode cX4_bank 19 = .ok (.if_icmp .le 7, 3) := by decide +kernel
theorem dX4_bank_22 : decode cX4_bank 22 = .ok (.iload_n 2, 1) := by decide +kernel
theorem dX4_bank_23 : decode cX4_bank 23 = .ok (.goto 4, 3) := by decide +kernel
theorem dX4_bank_26 : decode cX4_bank 26 = .ok (.iload_n 1, 1) := by decide +kernel
theorem dX4_bank_27 : decode cX4_bank 27 = .ok (.istore_n 1, 1) := by decide +kernel
theorem dX4_bank_28 : decode cX4_bank 28 = .ok (.iinc 2 1, 3) := by decide +kernel
theorem dX4_bank_31 : decode cX4_bank 31 = .ok (.goto (-27), 3) := by decide +kernel
theorem dX4_bank_34 : decode cX4_bank 34 = .ok (.aload_n 0, 1) := by decide +kernel
theorem dX4_bank_35 : decode cX4_bank 35 = .ok (.iload_n 1, 1) := by decide +kernel
theorem dX4_bank_36 : decode cX4_bank 36 = .ok (.invokevirtual 187, 3) := by decide +kernel
theorem dX4_bank_39 : decode cX4_bank 39 = .ok (.ifCond .ne 12, 3) := by decide +kernel
theorem dX4_bank_42 : decode cX4_bank 42 = .ok (.aload_n 0, 1) := by decide +kernel
theorem dX4_bank_43 : decode cX4_bank 43 = .ok (.ldc 166, 2) := by decide +kernel
theorem dX4_bank_45 : decode cX4_bank 45 = .ok (.invokevirtual 57, 3) := by decide +kernel
theorem dX4_bank_48 : decode cX4_bank 48 = .ok (.goto 4, 3) := by decide +kernel
theorem dX4_bank_51 : decode cX4_bank 51 = .ok (.iload_n 1, 1) := by decide +kernel
theorem dX4_bank_52 : decode cX4_bank 52 = .ok (.ireturn, 1) := by decide +kernel
theorem dX4_feed_0 : decode cX4_feed 0 = .ok (.iload_n 2, 1) := by decide +kernel
theorem dX4_feed_1 : decode cX4_feed 1 = .ok (.i2l, 1) := by decide +kernel
theorem dX4_feed_2 : decode cX4_feed 2 = .ok (.lconst 1, 1) := by decide +kernel
theorem dX4_feed_3 : decode cX4_feed 3 = .ok (.ldc2_w 82, 3) := by decide +kernel
theorem dX4_feed_6 : decode cX4_feed 6 = .ok (.invokestatic 49, 3) := by decide +kernel
theorem dX4_feed_9 : decode cX4_feed 9 = .ok (.ifCond .ne 10, 3) := by decide +kernel
theorem dX4_feed_12 : decode cX4_feed 12 = .ok (.aload_n 0, 1) := by decide +kernel
theorem dX4_feed_13 : decode cX4_feed 13 = .ok (.ldc 42, 2) := by decide +kernel
theorem dX4_feed_15 : decode cX4_feed 15 = .ok (.invokevirtual 57, 3) := by decide +kernel
theorem dX4_feed_18 : decode cX4_feed 18 = .ok (.ireturn, 1) := by decide +kernel
theorem dX4_feed_19 : decode cX4_feed 19 = .ok (.aload_n 0, 1) := by decide +kernel
theorem dX4_feed_20 : decode cX4_feed 20 = .ok (.getfield 190, 3) := by decide +kernel
theorem dX4_feed_23 : decode cX4_feed 23 = .ok (.iload_n 2, 1) := by decide +kernel
theorem dX4_feed_24 : decode cX4_feed 24 = .ok (.iadd, 1) := by decide +kernel
theorem dX4_feed_25 : decode cX4_feed 25 = .ok (.bipush 120, 2) := by decide +kernel
theorem dX4_feed_27 : decode cX4_feed 27 = .ok (.if_icmp .le 10, 3) := by decide +kernel
theorem dX4_feed_30 : decode cX4_feed 30 = .ok (.aload_n 0, 1) := by decide +kernel
theorem dX4_feed_31 : decode cX4_feed 31 = .ok (.ldc 71, 2) := by decide +kernel
theorem dX4_feed_33 : decode cX4_feed 33 = .ok (.invokevirtual 57, 3) := by decide +kernel
theorem dX4_feed_36 : decode cX4_feed 36 = .ok (.ireturn, 1) := by decide +kernel
theorem dX4_feed_37 : decode cX4_feed 37 = .ok (.iload_n 2, 1) := by decide +kernel
theorem dX4_feed_38 : decode cX4_feed 38 = .ok (.iconst 1, 1) := by decide +kernel
theorem dX4_feed_39 : decode cX4_feed 39 = .ok (.isub, 1) := by decide +kernel
theorem dX4_feed_40 : decode cX4_feed 40 = .ok (.istore_n 3, 1) := by decide +kernel
theorem dX4_feed_41 : decode cX4_feed 41 = .ok (.iload_n 3, 1) := by decide +kernel
theorem dX4_feed_42 : decode cX4_feed 42 = .ok (.ifCond .lt 38, 3) := by decide +kernel
theorem dX4_feed_45 : decode cX4_feed 45 = .ok (.aload_n 0, 1) := by decide +kernel
theorem dX4_feed_46 : decode cX4_feed 46 = .ok (.getfield 22, 3) := by decide +kernel
theorem dX4_feed_49 : decode cX4_feed 49 = .ok (.aload_n 0, 1) := by decide +kernel
theorem dX4_feed_50 : decode cX4_feed 50 = .ok (.getfield 190, 3) := by decide +kernel
theorem dX4_feed_53 : decode cX4_feed 53 = .ok (.iload_n 1, 1) := by decide +kernel
theorem dX4_feed_54 : decode cX4_feed 54 = .ok (.bipush 8, 2) := by decide +kernel
theorem dX4_feed_56 : decode cX4_feed 56 = .ok (.iload_n 3, 1) := by decide +kernel
theorem dX4_feed_57 : decode cX4_feed 57 = .ok (.imul, 1) := by decide +kernel
theorem dX4_feed_58 : decode cX4_feed 58 = .ok (.ishr, 1) := by decide +kernel
theorem dX4_feed_59 : decode cX4_feed 59 = .ok (.sipush 255, 3) := by decide +kernel
theorem dX4_feed_62 : decode cX4_feed 62 = .ok (.iand, 1) := by decide +kernel
theorem dX4_feed_63 : decode cX4_feed 63 = .ok (.iastore, 1) := by decide +kernel
theorem dX4_feed_64 : decode cX4_feed 64 = .ok (.aload_n 0, 1) := by decide +kernel
theorem dX4_feed_65 : decode cX4_feed 65 = .ok (.dup, 1) := by decide +kernel
theorem dX4_feed_66 : decode cX4_feed 66 = .ok (.getfield 190, 3) := by decide +kernel
theorem dX4_feed_69 : decode cX4_feed 69 = .ok (.iconst 1, 1) := by decide +kernel
theorem dX4_feed_70 : decode cX4_feed 70 = .ok (.iadd, 1) := by decide +kernel
theorem dX4_feed_71 : decode cX4_feed 71 = .ok (.putfield 190, 3) := by decide +kernel
theorem dX4_feed_74 : decode cX4_feed 74 = .ok (.iinc 3 (-1), 3) := by decide +kernel
theorem dX4_feed_77 : decode cX4_feed 77 = .ok (.goto (-36), 3) := by decide +kernel
theorem dX4_feed_80 : decode cX4_feed 80 = .ok (.aload_n 0, 1) := by decide +kernel
theorem dX4_feed_81 : decode cX4_feed 81 = .ok (.getfield 190, 3) := by decide +kernel
theorem dX4_feed_84 : decode cX4_feed 84 = .ok (.ireturn, 1) := by decide +kernel
theorem dX4_wipe_0 : decode cX4_wipe 0 = .ok (.aload_n 0, 1) := by decide +kernel
theorem dX4_wipe_1 : decode cX4_wipe 1 = .ok (.getfield 190, 3) := by decide +kernel
theorem dX4_wipe_4 : decode cX4_wipe 4 = .ok (.istore_n 1, 1) := by decide +kernel
theorem dX4_wipe_5 : decode cX4_wipe 5 = .ok (.aload_n 0, 1) := by decide +kernel
theorem dX4_wipe_6 : decode cX4_wipe 6 = .ok (.iconst 0, 1) := by decide +kernel
theorem dX4_wipe_7 : decode cX4_wipe 7 = .ok (.putfield 190, 3) := by decide +kernel
theorem dX4_wipe_10 : decode cX4_wipe 10 = .ok (.iload_n 1, 1) := by decide +kernel
theorem dX4_wipe_11 : decode cX4_wipe 11 = .ok (.ireturn, 1) := by decide +kernel
theorem dX4_isLetter_0 : decode cX4_isLetter 0 = .ok (.iload_n 0, 1) := by decide +kernel
theorem dX4_isLetter_1 : decode cX4_isLetter 1 = .ok (.bipush 97, 2) := by decide +kernel
theorem dX4_isLetter_3 : decode cX4_isLetter 3 = .ok (.if_icmp .lt 13, 3) := by decide +kernel
theorem dX4_isLetter_6 : decode cX4_isLetter 6 = .ok (.iload_n 0, 1) := by decide +kernel
theorem dX4_isLetter_7 : decode cX4_isLetter 7 = .ok (.bipush 122, 2) := by decide +kernel
theorem dX4_isLetter_9 : decode cX4_isLetter 9 = .ok (.if_icmp .gt 7, 3) := by decide +kernel
theorem dX4_isLetter_12 : decode cX4_isLetter 12 = .ok (.iconst 1, 1) := by decide +kernel
theorem dX4_isLetter_13 : decode cX4_isLetter 13 = .ok (.goto 4, 3) := by decide +kernel
theorem dX4_isLetter_16 : decode cX4_isLetter 16 = .ok (.iconst 0, 1) := by decide +kernel
theorem dX4_isLetter_17 : decode cX4_isLetter 17 = .ok (.ireturn, 1) := by decide +kernel
theorem dX4_isDigit_0 : decode cX4_isDigit 0 = .ok (.iload_n 0, 1) := by decide +kernel
theorem dX4_isDigit_1 : decode cX4_isDigit 1 = .ok (.bipush 48, 2) := by decide +kernel
theorem dX4_isDigit_3 : decode cX4_isDigit 3 = .ok (.if_icmp .lt 13, 3) := by decide +kernel
theorem dX4_isDigit_6 : decode cX4_isDigit 6 = .ok (.iload_n 0, 1) := by decide +kernel
theorem dX4_isDigit_7 : decode cX4_isDigit 7 = .ok (.bipush 57, 2) := by decide +kernel
theorem dX4_isDigit_9 : decode cX4_isDigit 9 = .ok (.if_icmp .gt 7, 3) := by decide +kernel
theorem dX4_isDigit_12 : decode cX4_isDigit 12 = .ok (.iconst 1, 1) := by decide +kernel
theorem dX4_isDigit_13 : decode cX4_isDigit 13 = .ok (.goto 4, 3) := by decide +kernel
theorem dX4_isDigit_16 : decode cX4_isDigit 16 = .ok (.iconst 0, 1) := by decide +kernel
theorem dX4_isDigit_17 : decode cX4_isDigit 17 = .ok (.ireturn, 1) := by decide +kernel
theorem dX4_byteAt_0 : decode cX4_byteAt 0 = .ok (.iload_n 1, 1) := by decide +kernel
theorem dX4_byteAt_1 : decode cX4_byteAt 1 = .ok (.aload_n 0, 1) := by decide +kernel
theorem dX4_byteAt_2 : decode cX4_byteAt 2 = .ok (.getfield 190, 3) := by decide +kernel
theorem dX4_byteAt_5 : decode cX4_byteAt 5 = .ok (.if_icmp .ge 12, 3) := by decide +kernel
theorem dX4_byteAt_8 : decode cX4_byteAt 8 = .ok (.aload_n 0, 1) := by decide +kernel
theorem dX4_byteAt_9 : decode cX4_byteAt 9 = .ok (.getfield 22, 3) := by decide +kernel
theorem dX4_byteAt_12 : decode cX4_byteAt 12 = .ok (.iload_n 1, 1) := by decide +kernel
theorem dX4_byteAt_13 : decode cX4_byteAt 13 = .ok (.iaload, 1) := by decide +kernel
theorem dX4_byteAt_14 : decode cX4_byteAt 14 = .ok (.goto 4, 3) := by decide +kernel
theorem dX4_byteAt_17 : decode cX4_byteAt 17 = .ok (.iconst (-1), 1) := by decide +kernel
theorem dX4_byteAt_18 : decode cX4_byteAt 18 = .ok (.ireturn, 1) := by decide +kernel
theorem dX4_nextToken_0 : decode cX4_nextToken 0 = .ok (.aload_n 0, 1) := by decide +kernel
theorem dX4_nextToken_1 : decode cX4_nextToken 1 = .ok (.aload_n 0, 1) := by decide +kernel
theorem dX4_nextToken_2 : decode cX4_nextToken 2 = .ok (.getfield 194, 3) := by decide +kernel
theorem dX4_nextToken_5 : decode cX4_nextToken 5 = .ok (.putfield 197, 3) := by decide +kernel
theorem dX4_nextToken_8 : decode cX4_nextToken 8 = .ok (.aload_n 0, 1) := by decide +kernel
theorem dX4_nextToken_9 : decode cX4_nextToken 9 = .ok (.aload_n 0, 1) := by decide +kernel
theorem dX4_nextToken_10 : decode cX4_nextToken 10 = .ok (.getfield 197, 3) := by decide +kernel
theorem dX4_nextToken_13 : decode cX4_nextToken 13 = .ok (.invokevirtual 200, 3) := by decide +kernel
theorem dX4_nextToken_16 : decode cX4_nextToken 16 = .ok (.bipush 32, 2) := by decide +kernel
theorem dX4_nextToken_18 : decode cX4_nextToken 18 = .ok (.if_icmp .ne 16, 3) := by decide +kernel
theorem dX4_nextToken_21 : decode cX4_nextToken 21 = .ok (.aload_n 0, 1) := by decide +kernel
theorem dX4_nextToken_22 : decode cX4_nextToken 22 = .ok (.dup, 1) := by decide +kernel
theorem dX4_nextToken_23 : decode cX4_nextToken 23 = .ok (.getfield 197, 3) := by decide +kernel
theorem dX4_nextToken_26 : decode cX4_nextToken 26 = .ok (.iconst 1, 1) := by decide +kernel
theorem dX4_nextToken_27 : decode cX4_nextToken 27 = .ok (.iadd, 1) := by decide +kernel
theorem dX4_nextToken_28 : decode cX4_nextToken 28 = .ok (.putfield 197, 3) := by decide +kernel
theorem dX4_nextToken_31 : decode cX4_nextToken 31 = .ok (.goto (-23), 3) := by decide +kernel
theorem dX4_nextToken_34 : decode cX4_nextToken 34 = .ok (.aload_n 0, 1) := by decide +kernel
theorem dX4_nextToken_35 : decode cX4_nextToken 35 = .ok (.aload_n 0, 1) := by decide +kernel
theorem dX4_nextToken_36 : decode cX4_nextToken 36 = .ok (.getfield 197, 3) := by decide +kernel
theorem dX4_nextToken_39 : decode cX4_nextToken 39 = .ok (.putfield 194, 3) := by decide +kernel
theorem dX4_nextToken_42 : decode cX4_nextToken 42 = .ok (.aload_n 0, 1) := by decide +kernel
theorem dX4_nextToken_43 : decode cX4_nextToken 43 = .ok (.aload_n 0, 1) := by decide +kernel
theorem dX4_nextToken_44 : decode cX4_nextToken 44 = .ok (.getfield 197, 3) := by decide +kernel
theorem dX4_nextToken_47 : decode cX4_nextToken 47 = .ok (.invokevirtual 200, 3) := by decide +kernel
theorem dX4_nextToken_50 : decode cX4_nextToken 50 = .ok (.istore_n 1, 1) := by decide +kernel
theorem dX4_nextToken_51 : decode cX4_nextToken 51 = .ok (.aload_n 0, 1) := by decide +kernel
theorem dX4_nextToken_52 : decode cX4_nextToken 52 = .ok (.iload_n 1, 1) := by decide +kernel
theorem dX4_nextToken_53 : decode cX4_nextToken 53 = .ok (.ifCond .ge 7, 3) := by decide +kernel
theorem dX4_nextToken_56 : decode cX4_nextToken 56 = .ok (.iconst 0, 1) := by decide +kernel
theorem dX4_nextToken_57 : decode cX4_nextToken 57 = .ok (.goto 36, 3) := by decide +kernel
theorem dX4_nextToken_60 : decode cX4_nextToken 60 = .ok (.iload_n 1, 1) := by decide +kernel
theorem dX4_nextToken_61 : decode cX4_nextToken 61 = .ok (.invokestatic 203, 3) := by decide +kernel
theorem dX4_nextToken_64 : decode cX4_nextToken 64 = .ok (.ifCond .eq 7, 3) := by decide +kernel
theorem dX4_nextToken_67 : decode cX4_nextToken 67 = .ok (.iconst 1, 1) := by decide +kernel
theorem dX4_nextToken_68 : decode cX4_nextToken 68 = .ok (.goto 25, 3) := by decide +kernel
theorem dX4_nextToken_71 : decode cX4_nextToken 71 = .ok (.iload_n 1, 1) := by decide +kernel
theorem dX4_nextToken_72 : decode cX4_nextToken 72 = .ok (.invokestatic 206, 3) := by decide +kernel
theorem dX4_nextToken_75 : decode cX4_nextToken 75 = .ok (.ifCond .eq 7, 3) := by decide +kernel
theorem dX4_nextToken_78 : decode cX4_nextToken 78 = .ok (.iconst 2, 1) := by decide +kernel
theorem dX4_nextToken_79 : decode cX4_nextToken 79 = .ok (.goto 14, 3) := by decide +kernel
theorem dX4_nextToken_82 : decode cX4_nextToken 82 = .ok (.iload_n 1, 1) := by decide +kernel
theorem dX4_nextToken_83 : decode cX4_nextToken 83 = .ok (.bipush 59, 2) := by decide +kernel
theorem dX4_nextToken_85 : decode cX4_nextToken 85 = .ok (.if_icmp .ne 7, 3) := by decide +kernel
theorem dX4_nextToken_88 : decode cX4_nextToken 88 = .ok (.iconst 3, 1) := by decide +kernel
theorem dX4_nextToken_89 : decode cX4_nextToken 89 = .ok (.goto 4, 3) := by decide +kernel
theorem dX4_nextToken_92 : decode cX4_nextToken 92 = .ok (.iconst 4, 1) := by decide +kernel
theorem dX4_nextToken_93 : decode cX4_nextToken 93 = .ok (.putfield 209, 3) := by decide +kernel
theorem dX4_nextToken_96 : decode cX4_nextToken 96 = .ok (.aload_n 0, 1) := by decide +kernel
theorem dX4_nextToken_97 : decode cX4_nextToken 97 = .ok (.iconst 0, 1) := by decide +kernel
theorem dX4_nextToken_98 : decode cX4_nextToken 98 = .ok (.putfield 212, 3) := by decide +kernel
theorem dX4_nextToken_101 : decode cX4_nextToken 101 = .ok (.aload_n 0, 1) := by decide +kernel
theorem dX4_nextToken_102 : decode cX4_nextToken 102 = .ok (.getfield 209, 3) := by decide +kernel
theorem dX4_nextToken_105 : decode cX4_nextToken 105 = .ok (.iconst 1, 1) := by decide +kernel
theorem dX4_nextToken_106 : decode cX4_nextToken 106 = .ok (.if_icmp .ne 30, 3) := by decide +kernel
theorem dX4_nextToken_109 : decode cX4_nextToken 109 = .ok (.aload_n 0, 1) := by decide +kernel
theorem dX4_nextToken_110 : decode cX4_nextToken 110 = .ok (.aload_n 0, 1) := by decide +kernel
theorem dX4_nextToken_111 : decode cX4_nextToken 111 = .ok (.getfield 194, 3) := by decide +kernel
theorem dX4_nextToken_114 : decode cX4_nextToken 114 = .ok (.invokevirtual 200, 3) := by decide +kernel
theorem dX4_nextToken_117 : decode cX4_nextToken 117 = .ok (.invokestatic 203, 3) := by decide +kernel
theorem dX4_nextToken_120 : decode cX4_nextToken 120 = .ok (.ifCond .eq 16, 3) := by decide +kernel
theorem dX4_nextToken_123 : decode cX4_nextToken 123 = .ok (.aload_n 0, 1) := by decide +kernel
theorem dX4_nextToken_124 : decode cX4_nextToken 124 = .ok (.dup, 1) := by decide +kernel
theorem dX4_nextToken_125 : decode cX4_nextToken 125 = .ok (.getfield 194, 3) := by decide +kernel
theorem dX4_nextToken_128 : decode cX4_nextToken 128 = .ok (.iconst 1, 1) := by decide +kernel
theorem dX4_nextToken_129 : decode cX4_nextToken 129 = .ok (.iadd, 1) := by decide +kernel
theorem dX4_nextToken_130 : decode cX4_nextToken 130 = .ok (.putfield 194, 3) := by decide +kernel
theorem dX4_nextToken_133 : decode cX4_nextToken 133 = .ok (.goto (-32), 3) := by decide +kernel
theorem dX4_nextToken_136 : decode cX4_nextToken 136 = .ok (.aload_n 0, 1) := by decide +kernel
theorem dX4_nextToken_137 : decode cX4_nextToken 137 = .ok (.getfield 209, 3) := by decide +kernel
theorem dX4_nextToken_140 : decode cX4_nextToken 140 = .ok (.iconst 2, 1) := by decide +kernel
theorem dX4_nextToken_141 : decode cX4_nextToken 141 = .ok (.if_icmp .ne 70, 3) := by decide +kernel
theorem dX4_nextToken_144 : decode cX4_nextToken 144 = .ok (.aload_n 0, 1) := by decide +kernel
theorem dX4_nextToken_145 : decode cX4_nextToken 145 = .ok (.aload_n 0, 1) := by decide +kernel
theorem dX4_nextToken_146 : decode cX4_nextToken 146 = .ok (.getfield 194, 3) := by decide +kernel
theorem dX4_nextToken_149 : decode cX4_nextToken 149 = .ok (.invokevirtual 200, 3) := by decide +kernel
theorem dX4_nextToken_152 : decode cX4_nextToken 152 = .ok (.invokestatic 206, 3) := by decide +kernel
theorem dX4_nextToken_155 : decode cX4_nextToken 155 = .ok (.ifCond .eq 56, 3) := by decide +kernel
theorem dX4_nextToken_158 : decode cX4_nextToken 158 = .ok (.aload_n 0, 1) := by decide +kernel
theorem dX4_nextToken_159 : decode cX4_nextToken 159 = .ok (.aload_n 0, 1) := by decide +kernel
theorem dX4_nextToken_160 : decode cX4_nextToken 160 = .ok (.getfield 212, 3) := by decide +kernel
theorem dX4_nextToken_163 : decode cX4_nextToken 163 = .ok (.sipush 9999, 3) := by decide +kernel
theorem dX4_nextToken_166 : decode cX4_nextToken 166 = .ok (.if_icmp .le 10, 3) := by decide +kernel
theorem dX4_nextToken_169 : decode cX4_nextToken 169 = .ok (.aload_n 0, 1) := by decide +kernel
theorem dX4_nextToken_170 : decode cX4_nextToken 170 = .ok (.getfield 212, 3) := by decide +kernel
theorem dX4_nextToken_173 : decode cX4_nextToken 173 = .ok (.goto 22, 3) := by decide +kernel
theorem dX4_nextToken_176 : decode cX4_nextToken 176 = .ok (.bipush 10, 2) := by decide +kernel
theorem dX4_nextToken_178 : decode cX4_nextToken 178 = .ok (.aload_n 0, 1) := by decide +kernel
theorem dX4_nextToken_179 : decode cX4_nextToken 179 = .ok (.getfield 212, 3) := by decide +kernel
theorem dX4_nextToken_182 : decode cX4_nextToken 182 = .ok (.imul, 1) := by decide +kernel
theorem dX4_nextToken_183 : decode cX4_nextToken 183 = .ok (.aload_n 0, 1) := by decide +kernel
theorem dX4_nextToken_184 : decode cX4_nextToken 184 = .ok (.aload_n 0, 1) := by decide +kernel
theorem dX4_nextToken_185 : decode cX4_nextToken 185 = .ok (.getfield 194, 3) := by decide +kernel
theorem dX4_nextToken_188 : decode cX4_nextToken 188 = .ok (.invokevirtual 200, 3) := by decide +kernel
theorem dX4_nextToken_191 : decode cX4_nextToken 191 = .ok (.iadd, 1) := by decide +kernel
theorem dX4_nextToken_192 : decode cX4_nextToken 192 = .ok (.bipush 48, 2) := by decide +kernel
theorem dX4_nextToken_194 : decode cX4_nextToken 194 = .ok (.isub, 1) := by decide +kernel
theorem dX4_nextToken_195 : decode cX4_nextToken 195 = .ok (.putfield 212, 3) := by decide +kernel
theorem dX4_nextToken_198 : decode cX4_nextToken 198 = .ok (.aload_n 0, 1) := by decide +kernel
theorem dX4_nextToken_199 : decode cX4_nextToken 199 = .ok (.dup, 1) := by decide +kernel
theorem dX4_nextToken_200 : decode cX4_nextToken 200 = .ok (.getfield 194, 3) := by decide +kernel
theorem dX4_nextToken_203 : decode cX4_nextToken 203 = .ok (.iconst 1, 1) := by decide +kernel
theorem dX4_nextToken_204 : decode cX4_nextToken 204 = .ok (.iadd, 1) := by decide +kernel
theorem dX4_nextToken_205 : decode cX4_nextToken 205 = .ok (.putfield 194, 3) := by decide +kernel
theorem dX4_nextToken_208 : decode cX4_nextToken 208 = .ok (.goto (-72), 3) := by decide +kernel
theorem dX4_nextToken_211 : decode cX4_nextToken 211 = .ok (.aload_n 0, 1) := by decide +kernel
theorem dX4_nextToken_212 : decode cX4_nextToken 212 = .ok (.dup, 1) := by decide +kernel
theorem dX4_nextToken_213 : decode cX4_nextToken 213 = .ok (.getfield 194, 3) := by decide +kernel
theorem dX4_nextToken_216 : decode cX4_nextToken 216 = .ok (.aload_n 0, 1) := by decide +kernel
theorem dX4_nextToken_217 : decode cX4_nextToken 217 = .ok (.getfield 209, 3) := by decide +kernel
theorem dX4_nextToken_220 : decode cX4_nextToken 220 = .ok (.iconst 2, 1) := by decide +kernel
theorem dX4_nextToken_221 : decode cX4_nextToken 221 = .ok (.if_icmp .le 7, 3) := by decide +kernel
theorem dX4_nextToken_224 : decode cX4_nextToken 224 = .ok (.iconst 1, 1) := by decide +kernel
theorem dX4_nextToken_225 : decode cX4_nextToken 225 = .ok (.goto 4, 3) := by decide +kernel
theorem dX4_nextToken_228 : decode cX4_nextToken 228 = .ok (.iconst 0, 1) := by decide +kernel
theorem dX4_nextToken_229 : decode cX4_nextToken 229 = .ok (.iadd, 1) := by decide +kernel
theorem dX4_nextToken_230 : decode cX4_nextToken 230 = .ok (.putfield 194, 3) := by decide +kernel
theorem dX4_nextToken_233 : decode cX4_nextToken 233 = .ok (.return_, 1) := by decide +kernel
theorem dX4_has3_0 : decode cX4_has3 0 = .ok (.aload_n 0, 1) := by decide +kernel
theorem dX4_has3_1 : decode cX4_has3 1 = .ok (.aload_n 0, 1) := by decide +kernel
theorem dX4_has3_2 : decode cX4_has3 2 = .ok (.getfield 197, 3) := by decide +kernel
theorem dX4_has3_5 : decode cX4_has3 5 = .ok (.iload_n 1, 1) := by decide +kernel
theorem dX4_has3_6 : decode cX4_has3 6 = .ok (.iadd, 1) := by decide +kernel
theorem dX4_has3_7 : decode cX4_has3 7 = .ok (.invokevirtual 200, 3) := by decide +kernel
theorem dX4_has3_10 : decode cX4_has3 10 = .ok (.iload_n 2, 1) := by decide +kernel
theorem dX4_has3_11 : decode cX4_has3 11 = .ok (.if_icmp .ne 40, 3) := by decide +kernel
theorem dX4_has3_14 : decode cX4_has3 14 = .ok (.aload_n 0, 1) := by decide +kernel
theorem dX4_has3_15 : decode cX4_has3 15 = .ok (.aload_n 0, 1) := by decide +kernel
theorem dX4_has3_16 : decode cX4_has3 16 = .ok (.getfield 197, 3) := by decide +kernel
theorem dX4_has3_19 : decode cX4_has3 19 = .ok (.iload_n 1, 1) := by decide +kernel
theorem dX4_has3_20 : decode cX4_has3 20 = .ok (.iadd, 1) := by decide +kernel
theorem dX4_has3_21 : decode cX4_has3 21 = .ok (.iconst 1, 1) := by decide +kernel
theorem dX4_has3_22 : decode cX4_has3 22 = .ok (.iadd, 1) := by decide +kernel
theorem dX4_has3_23 : decode cX4_has3 23 = .ok (.invokevirtual 200, 3) := by decide +kernel
theorem dX4_has3_26 : decode cX4_has3 26 = .ok (.iload_n 3, 1) := by decide +kernel
theorem dX4_has3_27 : decode cX4_has3 27 = .ok (.if_icmp .ne 24, 3) := by decide +kernel
theorem dX4_has3_30 : decode cX4_has3 30 = .ok (.aload_n 0, 1) := by decide +kernel
theorem dX4_has3_31 : decode cX4_has3 31 = .ok (.aload_n 0, 1) := by decide +kernel
theorem dX4_has3_32 : decode cX4_has3 32 = .ok (.getfield 197, 3) := by decide +kernel
theorem dX4_has3_35 : decode cX4_has3 35 = .ok (.iload_n 1, 1) := by decide +kernel
theorem dX4_has3_36 : decode cX4_has3 36 = .ok (.iadd, 1) := by decide +kernel
theorem dX4_has3_37 : decode cX4_has3 37 = .ok (.iconst 2, 1) := by decide +kernel
theorem dX4_has3_38 : decode cX4_has3 38 = .ok (.iadd, 1) := by decide +kernel
theorem dX4_has3_39 : decode cX4_has3 39 = .ok (.invokevirtual 200, 3) := by decide +kernel
theorem dX4_has3_42 : decode cX4_has3 42 = .ok (.iload 4, 2) := by decide +kernel
theorem dX4_has3_44 : decode cX4_has3 44 = .ok (.if_icmp .ne 7, 3) := by decide +kernel
theorem dX4_has3_47 : decode cX4_has3 47 = .ok (.iconst 1, 1) := by decide +kernel
theorem dX4_has3_48 : decode cX4_has3 48 = .ok (.goto 4, 3) := by decide +kernel
theorem dX4_has3_51 : decode cX4_has3 51 = .ok (.iconst 0, 1) := by decide +kernel
theorem dX4_has3_52 : decode cX4_has3 52 = .ok (.ireturn, 1) := by decide +kernel
theorem dX4_isWord_0 : decode cX4_isWord 0 = .ok (.aload_n 0, 1) := by decide +kernel
theorem dX4_isWord_1 : decode cX4_isWord 1 = .ok (.getfield 209, 3) := by decide +kernel
theorem dX4_isWord_4 : decode cX4_isWord 4 = .ok (.iconst 1, 1) := by decide +kernel
theorem dX4_isWord_5 : decode cX4_isWord 5 = .ok (.if_icmp .ne 20, 3) := by decide +kernel
theorem dX4_isWord_8 : decode cX4_isWord 8 = .ok (.aload_n 0, 1) := by decide +kernel
theorem dX4_isWord_9 : decode cX4_isWord 9 = .ok (.getfield 194, 3) := by decide +kernel
theorem dX4_isWord_12 : decode cX4_isWord 12 = .ok (.aload_n 0, 1) := by decide +kernel
theorem dX4_isWord_13 : decode cX4_isWord 13 = .ok (.getfield 197, 3) := by decide +kernel
theorem dX4_isWord_16 : decode cX4_isWord 16 = .ok (.isub, 1) := by decide +kernel
theorem dX4_isWord_17 : decode cX4_isWord 17 = .ok (.iload_n 1, 1) := by decide +kernel
theorem dX4_isWord_18 : decode cX4_isWord 18 = .ok (.if_icmp .ne 7, 3) := by decide +kernel
theorem dX4_isWord_21 : decode cX4_isWord 21 = .ok (.iconst 1, 1) := by decide +kernel
theorem dX4_isWord_22 : decode cX4_isWord 22 = .ok (.goto 4, 3) := by decide +kernel
theorem dX4_isWord_25 : decode cX4_isWord 25 = .ok (.iconst 0, 1) := by decide +kernel
theorem dX4_isWord_26 : decode cX4_isWord 26 = .ok (.ireturn, 1) := by decide +kernel
theorem dX4_isWord4_0 : decode cX4_isWord4 0 = .ok (.aload_n 0, 1) := by decide +kernel
theorem dX4_isWord4_1 : decode cX4_isWord4 1 = .ok (.iconst 4, 1) := by decide +kernel
theorem dX4_isWord4_2 : decode cX4_isWord4 2 = .ok (.invokevirtual 215, 3) := by decide +kernel
theorem dX4_isWord4_5 : decode cX4_isWord4 5 = .ok (.ifCond .eq 33, 3) := by decide +kernel
theorem dX4_isWord4_8 : decode cX4_isWord4 8 = .ok (.aload_n 0, 1) := by decide +kernel
theorem dX4_isWord4_9 : decode cX4_isWord4 9 = .ok (.iconst 0, 1) := by decide +kernel
theorem dX4_isWord4_10 : decode cX4_isWord4 10 = .ok (.iload_n 1, 1) := by decide +kernel
theorem dX4_isWord4_11 : decode cX4_isWord4 11 = .ok (.iload_n 2, 1) := by decide +kernel
theorem dX4_isWord4_12 : decode cX4_isWord4 12 = .ok (.iload_n 3, 1) := by decide +kernel
theorem dX4_isWord4_13 : decode cX4_isWord4 13 = .ok (.invokevirtual 218, 3) := by decide +kernel
theorem dX4_isWord4_16 : decode cX4_isWord4 16 = .ok (.ifCond .eq 22, 3) := by decide +kernel
theorem dX4_isWord4_19 : decode cX4_isWord4 19 = .ok (.aload_n 0, 1) := by decide +kernel
theorem dX4_isWord4_20 : decode cX4_isWord4 20 = .ok (.aload_n 0, 1) := by decide +kernel
theorem dX4_isWord4_21 : decode cX4_isWord4 21 = .ok (.getfield 197, 3) := by decide +kernel
theorem dX4_isWord4_24 : decode cX4_isWord4 24 = .ok (.iconst 3, 1) := by decide +kernel
theorem dX4_isWord4_25 : decode cX4_isWord4 25 = .ok (.iadd, 1) := by decide +kernel
theorem dX4_isWord4_26 : decode cX4_isWord4 26 = .ok (.invokevirtual 200, 3) := by decide +kernel
theorem dX4_isWord4_29 : decode cX4_isWord4 29 = .ok (.iload 4, 2) := by decide +kernel
theorem dX4_isWord4_31 : decode cX4_isWord4 31 = .ok (.if_icmp .ne 7, 3) := by decide +kernel
theorem dX4_isWord4_34 : decode cX4_isWord4 34 = .ok (.iconst 1, 1) := by decide +kernel
theorem dX4_isWord4_35 : decode cX4_isWord4 35 = .ok (.goto 4, 3) := by decide +kernel
theorem dX4_isWord4_38 : decode cX4_isWord4 38 = .ok (.iconst 0, 1) := by decide +kernel
theorem dX4_isWord4_39 : decode cX4_isWord4 39 = .ok (.ireturn, 1) := by decide +kernel
theorem dX4_kindNamed_0 : decode cX4_kindNamed 0 = .ok (.aload_n 0, 1) := by decide +kernel
theorem dX4_kindNamed_1 : decode cX4_kindNamed 1 = .ok (.bipush 99, 2) := by decide +kernel
theorem dX4_kindNamed_3 : decode cX4_kindNamed 3 = .ok (.bipush 111, 2) := by decide +kernel
theorem dX4_kindNamed_5 : decode cX4_kindNamed 5 = .ok (.bipush 105, 2) := by decide +kernel
theorem dX4_kindNamed_7 : decode cX4_kindNamed 7 = .ok (.bipush 110, 2) := by decide +kernel
theorem dX4_kindNamed_9 : decode cX4_kindNamed 9 = .ok (.invokevirtual 222, 3) := by decide +kernel
theorem dX4_kindNamed_12 : decode cX4_kindNamed 12 = .ok (.ifCond .eq 5, 3) := by decide +kernel
theorem dX4_kindNamed_15 : decode cX4_kindNamed 15 = .ok (.iconst 0, 1) := by decide +kernel
theorem dX4_kindNamed_16 : decode cX4_kindNamed 16 = .ok (.ireturn, 1) := by decide +kernel
theorem dX4_kindNamed_17 : decode cX4_kindNamed 17 = .ok (.aload_n 0, 1) := by decide +kernel
theorem dX4_kindNamed_18 : decode cX4_kindNamed 18 = .ok (.bipush 98, 2) := by decide +kernel
theorem dX4_kindNamed_20 : decode cX4_kindNamed 20 = .ok (.bipush 108, 2) := by decide +kernel
theorem dX4_kindNamed_22 : decode cX4_kindNamed 22 = .ok (.bipush 117, 2) := by decide +kernel
theorem dX4_kindNamed_24 : decode cX4_kindNamed 24 = .ok (.bipush 101, 2) := by decide +kernel
theorem dX4_kindNamed_26 : decode cX4_kindNamed 26 = .ok (.invokevirtual 222, 3) := by decide +kernel
theorem dX4_kindNamed_29 : decode cX4_kindNamed 29 = .ok (.ifCond .eq 5, 3) := by decide +kernel
theorem dX4_kindNamed_32 : decode cX4_kindNamed 32 = .ok (.iconst 1, 1) := by decide +kernel
theorem dX4_kindNamed_33 : decode cX4_kindNamed 33 = .ok (.ireturn, 1) := by decide +kernel
theorem dX4_kindNamed_34 : decode cX4_kindNamed 34 = .ok (.aload_n 0, 1) := by decide +kernel
theorem dX4_kindNamed_35 : decode cX4_kindNamed 35 = .ok (.iconst 3, 1) := by decide +kernel
theorem dX4_kindNamed_36 : decode cX4_kindNamed 36 = .ok (.invokevirtual 215, 3) := by decide +kernel
theorem dX4_kindNamed_39 : decode cX4_kindNamed 39 = .ok (.ifCond .eq 19, 3) := by decide +kernel
theorem dX4_kindNamed_42 : decode cX4_kindNamed 42 = .ok (.aload_n 0, 1) := by decide +kernel
theorem dX4_kindNamed_43 : decode cX4_kindNamed 43 = .ok (.iconst 0, 1) := by decide +kernel
theorem dX4_kindNamed_44 : decode cX4_kindNamed 44 = .ok (.bipush 114, 2) := by decide +kernel
theorem dX4_kindNamed_46 : decode cX4_kindNamed 46 = .ok (.bipush 101, 2) := by decide +kernel
theorem dX4_kindNamed_48 : decode cX4_kindNamed 48 = .ok (.bipush 100, 2) := by decide +kernel
theorem dX4_kindNamed_50 : decode cX4_kindNamed 50 = .ok (.invokevirtual 218, 3) := by decide +kernel
theorem dX4_kindNamed_53 : decode cX4_kindNamed 53 = .ok (.ifCond .eq 5, 3) := by decide +kernel
theorem dX4_kindNamed_56 : decode cX4_kindNamed 56 = .ok (.iconst 2, 1) := by decide +kernel
theorem dX4_kindNamed_57 : decode cX4_kindNamed 57 = .ok (.ireturn, 1) := by decide +kernel
theorem dX4_kindNamed_58 : decode cX4_kindNamed 58 = .ok (.aload_n 0, 1) := by decide +kernel
theorem dX4_kindNamed_59 : decode cX4_kindNamed 59 = .ok (.bipush 115, 2) := by decide +kernel
theorem dX4_kindNamed_61 : decode cX4_kindNamed 61 = .ok (.bipush 101, 2) := by decide +kernel
theorem dX4_kindNamed_63 : decode cX4_kindNamed 63 = .ok (.bipush 101, 2) := by decide +kernel
theorem dX4_kindNamed_65 : decode cX4_kindNamed 65 = .ok (.bipush 100, 2) := by decide +kernel
theorem dX4_kindNamed_67 : decode cX4_kindNamed 67 = .ok (.invokevirtual 222, 3) := by decide +kernel
theorem dX4_kindNamed_70 : decode cX4_kindNamed 70 = .ok (.ifCond .eq 5, 3) := by decide +kernel
theorem dX4_kindNamed_73 : decode cX4_kindNamed 73 = .ok (.iconst 3, 1) := by decide +kernel
theorem dX4_kindNamed_74 : decode cX4_kindNamed 74 = .ok (.ireturn, 1) := by decide +kernel
theorem dX4_kindNamed_75 : decode cX4_kindNamed 75 = .ok (.aload_n 0, 1) := by decide +kernel
theorem dX4_kindNamed_76 : decode cX4_kindNamed 76 = .ok (.bipush 6, 2) := by decide +kernel
theorem dX4_kindNamed_78 : decode cX4_kindNamed 78 = .ok (.invokevirtual 215, 3) := by decide +kernel
theorem dX4_kindNamed_81 : decode cX4_kindNamed 81 = .ok (.ifCond .eq 33, 3) := by decide +kernel
theorem dX4_kindNamed_84 : decode cX4_kindNamed 84 = .ok (.aload_n 0, 1) := by decide +kernel
theorem dX4_kindNamed_85 : decode cX4_kindNamed 85 = .ok (.iconst 0, 1) := by decide +kernel
theorem dX4_kindNamed_86 : decode cX4_kindNamed 86 = .ok (.bipush 98, 2) := by decide +kernel
theorem dX4_kindNamed_88 : decode cX4_kindNamed 88 = .ok (.bipush 111, 2) := by decide +kernel
theorem dX4_kindNamed_90 : decode cX4_kindNamed 90 = .ok (.bipush 105, 2) := by decide +kernel
theorem dX4_kindNamed_92 : decode cX4_kindNamed 92 = .ok (.invokevirtual 218, 3) := by decide +kernel
theorem dX4_kindNamed_95 : decode cX4_kindNamed 95 = .ok (.ifCond .eq 19, 3) := by decide +kernel
theorem dX4_kindNamed_98 : decode cX4_kindNamed 98 = .ok (.aload_n 0, 1) := by decide +kernel
theorem dX4_kindNamed_99 : decode cX4_kindNamed 99 = .ok (.iconst 3, 1) := by decide +kernel
theorem dX4_kindNamed_100 : decode cX4_kindNamed 100 = .ok (.bipush 108, 2) := by decide +kernel
theorem dX4_kindNamed_102 : decode cX4_kindNamed 102 = .ok (.bipush 101, 2) := by decide +kernel
theorem dX4_kindNamed_104 : decode cX4_kindNamed 104 = .ok (.bipush 100, 2) := by decide +kernel
theorem dX4_kindNamed_106 : decode cX4_kindNamed 106 = .ok (.invokevirtual 218, 3) := by decide +kernel
theorem dX4_kindNamed_109 : decode cX4_kindNamed 109 = .ok (.ifCond .eq 5, 3) := by decide +kernel
theorem dX4_kindNamed_112 : decode cX4_kindNamed 112 = .ok (.iconst 4, 1) := by decide +kernel
theorem dX4_kindNamed_113 : decode cX4_kindNamed 113 = .ok (.ireturn, 1) := by decide +kernel
theorem dX4_kindNamed_114 : decode cX4_kindNamed 114 = .ok (.aload_n 0, 1) := by decide +kernel
theorem dX4_kindNamed_115 : decode cX4_kindNamed 115 = .ok (.iconst 3, 1) := by decide +kernel
theorem dX4_kindNamed_116 : decode cX4_kindNamed 116 = .ok (.invokevirtual 215, 3) := by decide +kernel
theorem dX4_kindNamed_119 : decode cX4_kindNamed 119 = .ok (.ifCond .eq 21, 3) := by decide +kernel
theorem dX4_kindNamed_122 : decode cX4_kindNamed 122 = .ok (.aload_n 0, 1) := by decide +kernel
theorem dX4_kindNamed_123 : decode cX4_kindNamed 123 = .ok (.iconst 0, 1) := by decide +kernel
theorem dX4_kindNamed_124 : decode cX4_kindNamed 124 = .ok (.bipush 115, 2) := by decide +kernel
theorem dX4_kindNamed_126 : decode cX4_kindNamed 126 = .ok (.bipush 107, 2) := by decide +kernel
theorem dX4_kindNamed_128 : decode cX4_kindNamed 128 = .ok (.bipush 121, 2) := by decide +kernel
theorem dX4_kindNamed_130 : decode cX4_kindNamed 130 = .ok (.invokevirtual 218, 3) := by decide +kernel
theorem dX4_kindNamed_133 : decode cX4_kindNamed 133 = .ok (.ifCond .eq 7, 3) := by decide +kernel
theorem dX4_kindNamed_136 : decode cX4_kindNamed 136 = .ok (.iconst 5, 1) := by decide +kernel
theorem dX4_kindNamed_137 : decode cX4_kindNamed 137 = .ok (.goto 4, 3) := by decide +kernel
theorem dX4_kindNamed_140 : decode cX4_kindNamed 140 = .ok (.iconst (-1), 1) := by decide +kernel
theorem dX4_kindNamed_141 : decode cX4_kindNamed 141 = .ok (.ireturn, 1) := by decide +kernel
theorem dX4_isWord2_0 : decode cX4_isWord2 0 = .ok (.aload_n 0, 1) := by decide +kernel
theorem dX4_isWord2_1 : decode cX4_isWord2 1 = .ok (.iconst 2, 1) := by decide +kernel
theorem dX4_isWord2_2 : decode cX4_isWord2 2 = .ok (.invokevirtual 215, 3) := by decide +kernel
theorem dX4_isWord2_5 : decode cX4_isWord2 5 = .ok (.ifCond .eq 33, 3) := by decide +kernel
theorem dX4_isWord2_8 : decode cX4_isWord2 8 = .ok (.aload_n 0, 1) := by decide +kernel
theorem dX4_isWord2_9 : decode cX4_isWord2 9 = .ok (.aload_n 0, 1) := by decide +kernel
theorem dX4_isWord2_10 : decode cX4_isWord2 10 = .ok (.getfield 197, 3) := by decide +kernel
theorem dX4_isWord2_13 : decode cX4_isWord2 13 = .ok (.invokevirtual 200, 3) := by decide +kernel
theorem dX4_isWord2_16 : decode cX4_isWord2 16 = .ok (.iload_n 1, 1) := by decide +kernel
theorem dX4_isWord2_17 : decode cX4_isWord2 17 = .ok (.if_icmp .ne 21, 3) := by decide +kernel
theorem dX4_isWord2_20 : decode cX4_isWord2 20 = .ok (.aload_n 0, 1) := by decide +kernel
theorem dX4_isWord2_21 : decode cX4_isWord2 21 = .ok (.aload_n 0, 1) := by decide +kernel
theorem dX4_isWord2_22 : decode cX4_isWord2 22 = .ok (.getfield 197, 3) := by decide +kernel
theorem dX4_isWord2_25 : decode cX4_isWord2 25 = .ok (.iconst 1, 1) := by decide +kernel
theorem dX4_isWord2_26 : decode cX4_isWord2 26 = .ok (.iadd, 1) := by decide +kernel
theorem dX4_isWord2_27 : decode cX4_isWord2 27 = .ok (.invokevirtual 200, 3) := by decide +kernel
theorem dX4_isWord2_30 : decode cX4_isWord2 30 = .ok (.iload_n 2, 1) := by decide +kernel
theorem dX4_isWord2_31 : decode cX4_isWord2 31 = .ok (.if_icmp .ne 7, 3) := by decide +kernel
theorem dX4_isWord2_34 : decode cX4_isWord2 34 = .ok (.iconst 1, 1) := by decide +kernel
theorem dX4_isWord2_35 : decode cX4_isWord2 35 = .ok (.goto 4, 3) := by decide +kernel
theorem dX4_isWord2_38 : decode cX4_isWord2 38 = .ok (.iconst 0, 1) := by decide +kernel
theorem dX4_isWord2_39 : decode cX4_isWord2 39 = .ok (.ireturn, 1) := by decide +kernel
theorem dX4_isNumber_0 : decode cX4_isNumber 0 = .ok (.aload_n 0, 1) := by decide +kernel
theorem dX4_isNumber_1 : decode cX4_isNumber 1 = .ok (.getfield 209, 3) := by decide +kernel
theorem dX4_isNumber_4 : decode cX4_isNumber 4 = .ok (.iconst 2, 1) := by decide +kernel
theorem dX4_isNumber_5 : decode cX4_isNumber 5 = .ok (.if_icmp .ne 22, 3) := by decide +kernel
theorem dX4_isNumber_8 : decode cX4_isNumber 8 = .ok (.aload_n 0, 1) := by decide +kernel
theorem dX4_isNumber_9 : decode cX4_isNumber 9 = .ok (.getfield 212, 3) := by decide +kernel
theorem dX4_isNumber_12 : decode cX4_isNumber 12 = .ok (.i2l, 1) := by decide +kernel
theorem dX4_isNumber_13 : decode cX4_isNumber 13 = .ok (.iload_n 1, 1) := by decide +kernel
theorem dX4_isNumber_14 : decode cX4_isNumber 14 = .ok (.i2l, 1) := by decide +kernel
theorem dX4_isNumber_15 : decode cX4_isNumber 15 = .ok (.iload_n 2, 1) := by decide +kernel
theorem dX4_isNumber_16 : decode cX4_isNumber 16 = .ok (.i2l, 1) := by decide +kernel
theorem dX4_isNumber_17 : decode cX4_isNumber 17 = .ok (.invokestatic 49, 3) := by decide +kernel
theorem dX4_isNumber_20 : decode cX4_isNumber 20 = .ok (.ifCond .eq 7, 3) := by decide +kernel
theorem dX4_isNumber_23 : decode cX4_isNumber 23 = .ok (.iconst 1, 1) := by decide +kernel
theorem dX4_isNumber_24 : decode cX4_isNumber 24 = .ok (.goto 4, 3) := by decide +kernel
theorem dX4_isNumber_27 : decode cX4_isNumber 27 = .ok (.iconst 0, 1) := by decide +kernel
theorem dX4_isNumber_28 : decode cX4_isNumber 28 = .ok (.ireturn, 1) := by decide +kernel
theorem dX4_goesNumber_0 : decode cX4_goesNumber 0 = .ok (.aload_n 0, 1) := by decide +kernel
theorem dX4_goesNumber_1 : decode cX4_goesNumber 1 = .ok (.invokevirtual 225, 3) := by decide +kernel
theorem dX4_goesNumber_4 : decode cX4_goesNumber 4 = .ok (.aload_n 0, 1) := by decide +kernel
theorem dX4_goesNumber_5 : decode cX4_goesNumber 5 = .ok (.iload_n 1, 1) := by decide +kernel
theorem dX4_goesNumber_6 : decode cX4_goesNumber 6 = .ok (.iload_n 2, 1) := by decide +kernel
theorem dX4_goesNumber_7 : decode cX4_goesNumber 7 = .ok (.invokevirtual 228, 3) := by decide +kernel
theorem dX4_goesNumber_10 : decode cX4_goesNumber 10 = .ok (.ireturn, 1) := by decide +kernel
theorem dX4_goesCoin_0 : decode cX4_goesCoin 0 = .ok (.aload_n 0, 1) := by decide +kernel
theorem dX4_goesCoin_1 : decode cX4_goesCoin 1 = .ok (.getfield 7, 3) := by decide +kernel
theorem dX4_goesCoin_4 : decode cX4_goesCoin 4 = .ok (.iconst 0, 1) := by decide +kernel
theorem dX4_goesCoin_5 : decode cX4_goesCoin 5 = .ok (.iaload, 1) := by decide +kernel
theorem dX4_goesCoin_6 : decode cX4_goesCoin 6 = .ok (.bipush 12, 2) := by decide +kernel
theorem dX4_goesCoin_8 : decode cX4_goesCoin 8 = .ok (.if_icmp .ne 5, 3) := by decide +kernel
theorem dX4_goesCoin_11 : decode cX4_goesCoin 11 = .ok (.iconst 0, 1) := by decide +kernel
theorem dX4_goesCoin_12 : decode cX4_goesCoin 12 = .ok (.ireturn, 1) := by decide +kernel
theorem dX4_goesCoin_13 : decode cX4_goesCoin 13 = .ok (.aload_n 0, 1) := by decide +kernel
theorem dX4_goesCoin_14 : decode cX4_goesCoin 14 = .ok (.invokevirtual 225, 3) := by decide +kernel
theorem dX4_goesCoin_17 : decode cX4_goesCoin 17 = .ok (.aload_n 0, 1) := by decide +kernel
theorem dX4_goesCoin_18 : decode cX4_goesCoin 18 = .ok (.bipush 111, 2) := by decide +kernel
theorem dX4_goesCoin_20 : decode cX4_goesCoin 20 = .ok (.bipush 102, 2) := by decide +kernel
theorem dX4_goesCoin_22 : decode cX4_goesCoin 22 = .ok (.invokevirtual 231, 3) := by decide +kernel
theorem dX4_goesCoin_25 : decode cX4_goesCoin 25 = .ok (.ifCond .eq 12, 3) := by decide +kernel
theorem dX4_goesCoin_28 : decode cX4_goesCoin 28 = .ok (.aload_n 0, 1) := by decide +kernel
theorem dX4_goesCoin_29 : decode cX4_goesCoin 29 = .ok (.iconst 0, 1) := by decide +kernel
theorem dX4_goesCoin_30 : decode cX4_goesCoin 30 = .ok (.iconst 3, 1) := by decide +kernel
theorem dX4_goesCoin_31 : decode cX4_goesCoin 31 = .ok (.invokevirtual 234, 3) := by decide +kernel
theorem dX4_goesCoin_34 : decode cX4_goesCoin 34 = .ok (.ifCond .ne 5, 3) := by decide +kernel
theorem dX4_goesCoin_37 : decode cX4_goesCoin 37 = .ok (.iconst 0, 1) := by decide +kernel
theorem dX4_goesCoin_38 : decode cX4_goesCoin 38 = .ok (.ireturn, 1) := by decide +kernel
theorem dX4_goesCoin_39 : decode cX4_goesCoin 39 = .ok (.aload_n 0, 1) := by decide +kernel
theorem dX4_goesCoin_40 : decode cX4_goesCoin 40 = .ok (.getfield 212, 3) := by decide +kernel
theorem dX4_goesCoin_43 : decode cX4_goesCoin 43 = .ok (.istore_n 2, 1) := by decide +kernel
theorem dX4_goesCoin_44 : decode cX4_goesCoin 44 = .ok (.aload_n 0, 1) := by decide +kernel
theorem dX4_goesCoin_45 : decode cX4_goesCoin 45 = .ok (.invokevirtual 225, 3) := by decide +kernel
theorem dX4_goesCoin_48 : decode cX4_goesCoin 48 = .ok (.aload_n 0, 1) := by decide +kernel
theorem dX4_goesCoin_49 : decode cX4_goesCoin 49 = .ok (.bipush 115, 2) := by decide +kernel
theorem dX4_goesCoin_51 : decode cX4_goesCoin 51 = .ok (.bipush 105, 2) := by decide +kernel
theorem dX4_goesCoin_53 : decode cX4_goesCoin 53 = .ok (.bipush 122, 2) := by decide +kernel
theorem dX4_goesCoin_55 : decode cX4_goesCoin 55 = .ok (.bipush 101, 2) := by decide +kernel
theorem dX4_goesCoin_57 : decode cX4_goesCoin 57 = .ok (.invokevirtual 222, 3) := by decide +kernel
theorem dX4_goesCoin_60 : decode cX4_goesCoin 60 = .ok (.ifCond .eq 13, 3) := by decide +kernel
theorem dX4_goesCoin_63 : decode cX4_goesCoin 63 = .ok (.aload_n 0, 1) := by decide +kernel
theorem dX4_goesCoin_64 : decode cX4_goesCoin 64 = .ok (.iconst 0, 1) := by decide +kernel
theorem dX4_goesCoin_65 : decode cX4_goesCoin 65 = .ok (.bipush 99, 2) := by decide +kernel
theorem dX4_goesCoin_67 : decode cX4_goesCoin 67 = .ok (.invokevirtual 234, 3) := by decide +kernel
theorem dX4_goesCoin_70 : decode cX4_goesCoin 70 = .ok (.ifCond .ne 5, 3) := by decide +kernel
theorem dX4_goesCoin_73 : decode cX4_goesCoin 73 = .ok (.iconst 0, 1) := by decide +kernel
theorem dX4_goesCoin_74 : decode cX4_goesCoin 74 = .ok (.ireturn, 1) := by decide +kernel
theorem dX4_goesCoin_75 : decode cX4_goesCoin 75 = .ok (.aload_n 0, 1) := by decide +kernel
theorem dX4_goesCoin_76 : decode cX4_goesCoin 76 = .ok (.iload_n 1, 1) := by decide +kernel
theorem dX4_goesCoin_77 : decode cX4_goesCoin 77 = .ok (.iload_n 2, 1) := by decide +kernel
theorem dX4_goesCoin_78 : decode cX4_goesCoin 78 = .ok (.aload_n 0, 1) := by decide +kernel
theorem dX4_goesCoin_79 : decode cX4_goesCoin 79 = .ok (.getfield 212, 3) := by decide +kernel
theorem dX4_goesCoin_82 : decode cX4_goesCoin 82 = .ok (.invokevirtual 72, 3) := by decide +kernel
theorem dX4_goesCoin_85 : decode cX4_goesCoin 85 = .ok (.istore_n 3, 1) := by decide +kernel
theorem dX4_goesCoin_86 : decode cX4_goesCoin 86 = .ok (.aload_n 0, 1) := by decide +kernel
theorem dX4_goesCoin_87 : decode cX4_goesCoin 87 = .ok (.invokevirtual 225, 3) := by decide +kernel
theorem dX4_goesCoin_90 : decode cX4_goesCoin 90 = .ok (.aload_n 0, 1) := by decide +kernel
theorem dX4_goesCoin_91 : decode cX4_goesCoin 91 = .ok (.bipush 6, 2) := by decide +kernel
theorem dX4_goesCoin_93 : decode cX4_goesCoin 93 = .ok (.invokevirtual 215, 3) := by decide +kernel
theorem dX4_goesCoin_96 : decode cX4_goesCoin 96 = .ok (.ifCond .eq 35, 3) := by decide +kernel
theorem dX4_goesCoin_99 : decode cX4_goesCoin 99 = .ok (.aload_n 0, 1) := by decide +kernel
theorem dX4_goesCoin_100 : decode cX4_goesCoin 100 = .ok (.iconst 0, 1) := by decide +kernel
theorem dX4_goesCoin_101 : decode cX4_goesCoin 101 = .ok (.bipush 114, 2) := by decide +kernel
theorem dX4_goesCoin_103 : decode cX4_goesCoin 103 = .ok (.bipush 111, 2) := by decide +kernel
theorem dX4_goesCoin_105 : decode cX4_goesCoin 105 = .ok (.bipush 116, 2) := by decide +kernel
theorem dX4_goesCoin_107 : decode cX4_goesCoin 107 = .ok (.invokevirtual 218, 3) := by decide +kernel
theorem dX4_goesCoin_110 : decode cX4_goesCoin 110 = .ok (.ifCond .eq 21, 3) := by decide +kernel
theorem dX4_goesCoin_113 : decode cX4_goesCoin 113 = .ok (.aload_n 0, 1) := by decide +kernel
theorem dX4_goesCoin_114 : decode cX4_goesCoin 114 = .ok (.iconst 3, 1) := by decide +kernel
theorem dX4_goesCoin_115 : decode cX4_goesCoin 115 = .ok (.bipush 116, 2) := by decide +kernel
theorem dX4_goesCoin_117 : decode cX4_goesCoin 117 = .ok (.bipush 101, 2) := by decide +kernel
theorem dX4_goesCoin_119 : decode cX4_goesCoin 119 = .ok (.bipush 110, 2) := by decide +kernel
theorem dX4_goesCoin_121 : decode cX4_goesCoin 121 = .ok (.invokevirtual 218, 3) := by decide +kernel
theorem dX4_goesCoin_124 : decode cX4_goesCoin 124 = .ok (.ifCond .eq 7, 3) := by decide +kernel
theorem dX4_goesCoin_127 : decode cX4_goesCoin 127 = .ok (.iconst 1, 1) := by decide +kernel
theorem dX4_goesCoin_128 : decode cX4_goesCoin 128 = .ok (.goto 4, 3) := by decide +kernel
theorem dX4_goesCoin_131 : decode cX4_goesCoin 131 = .ok (.iconst 0, 1) := by decide +kernel
theorem dX4_goesCoin_132 : decode cX4_goesCoin 132 = .ok (.istore 4, 2) := by decide +kernel
theorem dX4_goesCoin_134 : decode cX4_goesCoin 134 = .ok (.aload_n 0, 1) := by decide +kernel
theorem dX4_goesCoin_135 : decode cX4_goesCoin 135 = .ok (.bipush 7, 2) := by decide +kernel
theorem dX4_goesCoin_137 : decode cX4_goesCoin 137 = .ok (.invokevirtual 215, 3) := by decide +kernel
theorem dX4_goesCoin_140 : decode cX4_goesCoin 140 = .ok (.ifCond .eq 51, 3) := by decide +kernel
theorem dX4_goesCoin_143 : decode cX4_goesCoin 143 = .ok (.aload_n 0, 1) := by decide +kernel
theorem dX4_goesCoin_144 : decode cX4_goesCoin 144 = .ok (.iconst 0, 1) := by decide +kernel
theorem dX4_goesCoin_145 : decode cX4_goesCoin 145 = .ok (.bipush 112, 2) := by decide +kernel
theorem dX4_goesCoin_147 : decode cX4_goesCoin 147 = .ok (.bipush 108, 2) := by decide +kernel
theorem dX4_goesCoin_149 : decode cX4_goesCoin 149 = .ok (.bipush 97, 2) := by decide +kernel
theorem dX4_goesCoin_151 : decode cX4_goesCoin 151 = .ok (.invokevirtual 218, 3) := by decide +kernel
theorem dX4_goesCoin_154 : decode cX4_goesCoin 154 = .ok (.ifCond .eq 37, 3) := by decide +kernel
theorem dX4_goesCoin_157 : decode cX4_goesCoin 157 = .ok (.aload_n 0, 1) := by decide +kernel
theorem dX4_goesCoin_158 : decode cX4_goesCoin 158 = .ok (.iconst 3, 1) := by decide +kernel
theorem dX4_goesCoin_159 : decode cX4_goesCoin 159 = .ok (.bipush 110, 2) := by decide +kernel
theorem dX4_goesCoin_161 : decode cX4_goesCoin 161 = .ok (.bipush 116, 2) := by decide +kernel
theorem dX4_goesCoin_163 : decode cX4_goesCoin 163 = .ok (.bipush 101, 2) := by decide +kernel
theorem dX4_goesCoin_165 : decode cX4_goesCoin 165 = .ok (.invokevirtual 218, 3) := by decide +kernel
theorem dX4_goesCoin_168 : decode cX4_goesCoin 168 = .ok (.ifCond .eq 23, 3) := by decide +kernel
theorem dX4_goesCoin_171 : decode cX4_goesCoin 171 = .ok (.aload_n 0, 1) := by decide +kernel
theorem dX4_goesCoin_172 : decode cX4_goesCoin 172 = .ok (.aload_n 0, 1) := by decide +kernel
theorem dX4_goesCoin_173 : decode cX4_goesCoin 173 = .ok (.getfield 197, 3) := by decide +kernel
theorem dX4_goesCoin_176 : decode cX4_goesCoin 176 = .ok (.bipush 6, 2) := by decide +kernel
theorem dX4_goesCoin_178 : decode cX4_goesCoin 178 = .ok (.iadd, 1) := by decide +kernel
theorem dX4_goesCoin_179 : decode cX4_goesCoin 179 = .ok (.invokevirtual 200, 3) := by decide +kernel
theorem dX4_goesCoin_182 : decode cX4_goesCoin 182 = .ok (.bipush 100, 2) := by decide +kernel
theorem dX4_goesCoin_184 : decode cX4_goesCoin 184 = .ok (.if_icmp .ne 7, 3) := by decide +kernel
theorem dX4_goesCoin_187 : decode cX4_goesCoin 187 = .ok (.iconst 1, 1) := by decide +kernel
theorem dX4_goesCoin_188 : decode cX4_goesCoin 188 = .ok (.goto 4, 3) := by decide +kernel
theorem dX4_goesCoin_191 : decode cX4_goesCoin 191 = .ok (.iconst 0, 1) := by decide +kernel
theorem dX4_goesCoin_192 : decode cX4_goesCoin 192 = .ok (.istore 5, 2) := by decide +kernel
theorem dX4_goesCoin_194 : decode cX4_goesCoin 194 = .ok (.aload_n 0, 1) := by decide +kernel
theorem dX4_goesCoin_195 : decode cX4_goesCoin 195 = .ok (.iload_n 3, 1) := by decide +kernel
theorem dX4_goesCoin_196 : decode cX4_goesCoin 196 = .ok (.iconst 3, 1) := by decide +kernel
theorem dX4_goesCoin_197 : decode cX4_goesCoin 197 = .ok (.iload 4, 2) := by decide +kernel
theorem dX4_goesCoin_199 : decode cX4_goesCoin 199 = .ok (.ifCond .eq 7, 3) := by decide +kernel
theorem dX4_goesCoin_202 : decode cX4_goesCoin 202 = .ok (.iconst 1, 1) := by decide +kernel
theorem dX4_goesCoin_203 : decode cX4_goesCoin 203 = .ok (.goto 13, 3) := by decide +kernel
theorem dX4_goesCoin_206 : decode cX4_goesCoin 206 = .ok (.iload 5, 2) := by decide +kernel
theorem dX4_goesCoin_208 : decode cX4_goesCoin 208 = .ok (.ifCond .eq 7, 3) := by decide +kernel
theorem dX4_goesCoin_211 : decode cX4_goesCoin 211 = .ok (.iconst 2, 1) := by decide +kernel
theorem dX4_goesCoin_212 : decode cX4_goesCoin 212 = .ok (.goto 4, 3) := by decide +kernel
theorem dX4_goesCoin_215 : decode cX4_goesCoin 215 = .ok (.iconst 0, 1) := by decide +kernel
theorem dX4_goesCoin_216 : decode cX4_goesCoin 216 = .ok (.invokevirtual 65, 3) := by decide +kernel
theorem dX4_goesCoin_219 : decode cX4_goesCoin 219 = .ok (.iload 4, 2) := by decide +kernel
theorem dX4_goesCoin_221 : decode cX4_goesCoin 221 = .ok (.ifCond .ne 8, 3) := by decide +kernel
theorem dX4_goesCoin_224 : decode cX4_goesCoin 224 = .ok (.iload 5, 2) := by decide +kernel
theorem dX4_goesCoin_226 : decode cX4_goesCoin 226 = .ok (.ifCond .eq 7, 3) := by decide +kernel
theorem dX4_goesCoin_229 : decode cX4_goesCoin 229 = .ok (.aload_n 0, 1) := by decide +kernel
theorem dX4_goesCoin_230 : decode cX4_goesCoin 230 = .ok (.invokevirtual 225, 3) := by decide +kernel
theorem dX4_goesCoin_233 : decode cX4_goesCoin 233 = .ok (.iconst 1, 1) := by decide +kernel
theorem dX4_goesCoin_234 : decode cX4_goesCoin 234 = .ok (.ireturn, 1) := by decide +kernel
theorem dX4_goesTwo_0 : decode cX4_goesTwo 0 = .ok (.aload_n 0, 1) := by decide +kernel
theorem dX4_goesTwo_1 : decode cX4_goesTwo 1 = .ok (.iconst 0, 1) := by decide +kernel
theorem dX4_goesTwo_2 : decode cX4_goesTwo 2 = .ok (.iload_n 2, 1) := by decide +kernel
theorem dX4_goesTwo_3 : decode cX4_goesTwo 3 = .ok (.iconst 1, 1) := by decide +kernel
theorem dX4_goesTwo_4 : decode cX4_goesTwo 4 = .ok (.isub, 1) := by decide +kernel
theorem dX4_goesTwo_5 : decode cX4_goesTwo 5 = .ok (.invokevirtual 234, 3) := by decide +kernel
theorem dX4_goesTwo_8 : decode cX4_goesTwo 8 = .ok (.ifCond .ne 5, 3) := by decide +kernel
theorem dX4_goesTwo_11 : decode cX4_goesTwo 11 = .ok (.iconst 0, 1) := by decide +kernel
theorem dX4_goesTwo_12 : decode cX4_goesTwo 12 = .ok (.ireturn, 1) := by decide +kernel
theorem dX4_goesTwo_13 : decode cX4_goesTwo 13 = .ok (.aload_n 0, 1) := by decide +kernel
theorem dX4_goesTwo_14 : decode cX4_goesTwo 14 = .ok (.getfield 212, 3) := by decide +kernel
theorem dX4_goesTwo_17 : decode cX4_goesTwo 17 = .ok (.istore 4, 2) := by decide +kernel
theorem dX4_goesTwo_19 : decode cX4_goesTwo 19 = .ok (.aload_n 0, 1) := by decide +kernel
theorem dX4_goesTwo_20 : decode cX4_goesTwo 20 = .ok (.iconst 0, 1) := by decide +kernel
theorem dX4_goesTwo_21 : decode cX4_goesTwo 21 = .ok (.iload_n 3, 1) := by decide +kernel
theorem dX4_goesTwo_22 : decode cX4_goesTwo 22 = .ok (.invokevirtual 234, 3) := by decide +kernel
theorem dX4_goesTwo_25 : decode cX4_goesTwo 25 = .ok (.ifCond .ne 5, 3) := by decide +kernel
theorem dX4_goesTwo_28 : decode cX4_goesTwo 28 = .ok (.iconst 0, 1) := by decide +kernel
theorem dX4_goesTwo_29 : decode cX4_goesTwo 29 = .ok (.ireturn, 1) := by decide +kernel
theorem dX4_goesTwo_30 : decode cX4_goesTwo 30 = .ok (.aload_n 0, 1) := by decide +kernel
theorem dX4_goesTwo_31 : decode cX4_goesTwo 31 = .ok (.getfield 7, 3) := by decide +kernel
theorem dX4_goesTwo_34 : decode cX4_goesTwo 34 = .ok (.iload_n 1, 1) := by decide +kernel
theorem dX4_goesTwo_35 : decode cX4_goesTwo 35 = .ok (.iload 4, 2) := by decide +kernel
theorem dX4_goesTwo_37 : decode cX4_goesTwo 37 = .ok (.iadd, 1) := by decide +kernel
theorem dX4_goesTwo_38 : decode cX4_goesTwo 38 = .ok (.aload_n 0, 1) := by decide +kernel
theorem dX4_goesTwo_39 : decode cX4_goesTwo 39 = .ok (.getfield 212, 3) := by decide +kernel
theorem dX4_goesTwo_42 : decode cX4_goesTwo 42 = .ok (.iastore, 1) := by decide +kernel
theorem dX4_goesTwo_43 : decode cX4_goesTwo 43 = .ok (.aload_n 0, 1) := by decide +kernel
theorem dX4_goesTwo_44 : decode cX4_goesTwo 44 = .ok (.invokevirtual 225, 3) := by decide +kernel
theorem dX4_goesTwo_47 : decode cX4_goesTwo 47 = .ok (.iconst 1, 1) := by decide +kernel
theorem dX4_goesTwo_48 : decode cX4_goesTwo 48 = .ok (.ireturn, 1) := by decide +kernel
theorem dX4_goesLoan_0 : decode cX4_goesLoan 0 = .ok (.aload_n 0, 1) := by decide +kernel
theorem dX4_goesLoan_1 : decode cX4_goesLoan 1 = .ok (.getfield 7, 3) := by decide +kernel
theorem dX4_goesLoan_4 : decode cX4_goesLoan 4 = .ok (.iconst 1, 1) := by decide +kernel
theorem dX4_goesLoan_5 : decode cX4_goesLoan 5 = .ok (.iaload, 1) := by decide +kernel
theorem dX4_goesLoan_6 : decode cX4_goesLoan 6 = .ok (.bipush 8, 2) := by decide +kernel
theorem dX4_goesLoan_8 : decode cX4_goesLoan 8 = .ok (.if_icmp .eq 12, 3) := by decide +kernel
theorem dX4_goesLoan_11 : decode cX4_goesLoan 11 = .ok (.aload_n 0, 1) := by decide +kernel
theorem dX4_goesLoan_12 : decode cX4_goesLoan 12 = .ok (.iconst 0, 1) := by decide +kernel
theorem dX4_goesLoan_13 : decode cX4_goesLoan 13 = .ok (.iconst 3, 1) := by decide +kernel
theorem dX4_goesLoan_14 : decode cX4_goesLoan 14 = .ok (.invokevirtual 234, 3) := by decide +kernel
theorem dX4_goesLoan_17 : decode cX4_goesLoan 17 = .ok (.ifCond .ne 5, 3) := by decide +kernel
theorem dX4_goesLoan_20 : decode cX4_goesLoan 20 = .ok (.iconst 0, 1) := by decide +kernel
theorem dX4_goesLoan_21 : decode cX4_goesLoan 21 = .ok (.ireturn, 1) := by decide +kernel
theorem dX4_goesLoan_22 : decode cX4_goesLoan 22 = .ok (.aload_n 0, 1) := by decide +kernel
theorem dX4_goesLoan_23 : decode cX4_goesLoan 23 = .ok (.getfield 212, 3) := by decide +kernel
theorem dX4_goesLoan_26 : decode cX4_goesLoan 26 = .ok (.istore_n 1, 1) := by decide +kernel
theorem dX4_goesLoan_27 : decode cX4_goesLoan 27 = .ok (.aload_n 0, 1) := by decide +kernel
theorem dX4_goesLoan_28 : decode cX4_goesLoan 28 = .ok (.invokevirtual 225, 3) := by decide +kernel
theorem dX4_goesLoan_31 : decode cX4_goesLoan 31 = .ok (.aload_n 0, 1) := by decide +kernel
theorem dX4_goesLoan_32 : decode cX4_goesLoan 32 = .ok (.bipush 116, 2) := by decide +kernel
theorem dX4_goesLoan_34 : decode cX4_goesLoan 34 = .ok (.bipush 111, 2) := by decide +kernel
theorem dX4_goesLoan_36 : decode cX4_goesLoan 36 = .ok (.invokevirtual 231, 3) := by decide +kernel
theorem dX4_goesLoan_39 : decode cX4_goesLoan 39 = .ok (.ifCond .eq 20, 3) := by decide +kernel
theorem dX4_goesLoan_42 : decode cX4_goesLoan 42 = .ok (.aload_n 0, 1) := by decide +kernel
theorem dX4_goesLoan_43 : decode cX4_goesLoan 43 = .ok (.iconst 0, 1) := by decide +kernel
theorem dX4_goesLoan_44 : decode cX4_goesLoan 44 = .ok (.iconst 3, 1) := by decide +kernel
theorem dX4_goesLoan_45 : decode cX4_goesLoan 45 = .ok (.invokevirtual 234, 3) := by decide +kernel
theorem dX4_goesLoan_48 : decode cX4_goesLoan 48 = .ok (.ifCond .eq 11, 3) := by decide +kernel
theorem dX4_goesLoan_51 : decode cX4_goesLoan 51 = .ok (.aload_n 0, 1) := by decide +kernel
theorem dX4_goesLoan_52 : decode cX4_goesLoan 52 = .ok (.getfield 212, 3) := by decide +kernel
theorem dX4_goesLoan_55 : decode cX4_goesLoan 55 = .ok (.iload_n 1, 1) := by decide +kernel
theorem dX4_goesLoan_56 : decode cX4_goesLoan 56 = .ok (.if_icmp .ne 5, 3) := by decide +kernel
theorem dX4_goesLoan_59 : decode cX4_goesLoan 59 = .ok (.iconst 0, 1) := by decide +kernel
theorem dX4_goesLoan_60 : decode cX4_goesLoan 60 = .ok (.ireturn, 1) := by decide +kernel
theorem dX4_goesLoan_61 : decode cX4_goesLoan 61 = .ok (.aload_n 0, 1) := by decide +kernel
theorem dX4_goesLoan_62 : decode cX4_goesLoan 62 = .ok (.getfield 212, 3) := by decide +kernel
theorem dX4_goesLoan_65 : decode cX4_goesLoan 65 = .ok (.istore_n 2, 1) := by decide +kernel
theorem dX4_goesLoan_66 : decode cX4_goesLoan 66 = .ok (.aload_n 0, 1) := by decide +kernel
theorem dX4_goesLoan_67 : decode cX4_goesLoan 67 = .ok (.iconst 1, 1) := by decide +kernel
theorem dX4_goesLoan_68 : decode cX4_goesLoan 68 = .ok (.sipush 9999, 3) := by decide +kernel
theorem dX4_goesLoan_71 : decode cX4_goesLoan 71 = .ok (.invokevirtual 234, 3) := by decide +kernel
theorem dX4_goesLoan_74 : decode cX4_goesLoan 74 = .ok (.ifCond .ne 5, 3) := by decide +kernel
theorem dX4_goesLoan_77 : decode cX4_goesLoan 77 = .ok (.iconst 0, 1) := by decide +kernel
theorem dX4_goesLoan_78 : decode cX4_goesLoan 78 = .ok (.ireturn, 1) := by decide +kernel
theorem dX4_goesLoan_79 : decode cX4_goesLoan 79 = .ok (.aload_n 0, 1) := by decide +kernel
theorem dX4_goesLoan_80 : decode cX4_goesLoan 80 = .ok (.getfield 212, 3) := by decide +kernel
theorem dX4_goesLoan_83 : decode cX4_goesLoan 83 = .ok (.istore_n 3, 1) := by decide +kernel
theorem dX4_goesLoan_84 : decode cX4_goesLoan 84 = .ok (.aload_n 0, 1) := by decide +kernel
theorem dX4_goesLoan_85 : decode cX4_goesLoan 85 = .ok (.invokevirtual 225, 3) := by decide +kernel
theorem dX4_goesLoan_88 : decode cX4_goesLoan 88 = .ok (.aload_n 0, 1) := by decide +kernel
theorem dX4_goesLoan_89 : decode cX4_goesLoan 89 = .ok (.bipush 105, 2) := by decide +kernel
theorem dX4_goesLoan_91 : decode cX4_goesLoan 91 = .ok (.bipush 110, 2) := by decide +kernel
theorem dX4_goesLoan_93 : decode cX4_goesLoan 93 = .ok (.invokevirtual 231, 3) := by decide +kernel
theorem dX4_goesLoan_96 : decode cX4_goesLoan 96 = .ok (.ifCond .eq 13, 3) := by decide +kernel
theorem dX4_goesLoan_99 : decode cX4_goesLoan 99 = .ok (.aload_n 0, 1) := by decide +kernel
theorem dX4_goesLoan_100 : decode cX4_goesLoan 100 = .ok (.iconst 1, 1) := by decide +kernel
theorem dX4_goesLoan_101 : decode cX4_goesLoan 101 = .ok (.bipush 120, 2) := by decide +kernel
theorem dX4_goesLoan_103 : decode cX4_goesLoan 103 = .ok (.invokevirtual 234, 3) := by decide +kernel
theorem dX4_goesLoan_106 : decode cX4_goesLoan 106 = .ok (.ifCond .ne 5, 3) := by decide +kernel
theorem dX4_goesLoan_109 : decode cX4_goesLoan 109 = .ok (.iconst 0, 1) := by decide +kernel
theorem dX4_goesLoan_110 : decode cX4_goesLoan 110 = .ok (.ireturn, 1) := by decide +kernel
theorem dX4_goesLoan_111 : decode cX4_goesLoan 111 = .ok (.aload_n 0, 1) := by decide +kernel
theorem dX4_goesLoan_112 : decode cX4_goesLoan 112 = .ok (.iload_n 1, 1) := by decide +kernel
theorem dX4_goesLoan_113 : decode cX4_goesLoan 113 = .ok (.iload_n 2, 1) := by decide +kernel
theorem dX4_goesLoan_114 : decode cX4_goesLoan 114 = .ok (.iload_n 3, 1) := by decide +kernel
theorem dX4_goesLoan_115 : decode cX4_goesLoan 115 = .ok (.aload_n 0, 1) := by decide +kernel
theorem dX4_goesLoan_116 : decode cX4_goesLoan 116 = .ok (.getfield 212, 3) := by decide +kernel
theorem dX4_goesLoan_119 : decode cX4_goesLoan 119 = .ok (.invokevirtual 142, 3) := by decide +kernel
theorem dX4_goesLoan_122 : decode cX4_goesLoan 122 = .ok (.istore 4, 2) := by decide +kernel
theorem dX4_goesLoan_124 : decode cX4_goesLoan 124 = .ok (.aload_n 0, 1) := by decide +kernel
theorem dX4_goesLoan_125 : decode cX4_goesLoan 125 = .ok (.invokevirtual 225, 3) := by decide +kernel
theorem dX4_goesLoan_128 : decode cX4_goesLoan 128 = .ok (.iconst 1, 1) := by decide +kernel
theorem dX4_goesLoan_129 : decode cX4_goesLoan 129 = .ok (.ireturn, 1) := by decide +kernel
theorem dX4_goesItem_0 : decode cX4_goesItem 0 = .ok (.aload_n 0, 1) := by decide +kernel
theorem dX4_goesItem_1 : decode cX4_goesItem 1 = .ok (.invokevirtual 237, 3) := by decide +kernel
theorem dX4_goesItem_4 : decode cX4_goesItem 4 = .ok (.istore_n 1, 1) := by decide +kernel
theorem dX4_goesItem_5 : decode cX4_goesItem 5 = .ok (.iload_n 1, 1) := by decide +kernel
theorem dX4_goesItem_6 : decode cX4_goesItem 6 = .ok (.ifCond .lt 9, 3) := by decide +kernel
theorem dX4_goesItem_9 : decode cX4_goesItem 9 = .ok (.aload_n 0, 1) := by decide +kernel
theorem dX4_goesItem_10 : decode cX4_goesItem 10 = .ok (.iload_n 1, 1) := by decide +kernel
theorem dX4_goesItem_11 : decode cX4_goesItem 11 = .ok (.invokevirtual 240, 3) := by decide +kernel
theorem dX4_goesItem_14 : decode cX4_goesItem 14 = .ok (.ireturn, 1) := by decide +kernel
theorem dX4_goesItem_15 : decode cX4_goesItem 15 = .ok (.aload_n 0, 1) := by decide +kernel
theorem dX4_goesItem_16 : decode cX4_goesItem 16 = .ok (.bipush 115, 2) := by decide +kernel
theorem dX4_goesItem_18 : decode cX4_goesItem 18 = .ok (.bipush 111, 2) := by decide +kernel
theorem dX4_goesItem_20 : decode cX4_goesItem 20 = .ok (.bipush 105, 2) := by decide +kernel
theorem dX4_goesItem_22 : decode cX4_goesItem 22 = .ok (.bipush 108, 2) := by decide +kernel
theorem dX4_goesItem_24 : decode cX4_goesItem 24 = .ok (.invokevirtual 222, 3) := by decide +kernel
theorem dX4_goesItem_27 : decode cX4_goesItem 27 = .ok (.ifCond .eq 12, 3) := by decide +kernel
theorem dX4_goesItem_30 : decode cX4_goesItem 30 = .ok (.aload_n 0, 1) := by decide +kernel
theorem dX4_goesItem_31 : decode cX4_goesItem 31 = .ok (.iconst 4, 1) := by decide +kernel
theorem dX4_goesItem_32 : decode cX4_goesItem 32 = .ok (.iconst 4, 1) := by decide +kernel
theorem dX4_goesItem_33 : decode cX4_goesItem 33 = .ok (.bipush 9, 2) := by decide +kernel
theorem dX4_goesItem_35 : decode cX4_goesItem 35 = .ok (.invokevirtual 243, 3) := by decide +kernel
theorem dX4_goesItem_38 : decode cX4_goesItem 38 = .ok (.ireturn, 1) := by decide +kernel
theorem dX4_goesItem_39 : decode cX4_goesItem 39 = .ok (.aload_n 0, 1) := by decide +kernel
theorem dX4_goesItem_40 : decode cX4_goesItem 40 = .ok (.iconst 5, 1) := by decide +kernel
theorem dX4_goesItem_41 : decode cX4_goesItem 41 = .ok (.invokevirtual 215, 3) := by decide +kernel
theorem dX4_goesItem_44 : decode cX4_goesItem 44 = .ok (.ifCond .eq 42, 3) := by decide +kernel
theorem dX4_goesItem_47 : decode cX4_goesItem 47 = .ok (.aload_n 0, 1) := by decide +kernel
theorem dX4_goesItem_48 : decode cX4_goesItem 48 = .ok (.iconst 0, 1) := by decide +kernel
theorem dX4_goesItem_49 : decode cX4_goesItem 49 = .ok (.bipush 112, 2) := by decide +kernel
theorem dX4_goesItem_51 : decode cX4_goesItem 51 = .ok (.bipush 114, 2) := by decide +kernel
theorem dX4_goesItem_53 : decode cX4_goesItem 53 = .ok (.bipush 105, 2) := by decide +kernel
theorem dX4_goesItem_55 : decode cX4_goesItem 55 = .ok (.invokevirtual 218, 3) := by decide +kernel
theorem dX4_goesItem_58 : decode cX4_goesItem 58 = .ok (.ifCond .eq 28, 3) := by decide +kernel
theorem dX4_goesItem_61 : decode cX4_goesItem 61 = .ok (.aload_n 0, 1) := by decide +kernel
theorem dX4_goesItem_62 : decode cX4_goesItem 62 = .ok (.iconst 2, 1) := by decide +kernel
theorem dX4_goesItem_63 : decode cX4_goesItem 63 = .ok (.bipush 105, 2) := by decide +kernel
theorem dX4_goesItem_65 : decode cX4_goesItem 65 = .ok (.bipush 99, 2) := by decide +kernel
theorem dX4_goesItem_67 : decode cX4_goesItem 67 = .ok (.bipush 101, 2) := by decide +kernel
theorem dX4_goesItem_69 : decode cX4_goesItem 69 = .ok (.invokevirtual 218, 3) := by decide +kernel
theorem dX4_goesItem_72 : decode cX4_goesItem 72 = .ok (.ifCond .eq 14, 3) := by decide +kernel
theorem dX4_goesItem_75 : decode cX4_goesItem 75 = .ok (.aload_n 0, 1) := by decide +kernel
theorem dX4_goesItem_76 : decode cX4_goesItem 76 = .ok (.bipush 8, 2) := by decide +kernel
theorem dX4_goesItem_78 : decode cX4_goesItem 78 = .ok (.bipush 12, 2) := by decide +kernel
theorem dX4_goesItem_80 : decode cX4_goesItem 80 = .ok (.bipush 99, 2) := by decide +kernel
theorem dX4_goesItem_82 : decode cX4_goesItem 82 = .ok (.invokevirtual 243, 3) := by decide +kernel
theorem dX4_goesItem_85 : decode cX4_goesItem 85 = .ok (.ireturn, 1) := by decide +kernel
theorem dX4_goesItem_86 : decode cX4_goesItem 86 = .ok (.aload_n 0, 1) := by decide +kernel
theorem dX4_goesItem_87 : decode cX4_goesItem 87 = .ok (.bipush 108, 2) := by decide +kernel
theorem dX4_goesItem_89 : decode cX4_goesItem 89 = .ok (.bipush 111, 2) := by decide +kernel
theorem dX4_goesItem_91 : decode cX4_goesItem 91 = .ok (.bipush 97, 2) := by decide +kernel
theorem dX4_goesItem_93 : decode cX4_goesItem 93 = .ok (.bipush 110, 2) := by decide +kernel
theorem dX4_goesItem_95 : decode cX4_goesItem 95 = .ok (.invokevirtual 222, 3) := by decide +kernel
theorem dX4_goesItem_98 : decode cX4_goesItem 98 = .ok (.ifCond .eq 14, 3) := by decide +kernel
theorem dX4_goesItem_101 : decode cX4_goesItem 101 = .ok (.aload_n 0, 1) := by decide +kernel
theorem dX4_goesItem_102 : decode cX4_goesItem 102 = .ok (.invokevirtual 247, 3) := by decide +kernel
theorem dX4_goesItem_105 : decode cX4_goesItem 105 = .ok (.ifCond .eq 7, 3) := by decide +kernel
theorem dX4_goesItem_108 : decode cX4_goesItem 108 = .ok (.iconst 1, 1) := by decide +kernel
theorem dX4_goesItem_109 : decode cX4_goesItem 109 = .ok (.goto 4, 3) := by decide +kernel
theorem dX4_goesItem_112 : decode cX4_goesItem 112 = .ok (.iconst 0, 1) := by decide +kernel
theorem dX4_goesItem_113 : decode cX4_goesItem 113 = .ok (.ireturn, 1) := by decide +kernel
theorem dX4_market_0 : decode cX4_market 0 = .ok (.aload_n 0, 1) := by decide +kernel
theorem dX4_market_1 : decode cX4_market 1 = .ok (.invokevirtual 160, 3) := by decide +kernel
theorem dX4_market_4 : decode cX4_market 4 = .ok (.aload_n 0, 1) := by decide +kernel
theorem dX4_market_5 : decode cX4_market 5 = .ok (.iconst 0, 1) := by decide +kernel
theorem dX4_market_6 : decode cX4_market 6 = .ok (.putfield 194, 3) := by decide +kernel
theorem dX4_market_9 : decode cX4_market 9 = .ok (.iconst 0, 1) := by decide +kernel
theorem dX4_market_10 : decode cX4_market 10 = .ok (.istore_n 1, 1) := by decide +kernel
theorem dX4_market_11 : decode cX4_market 11 = .ok (.iconst 1, 1) := by decide +kernel
theorem dX4_market_12 : decode cX4_market 12 = .ok (.istore_n 2, 1) := by decide +kernel
theorem dX4_market_13 : decode cX4_market 13 = .ok (.iload_n 2, 1) := by decide +kernel
theorem dX4_market_14 : decode cX4_market 14 = .ok (.ifCond .eq 68, 3) := by decide +kernel
theorem dX4_market_17 : decode cX4_market 17 = .ok (.aload_n 0, 1) := by decide +kernel
theorem dX4_market_18 : decode cX4_market 18 = .ok (.invokevirtual 225, 3) := by decide +kernel
theorem dX4_market_21 : decode cX4_market 21 = .ok (.aload_n 0, 1) := by decide +kernel
theorem dX4_market_22 : decode cX4_market 22 = .ok (.invokevirtual 250, 3) := by decide +kernel
theorem dX4_market_25 : decode cX4_market 25 = .ok (.ifCond .ne 15, 3) := by decide +kernel
theorem dX4_market_28 : decode cX4_market 28 = .ok (.iconst (-1), 1) := by decide +kernel
theorem dX4_market_29 : decode cX4_market 29 = .ok (.aload_n 0, 1) := by decide +kernel
theorem dX4_market_30 : decode cX4_market 30 = .ok (.getfield 197, 3) := by decide +kernel
theorem dX4_market_33 : decode cX4_market 33 = .ok (.isub, 1) := by decide +kernel
theorem dX4_market_34 : decode cX4_market 34 = .ok (.istore_n 1, 1) := by decide +kernel
theorem dX4_market_35 : decode cX4_market 35 = .ok (.iconst 0, 1) := by decide +kernel
theorem dX4_market_36 : decode cX4_market 36 = .ok (.istore_n 2, 1) := by decide +kernel
theorem dX4_market_37 : decode cX4_market 37 = .ok (.goto (-24), 3) := by decide +kernel
theorem dX4_market_40 : decode cX4_market 40 = .ok (.iinc 1 1, 3) := by decide +kernel
theorem dX4_market_43 : decode cX4_market 43 = .ok (.aload_n 0, 1) := by decide +kernel
theorem dX4_market_44 : decode cX4_market 44 = .ok (.getfield 209, 3) := by decide +kernel
theorem dX4_market_47 : decode cX4_market 47 = .ok (.iconst 3, 1) := by decide +kernel
theorem dX4_market_48 : decode cX4_market 48 = .ok (.if_icmp .ne 7, 3) := by decide +kernel
theorem dX4_market_51 : decode cX4_market 51 = .ok (.iconst 1, 1) := by decide +kernel
theorem dX4_market_52 : decode cX4_market 52 = .ok (.goto 4, 3) := by decide +kernel
theorem dX4_market_55 : decode cX4_market 55 = .ok (.iconst 0, 1) := by decide +kernel
theorem dX4_market_56 : decode cX4_market 56 = .ok (.istore_n 2, 1) := by decide +kernel
theorem dX4_market_57 : decode cX4_market 57 = .ok (.iload_n 2, 1) := by decide +kernel
theorem dX4_market_58 : decode cX4_market 58 = .ok (.ifCond .ne 10, 3) := by decide +kernel
theorem dX4_market_61 : decode cX4_market 61 = .ok (.aload_n 0, 1) := by decide +kernel
theorem dX4_market_62 : decode cX4_market 62 = .ok (.getfield 209, 3) := by decide +kernel
theorem dX4_market_65 : decode cX4_market 65 = .ok (.ifCond .ne 7, 3) := by decide +kernel
theorem dX4_market_68 : decode cX4_market 68 = .ok (.iload_n 1, 1) := by decide +kernel
theorem dX4_market_69 : decode cX4_market 69 = .ok (.goto 9, 3) := by decide +kernel
theorem dX4_market_72 : decode cX4_market 72 = .ok (.iconst (-1), 1) := by decide +kernel
theorem dX4_market_73 : decode cX4_market 73 = .ok (.aload_n 0, 1) := by decide +kernel
theorem dX4_market_74 : decode cX4_market 74 = .ok (.getfield 197, 3) := by decide +kernel
theorem dX4_market_77 : decode cX4_market 77 = .ok (.isub, 1) := by decide +kernel
theorem dX4_market_78 : decode cX4_market 78 = .ok (.istore_n 1, 1) := by decide +kernel
theorem dX4_market_79 : decode cX4_market 79 = .ok (.goto (-66), 3) := by decide +kernel
theorem dX4_market_82 : decode cX4_market 82 = .ok (.iload_n 1, 1) := by decide +kernel
theorem dX4_market_83 : decode cX4_market 83 = .ok (.ifCond .ge 7, 3) := by decide +kernel
theorem dX4_market_86 : decode cX4_market 86 = .ok (.aload_n 0, 1) := by decide +kernel
theorem dX4_market_87 : decode cX4_market 87 = .ok (.invokevirtual 163, 3) := by decide +kernel
theorem dX4_market_90 : decode cX4_market 90 = .ok (.aload_n 0, 1) := by decide +kernel
theorem dX4_market_91 : decode cX4_market 91 = .ok (.iconst 0, 1) := by decide +kernel
theorem dX4_market_92 : decode cX4_market 92 = .ok (.putfield 190, 3) := by decide +kernel
theorem dX4_market_95 : decode cX4_market 95 = .ok (.iload_n 1, 1) := by decide +kernel
theorem dX4_market_96 : decode cX4_market 96 = .ok (.ireturn, 1) := by decide +kernel
theorem dX4_isSheet_0 : decode cX4_isSheet 0 = .ok (.iload_n 0, 1) := by decide +kernel
theorem dX4_isSheet_1 : decode cX4_isSheet 1 = .ok (.ifCond .lt 12, 3) := by decide +kernel
theorem dX4_isSheet_4 : decode cX4_isSheet 4 = .ok (.iload_n 0, 1) := by decide +kernel
theorem dX4_isSheet_5 : decode cX4_isSheet 5 = .ok (.iconst 4, 1) := by decide +kernel
theorem dX4_isSheet_6 : decode cX4_isSheet 6 = .ok (.if_icmp .ge 7, 3) := by decide +kernel
theorem dX4_isSheet_9 : decode cX4_isSheet 9 = .ok (.iconst 1, 1) := by decide +kernel
theorem dX4_isSheet_10 : decode cX4_isSheet 10 = .ok (.goto 4, 3) := by decide +kernel
theorem dX4_isSheet_13 : decode cX4_isSheet 13 = .ok (.iconst 0, 1) := by decide +kernel
theorem dX4_isSheet_14 : decode cX4_isSheet 14 = .ok (.ireturn, 1) := by decide +kernel
theorem dX4_narrow_0 : decode cX4_narrow 0 = .ok (.iload_n 0, 1) := by decide +kernel
theorem dX4_narrow_1 : decode cX4_narrow 1 = .ok (.bipush 8, 2) := by decide +kernel
theorem dX4_narrow_3 : decode cX4_narrow 3 = .ok (.if_icmp .ne 10, 3) := by decide +kernel
theorem dX4_narrow_6 : decode cX4_narrow 6 = .ok (.lload_n 1, 1) := by decide +kernel
theorem dX4_narrow_7 : decode cX4_narrow 7 = .ok (.l2i, 1) := by decide +kernel
theorem dX4_narrow_8 : decode cX4_narrow 8 = .ok (.i2b, 1) := by decide +kernel
theorem dX4_narrow_9 : decode cX4_narrow 9 = .ok (.i2l, 1) := by decide +kernel
theorem dX4_narrow_10 : decode cX4_narrow 10 = .ok (.goto 17, 3) := by decide +kernel
theorem dX4_narrow_13 : decode cX4_narrow 13 = .ok (.iload_n 0, 1) := by decide +kernel
theorem dX4_narrow_14 : decode cX4_narrow 14 = .ok (.bipush 16, 2) := by decide +kernel
theorem dX4_narrow_16 : decode cX4_narrow 16 = .ok (.if_icmp .ne 10, 3) := by decide +kernel
theorem dX4_narrow_19 : decode cX4_narrow 19 = .ok (.lload_n 1, 1) := by decide +kernel
theorem dX4_narrow_20 : decode cX4_narrow 20 = .ok (.l2i, 1) := by decide +kernel
theorem dX4_narrow_21 : decode cX4_narrow 21 = .ok (.i2s, 1) := by decide +kernel
theorem dX4_narrow_22 : decode cX4_narrow 22 = .ok (.i2l, 1) := by decide +kernel
theorem dX4_narrow_23 : decode cX4_narrow 23 = .ok (.goto 4, 3) := by decide +kernel
theorem dX4_narrow_26 : decode cX4_narrow 26 = .ok (.lload_n 1, 1) := by decide +kernel
theorem dX4_narrow_27 : decode cX4_narrow 27 = .ok (.lreturn, 1) := by decide +kernel
theorem dX4_sheet_0 : decode cX4_sheet 0 = .ok (.iload_n 1, 1) := by decide +kernel
theorem dX4_sheet_1 : decode cX4_sheet 1 = .ok (.invokestatic 253, 3) := by decide +kernel
theorem dX4_sheet_4 : decode cX4_sheet 4 = .ok (.ifCond .eq 25, 3) := by decide +kernel
theorem dX4_sheet_7 : decode cX4_sheet 7 = .ok (.iload_n 2, 1) := by decide +kernel
theorem dX4_sheet_8 : decode cX4_sheet 8 = .ok (.ifCond .eq 28, 3) := by decide +kernel
theorem dX4_sheet_11 : decode cX4_sheet 11 = .ok (.iload_n 2, 1) := by decide +kernel
theorem dX4_sheet_12 : decode cX4_sheet 12 = .ok (.bipush 8, 2) := by decide +kernel
theorem dX4_sheet_14 : decode cX4_sheet 14 = .ok (.if_icmp .eq 22, 3) := by decide +kernel
theorem dX4_sheet_17 : decode cX4_sheet 17 = .ok (.iload_n 2, 1) := by decide +kernel
theorem dX4_sheet_18 : decode cX4_sheet 18 = .ok (.bipush 16, 2) := by decide +kernel
theorem dX4_sheet_20 : decode cX4_sheet 20 = .ok (.if_icmp .eq 16, 3) := by decide +kernel
theorem dX4_sheet_23 : decode cX4_sheet 23 = .ok (.iload_n 2, 1) := by decide +kernel
theorem dX4_sheet_24 : decode cX4_sheet 24 = .ok (.bipush 64, 2) := by decide +kernel
theorem dX4_sheet_26 : decode cX4_sheet 26 = .ok (.if_icmp .eq 10, 3) := by decide +kernel
theorem dX4_sheet_29 : decode cX4_sheet 29 = .ok (.aload_n 0, 1) := by decide +kernel
theorem dX4_sheet_30 : decode cX4_sheet 30 = .ok (.ldc 42, 2) := by decide +kernel
theorem dX4_sheet_32 : decode cX4_sheet 32 = .ok (.invokevirtual 57, 3) := by decide +kernel
theorem dX4_sheet_35 : decode cX4_sheet 35 = .ok (.ireturn, 1) := by decide +kernel
theorem dX4_sheet_36 : decode cX4_sheet 36 = .ok (.iload_n 3, 1) := by decide +kernel
theorem dX4_sheet_37 : decode cX4_sheet 37 = .ok (.ifCond .ge 10, 3) := by decide +kernel
theorem dX4_sheet_40 : decode cX4_sheet 40 = .ok (.aload_n 0, 1) := by decide +kernel
theorem dX4_sheet_41 : decode cX4_sheet 41 = .ok (.ldc 180, 2) := by decide +kernel
theorem dX4_sheet_43 : decode cX4_sheet 43 = .ok (.invokevirtual 57, 3) := by decide +kernel
theorem dX4_sheet_46 : decode cX4_sheet 46 = .ok (.ireturn, 1) := by decide +kernel
theorem dX4_sheet_47 : decode cX4_sheet 47 = .ok (.iload_n 3, 1) := by decide +kernel
theorem dX4_sheet_48 : decode cX4_sheet 48 = .ok (.bipush 40, 2) := by decide +kernel
theorem dX4_sheet_50 : decode cX4_sheet 50 = .ok (.if_icmp .le 10, 3) := by decide +kernel
theorem dX4_sheet_53 : decode cX4_sheet 53 = .ok (.aload_n 0, 1) := by decide +kernel
theorem dX4_sheet_54 : decode cX4_sheet 54 = .ok (.ldc 42, 2) := by decide +kernel
theorem dX4_sheet_56 : decode cX4_sheet 56 = .ok (.invokevirtual 57, 3) := by decide +kernel
theorem dX4_sheet_59 : decode cX4_sheet 59 = .ok (.ireturn, 1) := by decide +kernel
theorem dX4_sheet_60 : decode cX4_sheet 60 = .ok (.aload_n 0, 1) := by decide +kernel
theorem dX4_sheet_61 : decode cX4_sheet 61 = .ok (.getfield 25, 3) := by decide +kernel
theorem dX4_sheet_64 : decode cX4_sheet 64 = .ok (.iload_n 1, 1) := by decide +kernel
theorem dX4_sheet_65 : decode cX4_sheet 65 = .ok (.iload_n 2, 1) := by decide +kernel
theorem dX4_sheet_66 : decode cX4_sheet 66 = .ok (.ifCond .ne 7, 3) := by decide +kernel
theorem dX4_sheet_69 : decode cX4_sheet 69 = .ok (.iconst (-1), 1) := by decide +kernel
theorem dX4_sheet_70 : decode cX4_sheet 70 = .ok (.goto 4, 3) := by decide +kernel
theorem dX4_sheet_73 : decode cX4_sheet 73 = .ok (.iload_n 2, 1) := by decide +kernel
theorem dX4_sheet_74 : decode cX4_sheet 74 = .ok (.iastore, 1) := by decide +kernel
theorem dX4_sheet_75 : decode cX4_sheet 75 = .ok (.aload_n 0, 1) := by decide +kernel
theorem dX4_sheet_76 : decode cX4_sheet 76 = .ok (.getfield 28, 3) := by decide +kernel
theorem dX4_sheet_79 : decode cX4_sheet 79 = .ok (.iload_n 1, 1) := by decide +kernel
theorem dX4_sheet_80 : decode cX4_sheet 80 = .ok (.iload_n 2, 1) := by decide +kernel
theorem dX4_sheet_81 : decode cX4_sheet 81 = .ok (.ifCond .ne 7, 3) := by decide +kernel
theorem dX4_sheet_84 : decode cX4_sheet 84 = .ok (.iconst 0, 1) := by decide +kernel
theorem dX4_sheet_85 : decode cX4_sheet 85 = .ok (.goto 4, 3) := by decide +kernel
theorem dX4_sheet_88 : decode cX4_sheet 88 = .ok (.iload_n 3, 1) := by decide +kernel
theorem dX4_sheet_89 : decode cX4_sheet 89 = .ok (.iastore, 1) := by decide +kernel
theorem dX4_sheet_90 : decode cX4_sheet 90 = .ok (.iconst 0, 1) := by decide +kernel
theorem dX4_sheet_91 : decode cX4_sheet 91 = .ok (.istore 4, 2) := by decide +kernel
theorem dX4_sheet_93 : decode cX4_sheet 93 = .ok (.iload 4, 2) := by decide +kernel
theorem dX4_sheet_95 : decode cX4_sheet 95 = .ok (.bipush 40, 2) := by decide +kernel
theorem dX4_sheet_97 : decode cX4_sheet 97 = .ok (.if_icmp .ge 22, 3) := by decide +kernel
theorem dX4_sheet_100 : decode cX4_sheet 100 = .ok (.aload_n 0, 1) := by decide +kernel
theorem dX4_sheet_101 : decode cX4_sheet 101 = .ok (.getfield 31, 3) := by decide +kernel
theorem dX4_sheet_104 : decode cX4_sheet 104 = .ok (.bipush 40, 2) := by decide +kernel
theorem dX4_sheet_106 : decode cX4_sheet 106 = .ok (.iload_n 1, 1) := by decide +kernel
theorem dX4_sheet_107 : decode cX4_sheet 107 = .ok (.imul, 1) := by decide +kernel
theorem dX4_sheet_108 : decode cX4_sheet 108 = .ok (.iload 4, 2) := by decide +kernel
theorem dX4_sheet_110 : decode cX4_sheet 110 = .ok (.iadd, 1) := by decide +kernel
theorem dX4_sheet_111 : decode cX4_sheet 111 = .ok (.lconst 0, 1) := by decide +kernel
theorem dX4_sheet_112 : decode cX4_sheet 112 = .ok (.lastore, 1) := by decide +kernel
theorem dX4_sheet_113 : decode cX4_sheet 113 = .ok (.iinc 4 1, 3) := by decide +kernel
theorem dX4_sheet_116 : decode cX4_sheet 116 = .ok (.goto (-23), 3) := by decide +kernel
theorem dX4_sheet_119 : decode cX4_sheet 119 = .ok (.aload_n 0, 1) := by decide +kernel
theorem dX4_sheet_120 : decode cX4_sheet 120 = .ok (.getfield 28, 3) := by decide +kernel
theorem dX4_sheet_123 : decode cX4_sheet 123 = .ok (.iload_n 1, 1) := by decide +kernel
theorem dX4_sheet_124 : decode cX4_sheet 124 = .ok (.iaload, 1) := by decide +kernel
theorem dX4_sheet_125 : decode cX4_sheet 125 = .ok (.ireturn, 1) := by decide +kernel
theorem dX4_write_0 : decode cX4_write 0 = .ok (.iload_n 1, 1) := by decide +kernel
theorem dX4_write_1 : decode cX4_write 1 = .ok (.invokestatic 253, 3) := by decide +kernel
theorem dX4_write_4 : decode cX4_write 4 = .ok (.ifCond .ne 11, 3) := by decide +kernel
theorem dX4_write_7 : decode cX4_write 7 = .ok (.aload_n 0, 1) := by decide +kernel
theorem dX4_write_8 : decode cX4_write 8 = .ok (.ldc 42, 2) := by decide +kernel
theorem dX4_write_10 : decode cX4_write 10 = .ok (.invokevirtual 57, 3) := by decide +kernel
theorem dX4_write_13 : decode cX4_write 13 = .ok (.i2l, 1) := by decide +kernel
theorem dX4_write_14 : decode cX4_write 14 = .ok (.lreturn, 1) := by decide +kernel
theorem dX4_write_15 : decode cX4_write 15 = .ok (.aload_n 0, 1) := by decide +kernel
theorem dX4_write_16 : decode cX4_write 16 = .ok (.getfield 25, 3) := by decide +kernel
theorem dX4_write_19 : decode cX4_write 19 = .ok (.iload_n 1, 1) := by decide +kernel
theorem dX4_write_20 : decode cX4_write 20 = .ok (.iaload, 1) := by decide +kernel
theorem dX4_write_21 : decode cX4_write 21 = .ok (.ifCond .ge 12, 3) := by decide +kernel
theorem dX4_write_24 : decode cX4_write 24 = .ok (.aload_n 0, 1) := by decide +kernel
theorem dX4_write_25 : decode cX4_write 25 = .ok (.ldc_w 256, 3) := by decide +kernel
theorem dX4_write_28 : decode cX4_write 28 = .ok (.invokevirtual 57, 3) := by decide +kernel
theorem dX4_write_31 : decode cX4_write 31 = .ok (.i2l, 1) := by decide +kernel
theorem dX4_write_32 : decode cX4_write 32 = .ok (.lreturn, 1) := by decide +kernel
theorem dX4_write_33 : decode cX4_write 33 = .ok (.iload_n 2, 1) := by decide +kernel
theorem dX4_write_34 : decode cX4_write 34 = .ok (.i2l, 1) := by decide +kernel
theorem dX4_write_35 : decode cX4_write 35 = .ok (.lconst 0, 1) := by decide +kernel
theorem dX4_write_36 : decode cX4_write 36 = .ok (.aload_n 0, 1) := by decide +kernel
theorem dX4_write_37 : decode cX4_write 37 = .ok (.getfield 28, 3) := by decide +kernel
theorem dX4_write_40 : decode cX4_write 40 = .ok (.iload_n 1, 1) := by decide +kernel
theorem dX4_write_41 : decode cX4_write 41 = .ok (.iaload, 1) := by decide +kernel
theorem dX4_write_42 : decode cX4_write 42 = .ok (.iconst 1, 1) := by decide +kernel
theorem dX4_write_43 : decode cX4_write 43 = .ok (.isub, 1) := by decide +kernel
theorem dX4_write_44 : decode cX4_write 44 = .ok (.i2l, 1) := by decide +kernel
theorem dX4_write_45 : decode cX4_write 45 = .ok (.invokestatic 49, 3) := by decide +kernel
theorem dX4_write_48 : decode cX4_write 48 = .ok (.ifCond .ne 11, 3) := by decide +kernel
theorem dX4_write_51 : decode cX4_write 51 = .ok (.aload_n 0, 1) := by decide +kernel
theorem dX4_write_52 : decode cX4_write 52 = .ok (.ldc 42, 2) := by decide +kernel
theorem dX4_write_54 : decode cX4_write 54 = .ok (.invokevirtual 57, 3) := by decide +kernel
theorem dX4_write_57 : decode cX4_write 57 = .ok (.i2l, 1) := by decide +kernel
theorem dX4_write_58 : decode cX4_write 58 = .ok (.lreturn, 1) := by decide +kernel
theorem dX4_write_59 : decode cX4_write 59 = .ok (.aload_n 0, 1) := by decide +kernel
theorem dX4_write_60 : decode cX4_write 60 = .ok (.getfield 31, 3) := by decide +kernel
theorem dX4_write_63 : decode cX4_write 63 = .ok (.bipush 40, 2) := by decide +kernel
theorem dX4_write_65 : decode cX4_write 65 = .ok (.iload_n 1, 1) := by decide +kernel
theorem dX4_write_66 : decode cX4_write 66 = .ok (.imul, 1) := by decide +kernel
theorem dX4_write_67 : decode cX4_write 67 = .ok (.iload_n 2, 1) := by decide +kernel
theorem dX4_write_68 : decode cX4_write 68 = .ok (.iadd, 1) := by decide +kernel
theorem dX4_write_69 : decode cX4_write 69 = .ok (.laload, 1) := by decide +kernel
theorem dX4_write_70 : decode cX4_write 70 = .ok (.lstore 5, 2) := by decide +kernel
theorem dX4_write_72 : decode cX4_write 72 = .ok (.aload_n 0, 1) := by decide +kernel
theorem dX4_write_73 : decode cX4_write 73 = .ok (.getfield 31, 3) := by decide +kernel
theorem dX4_write_76 : decode cX4_write 76 = .ok (.bipush 40, 2) := by decide +kernel
theorem dX4_write_78 : decode cX4_write 78 = .ok (.iload_n 1, 1) := by decide +kernel
theorem dX4_write_79 : decode cX4_write 79 = .ok (.imul, 1) := by decide +kernel
theorem dX4_write_80 : decode cX4_write 80 = .ok (.iload_n 2, 1) := by decide +kernel
theorem dX4_write_81 : decode cX4_write 81 = .ok (.iadd, 1) := by decide +kernel
theorem dX4_write_82 : decode cX4_write 82 = .ok (.aload_n 0, 1) := by decide +kernel
theorem dX4_write_83 : decode cX4_write 83 = .ok (.getfield 25, 3) := by decide +kernel
theorem dX4_write_86 : decode cX4_write 86 = .ok (.iload_n 1, 1) := by decide +kernel
theorem dX4_write_87 : decode cX4_write 87 = .ok (.iaload, 1) := by decide +kernel
theorem dX4_write_88 : decode cX4_write 88 = .ok (.lload_n 3, 1) := by decide +kernel
theorem dX4_write_89 : decode cX4_write 89 = .ok (.invokestatic 257, 3) := by decide +kernel
theorem dX4_write_92 : decode cX4_write 92 = .ok (.lastore, 1) := by decide +kernel
theorem dX4_write_93 : decode cX4_write 93 = .ok (.lload 5, 2) := by decide +kernel
theorem dX4_write_95 : decode cX4_write 95 = .ok (.lreturn, 1) := by decide +kernel
theorem dX4_copy_0 : decode cX4_copy 0 = .ok (.iload_n 1, 1) := by decide +kernel
theorem dX4_copy_1 : decode cX4_copy 1 = .ok (.invokestatic 253, 3) := by decide +kernel
theorem dX4_copy_4 : decode cX4_copy 4 = .ok (.ifCond .eq 10, 3) := by decide +kernel
theorem dX4_copy_7 : decode cX4_copy 7 = .ok (.iload_n 3, 1) := by decide +kernel
theorem dX4_copy_8 : decode cX4_copy 8 = .ok (.invokestatic 253, 3) := by decide +kernel
theorem dX4_copy_11 : decode cX4_copy 11 = .ok (.ifCond .ne 10, 3) := by decide +kernel
theorem dX4_copy_14 : decode cX4_copy 14 = .ok (.aload_n 0, 1) := by decide +kernel
theorem dX4_copy_15 : decode cX4_copy 15 = .ok (.ldc 42, 2) := by decide +kernel
theorem dX4_copy_17 : decode cX4_copy 17 = .ok (.invokevirtual 57, 3) := by decide +kernel
theorem dX4_copy_20 : decode cX4_copy 20 = .ok (.ireturn, 1) := by decide +kernel
theorem dX4_copy_21 : decode cX4_copy 21 = .ok (.aload_n 0, 1) := by decide +kernel
theorem dX4_copy_22 : decode cX4_copy 22 = .ok (.getfield 25, 3) := by decide +kernel
theorem dX4_copy_25 : decode cX4_copy 25 = .ok (.iload_n 1, 1) := by decide +kernel
theorem dX4_copy_26 : decode cX4_copy 26 = .ok (.iaload, 1) := by decide +kernel
theorem dX4_copy_27 : decode cX4_copy 27 = .ok (.ifCond .lt 12, 3) := by decide +kernel
theorem dX4_copy_30 : decode cX4_copy 30 = .ok (.aload_n 0, 1) := by decide +kernel
theorem dX4_copy_31 : decode cX4_copy 31 = .ok (.getfield 25, 3) := by decide +kernel
theorem dX4_copy_34 : decode cX4_copy 34 = .ok (.iload_n 3, 1) := by decide +kernel
theorem dX4_copy_35 : decode cX4_copy 35 = .ok (.iaload, 1) := by decide +kernel
theorem dX4_copy_36 : decode cX4_copy 36 = .ok (.ifCond .ge 11, 3) := by decide +kernel
theorem dX4_copy_39 : decode cX4_copy 39 = .ok (.aload_n 0, 1) := by decide +kernel
theorem dX4_copy_40 : decode cX4_copy 40 = .ok (.ldc_w 256, 3) := by decide +kernel
theorem dX4_copy_43 : decode cX4_copy 43 = .ok (.invokevirtual 57, 3) := by decide +kernel
theorem dX4_copy_46 : decode cX4_copy 46 = .ok (.ireturn, 1) := by decide +kernel
theorem dX4_copy_47 : decode cX4_copy 47 = .ok (.aload_n 0, 1) := by decide +kernel
theorem dX4_copy_48 : decode cX4_copy 48 = .ok (.getfield 25, 3) := by decide +kernel
theorem dX4_copy_51 : decode cX4_copy 51 = .ok (.iload_n 1, 1) := by decide +kernel
theorem dX4_copy_52 : decode cX4_copy 52 = .ok (.iaload, 1) := by decide +kernel
theorem dX4_copy_53 : decode cX4_copy 53 = .ok (.aload_n 0, 1) := by decide +kernel
theorem dX4_copy_54 : decode cX4_copy 54 = .ok (.getfield 25, 3) := by decide +kernel
theorem dX4_copy_57 : decode cX4_copy 57 = .ok (.iload_n 3, 1) := by decide +kernel
theorem dX4_copy_58 : decode cX4_copy 58 = .ok (.iaload, 1) := by decide +kernel
theorem dX4_copy_59 : decode cX4_copy 59 = .ok (.if_icmp .eq 10, 3) := by decide +kernel
theorem dX4_copy_62 : decode cX4_copy 62 = .ok (.aload_n 0, 1) := by decide +kernel
theorem dX4_copy_63 : decode cX4_copy 63 = .ok (.ldc 110, 2) := by decide +kernel
theorem dX4_copy_65 : decode cX4_copy 65 = .ok (.invokevirtual 57, 3) := by decide +kernel
theorem dX4_copy_68 : decode cX4_copy 68 = .ok (.ireturn, 1) := by decide +kernel
theorem dX4_copy_69 : decode cX4_copy 69 = .ok (.iload_n 2, 1) := by decide +kernel
theorem dX4_copy_70 : decode cX4_copy 70 = .ok (.ifCond .lt 40, 3) := by decide +kernel
theorem dX4_copy_73 : decode cX4_copy 73 = .ok (.iload 4, 2) := by decide +kernel
theorem dX4_copy_75 : decode cX4_copy 75 = .ok (.ifCond .lt 35, 3) := by decide +kernel
theorem dX4_copy_78 : decode cX4_copy 78 = .ok (.iload 5, 2) := by decide +kernel
theorem dX4_copy_80 : decode cX4_copy 80 = .ok (.ifCond .lt 30, 3) := by decide +kernel
theorem dX4_copy_83 : decode cX4_copy 83 = .ok (.iload 5, 2) := by decide +kernel
theorem dX4_copy_85 : decode cX4_copy 85 = .ok (.aload_n 0, 1) := by decide +kernel
theorem dX4_copy_86 : decode cX4_copy 86 = .ok (.getfield 28, 3) := by decide +kernel
theorem dX4_copy_89 : decode cX4_copy 89 = .ok (.iload_n 1, 1) := by decide +kernel
theorem dX4_copy_90 : decode cX4_copy 90 = .ok (.iaload, 1) := by decide +kernel
theorem dX4_copy_91 : decode cX4_copy 91 = .ok (.iload_n 2, 1) := by decide +kernel
theorem dX4_copy_92 : decode cX4_copy 92 = .ok (.isub, 1) := by decide +kernel
theorem dX4_copy_93 : decode cX4_copy 93 = .ok (.if_icmp .gt 17, 3) := by decide +kernel
theorem dX4_copy_96 : decode cX4_copy 96 = .ok (.iload 5, 2) := by decide +kernel
theorem dX4_copy_98 : decode cX4_copy 98 = .ok (.aload_n 0, 1) := by decide +kernel
theorem dX4_copy_99 : decode cX4_copy 99 = .ok (.getfield 28, 3) := by decide +kernel
theorem dX4_copy_102 : decode cX4_copy 102 = .ok (.iload_n 3, 1) := by decide +kernel
theorem dX4_copy_103 : decode cX4_copy 103 = .ok (.iaload, 1) := by decide +kernel
theorem dX4_copy_104 : decode cX4_copy 104 = .ok (.iload 4, 2) := by decide +kernel
theorem dX4_copy_106 : decode cX4_copy 106 = .ok (.isub, 1) := by decide +kernel
theorem dX4_copy_107 : decode cX4_copy 107 = .ok (.if_icmp .le 10, 3) := by decide +kernel
theorem dX4_copy_110 : decode cX4_copy 110 = .ok (.aload_n 0, 1) := by decide +kernel
theorem dX4_copy_111 : decode cX4_copy 111 = .ok (.ldc 42, 2) := by decide +kernel
theorem dX4_copy_113 : decode cX4_copy 113 = .ok (.invokevirtual 57, 3) := by decide +kernel
theorem dX4_copy_116 : decode cX4_copy 116 = .ok (.ireturn, 1) := by decide +kernel
theorem dX4_copy_117 : decode cX4_copy 117 = .ok (.bipush 40, 2) := by decide +kernel
theorem dX4_copy_119 : decode cX4_copy 119 = .ok (.iload_n 1, 1) := by decide +kernel
theorem dX4_copy_120 : decode cX4_copy 120 = .ok (.imul, 1) := by decide +kernel
theorem dX4_copy_121 : decode cX4_copy 121 = .ok (.iload_n 2, 1) := by decide +kernel
theorem dX4_copy_122 : decode cX4_copy 122 = .ok (.iadd, 1) := by decide +kernel
theorem dX4_copy_123 : decode cX4_copy 123 = .ok (.istore 6, 2) := by decide +kernel
theorem dX4_copy_125 : decode cX4_copy 125 = .ok (.bipush 40, 2) := by decide +kernel
theorem dX4_copy_127 : decode cX4_copy 127 = .ok (.iload_n 3, 1) := by decide +kernel
theorem dX4_copy_128 : decode cX4_copy 128 = .ok (.imul, 1) := by decide +kernel
theorem dX4_copy_129 : decode cX4_copy 129 = .ok (.iload 4, 2) := by decide +kernel
theorem dX4_copy_131 : decode cX4_copy 131 = .ok (.iadd, 1) := by decide +kernel
theorem dX4_copy_132 : decode cX4_copy 132 = .ok (.istore 7, 2) := by decide +kernel
theorem dX4_copy_134 : decode cX4_copy 134 = .ok (.iconst 0, 1) := by decide +kernel
theorem dX4_copy_135 : decode cX4_copy 135 = .ok (.istore 8, 2) := by decide +kernel
theorem dX4_copy_137 : decode cX4_copy 137 = .ok (.iload 8, 2) := by decide +kernel
theorem dX4_copy_139 : decode cX4_copy 139 = .ok (.iload 5, 2) := by decide +kernel
theorem dX4_copy_141 : decode cX4_copy 141 = .ok (.if_icmp .ge 50, 3) := by decide +kernel
theorem dX4_copy_144 : decode cX4_copy 144 = .ok (.iload 6, 2) := by decide +kernel
theorem dX4_copy_146 : decode cX4_copy 146 = .ok (.iload 7, 2) := by decide +kernel
theorem dX4_copy_148 : decode cX4_copy 148 = .ok (.if_icmp .ge 13, 3) := by decide +kernel
theorem dX4_copy_151 : decode cX4_copy 151 = .ok (.iload 5, 2) := by decide +kernel
theorem dX4_copy_153 : decode cX4_copy 153 = .ok (.iconst 1, 1) := by decide +kernel
theorem dX4_copy_154 : decode cX4_copy 154 = .ok (.isub, 1) := by decide +kernel
theorem dX4_copy_155 : decode cX4_copy 155 = .ok (.iload 8, 2) := by decide +kernel
theorem dX4_copy_157 : decode cX4_copy 157 = .ok (.isub, 1) := by decide +kernel
theorem dX4_copy_158 : decode cX4_copy 158 = .ok (.goto 5, 3) := by decide +kernel
theorem dX4_copy_161 : decode cX4_copy 161 = .ok (.iload 8, 2) := by decide +kernel
theorem dX4_copy_163 : decode cX4_copy 163 = .ok (.istore 9, 2) := by decide +kernel
theorem dX4_copy_165 : decode cX4_copy 165 = .ok (.aload_n 0, 1) := by decide +kernel
theorem dX4_copy_166 : decode cX4_copy 166 = .ok (.getfield 31, 3) := by decide +kernel
theorem dX4_copy_169 : decode cX4_copy 169 = .ok (.iload 7, 2) := by decide +kernel
theorem dX4_copy_171 : decode cX4_copy 171 = .ok (.iload 9, 2) := by decide +kernel
theorem dX4_copy_173 : decode cX4_copy 173 = .ok (.iadd, 1) := by decide +kernel
theorem dX4_copy_174 : decode cX4_copy 174 = .ok (.aload_n 0, 1) := by decide +kernel
theorem dX4_copy_175 : decode cX4_copy 175 = .ok (.getfield 31, 3) := by decide +kernel
theorem dX4_copy_178 : decode cX4_copy 178 = .ok (.iload 6, 2) := by decide +kernel
theorem dX4_copy_180 : decode cX4_copy 180 = .ok (.iload 9, 2) := by decide +kernel
theorem dX4_copy_182 : decode cX4_copy 182 = .ok (.iadd, 1) := by decide +kernel
theorem dX4_copy_183 : decode cX4_copy 183 = .ok (.laload, 1) := by decide +kernel
theorem dX4_copy_184 : decode cX4_copy 184 = .ok (.lastore, 1) := by decide +kernel
theorem dX4_copy_185 : decode cX4_copy 185 = .ok (.iinc 8 1, 3) := by decide +kernel
theorem dX4_copy_188 : decode cX4_copy 188 = .ok (.goto (-51), 3) := by decide +kernel
theorem dX4_copy_191 : decode cX4_copy 191 = .ok (.iload 5, 2) := by decide +kernel
theorem dX4_copy_193 : decode cX4_copy 193 = .ok (.ireturn, 1) := by decide +kernel
theorem dX4_wants_0 : decode cX4_wants 0 = .ok (.iload_n 1, 1) := by decide +kernel
theorem dX4_wants_1 : decode cX4_wants 1 = .ok (.invokestatic 253, 3) := by decide +kernel
theorem dX4_wants_4 : decode cX4_wants 4 = .ok (.ifCond .ne 8, 3) := by decide +kernel
theorem dX4_wants_7 : decode cX4_wants 7 = .ok (.ldc 42, 2) := by decide +kernel
theorem dX4_wants_9 : decode cX4_wants 9 = .ok (.goto 19, 3) := by decide +kernel
theorem dX4_wants_12 : decode cX4_wants 12 = .ok (.aload_n 0, 1) := by decide +kernel
theorem dX4_wants_13 : decode cX4_wants 13 = .ok (.getfield 25, 3) := by decide +kernel
theorem dX4_wants_16 : decode cX4_wants 16 = .ok (.iload_n 1, 1) := by decide +kernel
theorem dX4_wants_17 : decode cX4_wants 17 = .ok (.iaload, 1) := by decide +kernel
theorem dX4_wants_18 : decode cX4_wants 18 = .ok (.ifCond .ge 9, 3) := by decide +kernel
theorem dX4_wants_21 : decode cX4_wants 21 = .ok (.ldc_w 256, 3) := by decide +kernel
theorem dX4_wants_24 : decode cX4_wants 24 = .ok (.goto 4, 3) := by decide +kernel
theorem dX4_wants_27 : decode cX4_wants 27 = .ok (.iconst 0, 1) := by decide +kernel
theorem dX4_wants_28 : decode cX4_wants 28 = .ok (.ireturn, 1) := by decide +kernel
theorem dX4_lays_0 : decode cX4_lays 0 = .ok (.aload_n 0, 1) := by decide +kernel
theorem dX4_lays_1 : decode cX4_lays 1 = .ok (.iload_n 1, 1) := by decide +kernel
theorem dX4_lays_2 : decode cX4_lays 2 = .ok (.invokevirtual 261, 3) := by decide +kernel
theorem dX4_lays_5 : decode cX4_lays 5 = .ok (.ifCond .eq 13, 3) := by decide +kernel
theorem dX4_lays_8 : decode cX4_lays 8 = .ok (.aload_n 0, 1) := by decide +kernel
theorem dX4_lays_9 : decode cX4_lays 9 = .ok (.aload_n 0, 1) := by decide +kernel
theorem dX4_lays_10 : decode cX4_lays 10 = .ok (.iload_n 1, 1) := by decide +kernel
theorem dX4_lays_11 : decode cX4_lays 11 = .ok (.invokevirtual 261, 3) := by decide +kernel
theorem dX4_lays_14 : decode cX4_lays 14 = .ok (.invokevirtual 57, 3) := by decide +kernel
theorem dX4_lays_17 : decode cX4_lays 17 = .ok (.ireturn, 1) := by decide +kernel
theorem dX4_lays_18 : decode cX4_lays 18 = .ok (.iconst 0, 1) := by decide +kernel
theorem dX4_lays_19 : decode cX4_lays 19 = .ok (.istore_n 2, 1) := by decide +kernel
theorem dX4_lays_20 : decode cX4_lays 20 = .ok (.iconst 0, 1) := by decide +kernel
theorem dX4_lays_21 : decode cX4_lays 21 = .ok (.istore_n 3, 1) := by decide +kernel
theorem dX4_lays_22 : decode cX4_lays 22 = .ok (.iload_n 3, 1) := by decide +kernel
theorem dX4_lays_23 : decode cX4_lays 23 = .ok (.aload_n 0, 1) := by decide +kernel
theorem dX4_lays_24 : decode cX4_lays 24 = .ok (.getfield 28, 3) := by decide +kernel
theorem dX4_lays_27 : decode cX4_lays 27 = .ok (.iload_n 1, 1) := by decide +kernel
theorem dX4_lays_28 : decode cX4_lays 28 = .ok (.iaload, 1) := by decide +kernel
theorem dX4_lays_29 : decode cX4_lays 29 = .ok (.if_icmp .ge 55, 3) := by decide +kernel
theorem dX4_lays_32 : decode cX4_lays 32 = .ok (.iload_n 3, 1) := by decide +kernel
theorem dX4_lays_33 : decode cX4_lays 33 = .ok (.bipush 12, 2) := by decide +kernel
theorem dX4_lays_35 : decode cX4_lays 35 = .ok (.if_icmp .ge 49, 3) := by decide +kernel
theorem dX4_lays_38 : decode cX4_lays 38 = .ok (.aload_n 0, 1) := by decide +kernel
theorem dX4_lays_39 : decode cX4_lays 39 = .ok (.getfield 31, 3) := by decide +kernel
theorem dX4_lays_42 : decode cX4_lays 42 = .ok (.bipush 40, 2) := by decide +kernel
theorem dX4_lays_44 : decode cX4_lays 44 = .ok (.iload_n 1, 1) := by decide +kernel
theorem dX4_lays_45 : decode cX4_lays 45 = .ok (.imul, 1) := by decide +kernel
theorem dX4_lays_46 : decode cX4_lays 46 = .ok (.iload_n 3, 1) := by decide +kernel
theorem dX4_lays_47 : decode cX4_lays 47 = .ok (.iadd, 1) := by decide +kernel
theorem dX4_lays_48 : decode cX4_lays 48 = .ok (.laload, 1) := by decide +kernel
theorem dX4_lays_49 : decode cX4_lays 49 = .ok (.lstore 4, 2) := by decide +kernel
theorem dX4_lays_51 : decode cX4_lays 51 = .ok (.lload 4, 2) := by decide +kernel
theorem dX4_lays_53 : decode cX4_lays 53 = .ok (.lconst 0, 1) := by decide +kernel
theorem dX4_lays_54 : decode cX4_lays 54 = .ok (.ldc2_w 63, 3) := by decide +kernel
theorem dX4_lays_57 : decode cX4_lays 57 = .ok (.invokestatic 49, 3) := by decide +kernel
theorem dX4_lays_60 : decode cX4_lays 60 = .ok (.ifCond .eq 18, 3) := by decide +kernel
theorem dX4_lays_63 : decode cX4_lays 63 = .ok (.aload_n 0, 1) := by decide +kernel
theorem dX4_lays_64 : decode cX4_lays 64 = .ok (.getfield 7, 3) := by decide +kernel
theorem dX4_lays_67 : decode cX4_lays 67 = .ok (.bipush 8, 2) := by decide +kernel
theorem dX4_lays_69 : decode cX4_lays 69 = .ok (.iload_n 3, 1) := by decide +kernel
theorem dX4_lays_70 : decode cX4_lays 70 = .ok (.iadd, 1) := by decide +kernel
theorem dX4_lays_71 : decode cX4_lays 71 = .ok (.lload 4, 2) := by decide +kernel
theorem dX4_lays_73 : decode cX4_lays 73 = .ok (.l2i, 1) := by decide +kernel
theorem dX4_lays_74 : decode cX4_lays 74 = .ok (.iastore, 1) := by decide +kernel
theorem dX4_lays_75 : decode cX4_lays 75 = .ok (.iinc 2 1, 3) := by decide +kernel
theorem dX4_lays_78 : decode cX4_lays 78 = .ok (.iinc 3 1, 3) := by decide +kernel
theorem dX4_lays_81 : decode cX4_lays 81 = .ok (.goto (-59), 3) := by decide +kernel
theorem dX4_lays_84 : decode cX4_lays 84 = .ok (.iload_n 2, 1) := by decide +kernel
theorem dX4_lays_85 : decode cX4_lays 85 = .ok (.ireturn, 1) := by decide +kernel
theorem dX4_book_0 : decode cX4_book 0 = .ok (.aload_n 0, 1) := by decide +kernel
theorem dX4_book_1 : decode cX4_book 1 = .ok (.iload_n 1, 1) := by decide +kernel
theorem dX4_book_2 : decode cX4_book 2 = .ok (.invokevirtual 261, 3) := by decide +kernel
theorem dX4_book_5 : decode cX4_book 5 = .ok (.ifCond .eq 13, 3) := by decide +kernel
theorem dX4_book_8 : decode cX4_book 8 = .ok (.aload_n 0, 1) := by decide +kernel
theorem dX4_book_9 : decode cX4_book 9 = .ok (.aload_n 0, 1) := by decide +kernel
theorem dX4_book_10 : decode cX4_book 10 = .ok (.iload_n 1, 1) := by decide +kernel
theorem dX4_book_11 : decode cX4_book 11 = .ok (.invokevirtual 261, 3) := by decide +kernel
theorem dX4_book_14 : decode cX4_book 14 = .ok (.invokevirtual 57, 3) := by decide +kernel
theorem dX4_book_17 : decode cX4_book 17 = .ok (.ireturn, 1) := by decide +kernel
theorem dX4_book_18 : decode cX4_book 18 = .ok (.iload_n 2, 1) := by decide +kernel
theorem dX4_book_19 : decode cX4_book 19 = .ok (.i2l, 1) := by decide +kernel
theorem dX4_book_20 : decode cX4_book 20 = .ok (.lconst 0, 1) := by decide +kernel
theorem dX4_book_21 : decode cX4_book 21 = .ok (.ldc2_w 137, 3) := by decide +kernel
theorem dX4_book_24 : decode cX4_book 24 = .ok (.invokestatic 49, 3) := by decide +kernel
theorem dX4_book_27 : decode cX4_book 27 = .ok (.ifCond .ne 10, 3) := by decide +kernel
theorem dX4_book_30 : decode cX4_book 30 = .ok (.aload_n 0, 1) := by decide +kernel
theorem dX4_book_31 : decode cX4_book 31 = .ok (.ldc 42, 2) := by decide +kernel
theorem dX4_book_33 : decode cX4_book 33 = .ok (.invokevirtual 57, 3) := by decide +kernel
theorem dX4_book_36 : decode cX4_book 36 = .ok (.ireturn, 1) := by decide +kernel
theorem dX4_book_37 : decode cX4_book 37 = .ok (.aload_n 0, 1) := by decide +kernel
theorem dX4_book_38 : decode cX4_book 38 = .ok (.iload_n 2, 1) := by decide +kernel
theorem dX4_book_39 : decode cX4_book 39 = .ok (.invokevirtual 139, 3) := by decide +kernel
theorem dX4_book_42 : decode cX4_book 42 = .ok (.ifCond .eq 10, 3) := by decide +kernel
theorem dX4_book_45 : decode cX4_book 45 = .ok (.aload_n 0, 1) := by decide +kernel
theorem dX4_book_46 : decode cX4_book 46 = .ok (.ldc 119, 2) := by decide +kernel
theorem dX4_book_48 : decode cX4_book 48 = .ok (.invokevirtual 57, 3) := by decide +kernel
theorem dX4_book_51 : decode cX4_book 51 = .ok (.ireturn, 1) := by decide +kernel
theorem dX4_book_52 : decode cX4_book 52 = .ok (.aload_n 0, 1) := by decide +kernel
theorem dX4_book_53 : decode cX4_book 53 = .ok (.invokevirtual 160, 3) := by decide +kernel
theorem dX4_book_56 : decode cX4_book 56 = .ok (.aload_n 0, 1) := by decide +kernel
theorem dX4_book_57 : decode cX4_book 57 = .ok (.iload_n 2, 1) := by decide +kernel
theorem dX4_book_58 : decode cX4_book 58 = .ok (.invokevirtual 152, 3) := by decide +kernel
theorem dX4_book_61 : decode cX4_book 61 = .ok (.iconst 0, 1) := by decide +kernel
theorem dX4_book_62 : decode cX4_book 62 = .ok (.istore_n 3, 1) := by decide +kernel
theorem dX4_book_63 : decode cX4_book 63 = .ok (.iconst 0, 1) := by decide +kernel
theorem dX4_book_64 : decode cX4_book 64 = .ok (.istore 4, 2) := by decide +kernel
theorem dX4_book_66 : decode cX4_book 66 = .ok (.iload 4, 2) := by decide +kernel
theorem dX4_book_68 : decode cX4_book 68 = .ok (.aload_n 0, 1) := by decide +kernel
theorem dX4_book_69 : decode cX4_book 69 = .ok (.getfield 28, 3) := by decide +kernel
theorem dX4_book_72 : decode cX4_book 72 = .ok (.iload_n 1, 1) := by decide +kernel
theorem dX4_book_73 : decode cX4_book 73 = .ok (.iaload, 1) := by decide +kernel
theorem dX4_book_74 : decode cX4_book 74 = .ok (.if_icmp .ge 51, 3) := by decide +kernel
theorem dX4_book_77 : decode cX4_book 77 = .ok (.iload 4, 2) := by decide +kernel
theorem dX4_book_79 : decode cX4_book 79 = .ok (.aload_n 0, 1) := by decide +kernel
theorem dX4_book_80 : decode cX4_book 80 = .ok (.getfield 7, 3) := by decide +kernel
theorem dX4_book_83 : decode cX4_book 83 = .ok (.iconst 0, 1) := by decide +kernel
theorem dX4_book_84 : decode cX4_book 84 = .ok (.iaload, 1) := by decide +kernel
theorem dX4_book_85 : decode cX4_book 85 = .ok (.if_icmp .ge 40, 3) := by decide +kernel
theorem dX4_book_88 : decode cX4_book 88 = .ok (.aload_n 0, 1) := by decide +kernel
theorem dX4_book_89 : decode cX4_book 89 = .ok (.getfield 31, 3) := by decide +kernel
theorem dX4_book_92 : decode cX4_book 92 = .ok (.bipush 40, 2) := by decide +kernel
theorem dX4_book_94 : decode cX4_book 94 = .ok (.iload_n 1, 1) := by decide +kernel
theorem dX4_book_95 : decode cX4_book 95 = .ok (.imul, 1) := by decide +kernel
theorem dX4_book_96 : decode cX4_book 96 = .ok (.iload 4, 2) := by decide +kernel
theorem dX4_book_98 : decode cX4_book 98 = .ok (.iadd, 1) := by decide +kernel
theorem dX4_book_99 : decode cX4_book 99 = .ok (.aload_n 0, 1) := by decide +kernel
theorem dX4_book_100 : decode cX4_book 100 = .ok (.getfield 25, 3) := by decide +kernel
theorem dX4_book_103 : decode cX4_book 103 = .ok (.iload_n 1, 1) := by decide +kernel
theorem dX4_book_104 : decode cX4_book 104 = .ok (.iaload, 1) := by decide +kernel
theorem dX4_book_105 : decode cX4_book 105 = .ok (.aload_n 0, 1) := by decide +kernel
theorem dX4_book_106 : decode cX4_book 106 = .ok (.iload 4, 2) := by decide +kernel
theorem dX4_book_108 : decode cX4_book 108 = .ok (.invokevirtual 92, 3) := by decide +kernel
theorem dX4_book_111 : decode cX4_book 111 = .ok (.i2l, 1) := by decide +kernel
theorem dX4_book_112 : decode cX4_book 112 = .ok (.invokestatic 257, 3) := by decide +kernel
theorem dX4_book_115 : decode cX4_book 115 = .ok (.lastore, 1) := by decide +kernel
theorem dX4_book_116 : decode cX4_book 116 = .ok (.iinc 3 1, 3) := by decide +kernel
theorem dX4_book_119 : decode cX4_book 119 = .ok (.iinc 4 1, 3) := by decide +kernel
theorem dX4_book_122 : decode cX4_book 122 = .ok (.goto (-56), 3) := by decide +kernel
theorem dX4_book_125 : decode cX4_book 125 = .ok (.aload_n 0, 1) := by decide +kernel
theorem dX4_book_126 : decode cX4_book 126 = .ok (.invokevirtual 163, 3) := by decide +kernel
theorem dX4_book_129 : decode cX4_book 129 = .ok (.iload_n 3, 1) := by decide +kernel
theorem dX4_book_130 : decode cX4_book 130 = .ok (.ireturn, 1) := by decide +kernel
theorem dX4_read_0 : decode cX4_read 0 = .ok (.aload_n 0, 1) := by decide +kernel
theorem dX4_read_1 : decode cX4_read 1 = .ok (.iload_n 1, 1) := by decide +kernel
theorem dX4_read_2 : decode cX4_read 2 = .ok (.invokevirtual 261, 3) := by decide +kernel
theorem dX4_read_5 : decode cX4_read 5 = .ok (.ifCond .eq 13, 3) := by decide +kernel
theorem dX4_read_8 : decode cX4_read 8 = .ok (.aload_n 0, 1) := by decide +kernel
theorem dX4_read_9 : decode cX4_read 9 = .ok (.aload_n 0, 1) := by decide +kernel
theorem dX4_read_10 : decode cX4_read 10 = .ok (.iload_n 1, 1) := by decide +kernel
theorem dX4_read_11 : decode cX4_read 11 = .ok (.invokevirtual 261, 3) := by decide +kernel
theorem dX4_read_14 : decode cX4_read 14 = .ok (.invokevirtual 57, 3) := by decide +kernel
theorem dX4_read_17 : decode cX4_read 17 = .ok (.ireturn, 1) := by decide +kernel
theorem dX4_read_18 : decode cX4_read 18 = .ok (.iload_n 2, 1) := by decide +kernel
theorem dX4_read_19 : decode cX4_read 19 = .ok (.invokestatic 43, 3) := by decide +kernel
theorem dX4_read_22 : decode cX4_read 22 = .ok (.ifCond .ne 10, 3) := by decide +kernel
theorem dX4_read_25 : decode cX4_read 25 = .ok (.aload_n 0, 1) := by decide +kernel
theorem dX4_read_26 : decode cX4_read 26 = .ok (.ldc 42, 2) := by decide +kernel
theorem dX4_read_28 : decode cX4_read 28 = .ok (.invokevirtual 57, 3) := by decide +kernel
theorem dX4_read_31 : decode cX4_read 31 = .ok (.ireturn, 1) := by decide +kernel
theorem dX4_read_32 : decode cX4_read 32 = .ok (.aload_n 0, 1) := by decide +kernel
theorem dX4_read_33 : decode cX4_read 33 = .ok (.bipush 40, 2) := by decide +kernel
theorem dX4_read_35 : decode cX4_read 35 = .ok (.invokevirtual 139, 3) := by decide +kernel
theorem dX4_read_38 : decode cX4_read 38 = .ok (.ifCond .eq 10, 3) := by decide +kernel
theorem dX4_read_41 : decode cX4_read 41 = .ok (.aload_n 0, 1) := by decide +kernel
theorem dX4_read_42 : decode cX4_read 42 = .ok (.ldc 119, 2) := by decide +kernel
theorem dX4_read_44 : decode cX4_read 44 = .ok (.invokevirtual 57, 3) := by decide +kernel
theorem dX4_read_47 : decode cX4_read 47 = .ok (.ireturn, 1) := by decide +kernel
theorem dX4_read_48 : decode cX4_read 48 = .ok (.aload_n 0, 1) := by decide +kernel
theorem dX4_read_49 : decode cX4_read 49 = .ok (.invokevirtual 160, 3) := by decide +kernel
theorem dX4_read_52 : decode cX4_read 52 = .ok (.iconst 0, 1) := by decide +kernel
theorem dX4_read_53 : decode cX4_read 53 = .ok (.istore_n 3, 1) := by decide +kernel
theorem dX4_read_54 : decode cX4_read 54 = .ok (.iconst 0, 1) := by decide +kernel
theorem dX4_read_55 : decode cX4_read 55 = .ok (.istore 4, 2) := by decide +kernel
theorem dX4_read_57 : decode cX4_read 57 = .ok (.iload 4, 2) := by decide +kernel
theorem dX4_read_59 : decode cX4_read 59 = .ok (.aload_n 0, 1) := by decide +kernel
theorem dX4_read_60 : decode cX4_read 60 = .ok (.getfield 28, 3) := by decide +kernel
theorem dX4_read_63 : decode cX4_read 63 = .ok (.iload_n 1, 1) := by decide +kernel
theorem dX4_read_64 : decode cX4_read 64 = .ok (.iaload, 1) := by decide +kernel
theorem dX4_read_65 : decode cX4_read 65 = .ok (.if_icmp .ge 48, 3) := by decide +kernel
theorem dX4_read_68 : decode cX4_read 68 = .ok (.iload_n 3, 1) := by decide +kernel
theorem dX4_read_69 : decode cX4_read 69 = .ok (.ifCond .ne 44, 3) := by decide +kernel
theorem dX4_read_72 : decode cX4_read 72 = .ok (.aload_n 0, 1) := by decide +kernel
theorem dX4_read_73 : decode cX4_read 73 = .ok (.getfield 31, 3) := by decide +kernel
theorem dX4_read_76 : decode cX4_read 76 = .ok (.bipush 40, 2) := by decide +kernel
theorem dX4_read_78 : decode cX4_read 78 = .ok (.iload_n 1, 1) := by decide +kernel
theorem dX4_read_79 : decode cX4_read 79 = .ok (.imul, 1) := by decide +kernel
theorem dX4_read_80 : decode cX4_read 80 = .ok (.iload 4, 2) := by decide +kernel
theorem dX4_read_82 : decode cX4_read 82 = .ok (.iadd, 1) := by decide +kernel
theorem dX4_read_83 : decode cX4_read 83 = .ok (.laload, 1) := by decide +kernel
theorem dX4_read_84 : decode cX4_read 84 = .ok (.aload_n 0, 1) := by decide +kernel
theorem dX4_read_85 : decode cX4_read 85 = .ok (.iload_n 2, 1) := by decide +kernel
theorem dX4_read_86 : decode cX4_read 86 = .ok (.invokevirtual 120, 3) := by decide +kernel
theorem dX4_read_89 : decode cX4_read 89 = .ok (.i2l, 1) := by decide +kernel
theorem dX4_read_90 : decode cX4_read 90 = .ok (.lcmp, 1) := by decide +kernel
theorem dX4_read_91 : decode cX4_read 91 = .ok (.ifCond .ne 7, 3) := by decide +kernel
theorem dX4_read_94 : decode cX4_read 94 = .ok (.iconst 0, 1) := by decide +kernel
theorem dX4_read_95 : decode cX4_read 95 = .ok (.goto 7, 3) := by decide +kernel
theorem dX4_read_98 : decode cX4_read 98 = .ok (.iconst 1, 1) := by decide +kernel
theorem dX4_read_99 : decode cX4_read 99 = .ok (.iload 4, 2) := by decide +kernel
theorem dX4_read_101 : decode cX4_read 101 = .ok (.iadd, 1) := by decide +kernel
theorem dX4_read_102 : decode cX4_read 102 = .ok (.istore_n 3, 1) := by decide +kernel
theorem dX4_read_103 : decode cX4_read 103 = .ok (.aload_n 0, 1) := by decide +kernel
theorem dX4_read_104 : decode cX4_read 104 = .ok (.invokevirtual 146, 3) := by decide +kernel
theorem dX4_read_107 : decode cX4_read 107 = .ok (.iinc 4 1, 3) := by decide +kernel
theorem dX4_read_110 : decode cX4_read 110 = .ok (.goto (-53), 3) := by decide +kernel
theorem dX4_read_113 : decode cX4_read 113 = .ok (.aload_n 0, 1) := by decide +kernel
theorem dX4_read_114 : decode cX4_read 114 = .ok (.invokevirtual 163, 3) := by decide +kernel
theorem dX4_read_117 : decode cX4_read 117 = .ok (.iload_n 3, 1) := by decide +kernel
theorem dX4_read_118 : decode cX4_read 118 = .ok (.ireturn, 1) := by decide +kernel
theorem dX4_image_0 : decode cX4_image 0 = .ok (.aload_n 0, 1) := by decide +kernel
theorem dX4_image_1 : decode cX4_image 1 = .ok (.getfield 7, 3) := by decide +kernel
theorem dX4_image_4 : decode cX4_image 4 = .ok (.aload_n 0, 1) := by decide +kernel
theorem dX4_image_5 : decode cX4_image 5 = .ok (.getfield 13, 3) := by decide +kernel
theorem dX4_image_8 : decode cX4_image 8 = .ok (.invokestatic 156, 3) := by decide +kernel
theorem dX4_image_11 : decode cX4_image 11 = .ok (.aload_n 0, 1) := by decide +kernel
theorem dX4_image_12 : decode cX4_image 12 = .ok (.iconst 1, 1) := by decide +kernel
theorem dX4_image_13 : decode cX4_image 13 = .ok (.putfield 264, 3) := by decide +kernel
theorem dX4_image_16 : decode cX4_image 16 = .ok (.iconst 1, 1) := by decide +kernel
theorem dX4_image_17 : decode cX4_image 17 = .ok (.ireturn, 1) := by decide +kernel
theorem dX4_undo_0 : decode cX4_undo 0 = .ok (.aload_n 0, 1) := by decide +kernel
theorem dX4_undo_1 : decode cX4_undo 1 = .ok (.getfield 264, 3) := by decide +kernel
theorem dX4_undo_4 : decode cX4_undo 4 = .ok (.ifCond .ne 10, 3) := by decide +kernel
theorem dX4_undo_7 : decode cX4_undo 7 = .ok (.aload_n 0, 1) := by decide +kernel
theorem dX4_undo_8 : decode cX4_undo 8 = .ok (.ldc 166, 2) := by decide +kernel
theorem dX4_undo_10 : decode cX4_undo 10 = .ok (.invokevirtual 57, 3) := by decide +kernel
theorem dX4_undo_13 : decode cX4_undo 13 = .ok (.ireturn, 1) := by decide +kernel
theorem dX4_undo_14 : decode cX4_undo 14 = .ok (.aload_n 0, 1) := by decide +kernel
theorem dX4_undo_15 : decode cX4_undo 15 = .ok (.getfield 13, 3) := by decide +kernel
theorem dX4_undo_18 : decode cX4_undo 18 = .ok (.aload_n 0, 1) := by decide +kernel
theorem dX4_undo_19 : decode cX4_undo 19 = .ok (.getfield 7, 3) := by decide +kernel
theorem dX4_undo_22 : decode cX4_undo 22 = .ok (.invokestatic 156, 3) := by decide +kernel
theorem dX4_undo_25 : decode cX4_undo 25 = .ok (.aload_n 0, 1) := by decide +kernel
theorem dX4_undo_26 : decode cX4_undo 26 = .ok (.getfield 7, 3) := by decide +kernel
theorem dX4_undo_29 : decode cX4_undo 29 = .ok (.iconst 0, 1) := by decide +kernel
theorem dX4_undo_30 : decode cX4_undo 30 = .ok (.iaload, 1) := by decide +kernel
theorem dX4_undo_31 : decode cX4_undo 31 = .ok (.ireturn, 1) := by decide +kernel
theorem dX4_tear_0 : decode cX4_tear 0 = .ok (.aload_n 0, 1) := by decide +kernel
theorem dX4_tear_1 : decode cX4_tear 1 = .ok (.getfield 264, 3) := by decide +kernel
theorem dX4_tear_4 : decode cX4_tear 4 = .ok (.istore_n 1, 1) := by decide +kernel
theorem dX4_tear_5 : decode cX4_tear 5 = .ok (.aload_n 0, 1) := by decide +kernel
theorem dX4_tear_6 : decode cX4_tear 6 = .ok (.iconst 0, 1) := by decide +kernel
theorem dX4_tear_7 : decode cX4_tear 7 = .ok (.putfield 264, 3) := by decide +kernel
theorem dX4_tear_10 : decode cX4_tear 10 = .ok (.iload_n 1, 1) := by decide +kernel
theorem dX4_tear_11 : decode cX4_tear 11 = .ok (.ifCond .eq 7, 3) := by decide +kernel
theorem dX4_tear_14 : decode cX4_tear 14 = .ok (.iconst 1, 1) := by decide +kernel
theorem dX4_tear_15 : decode cX4_tear 15 = .ok (.goto 4, 3) := by decide +kernel
theorem dX4_tear_18 : decode cX4_tear 18 = .ok (.iconst 0, 1) := by decide +kernel
theorem dX4_tear_19 : decode cX4_tear 19 = .ok (.ireturn, 1) := by decide +kernel
theorem dX4_count_0 : decode cX4_count 0 = .ok (.iconst 0, 1) := by decide +kernel
theorem dX4_count_1 : decode cX4_count 1 = .ok (.istore_n 2, 1) := by decide +kernel
theorem dX4_count_2 : decode cX4_count 2 = .ok (.iload_n 1, 1) := by decide +kernel
theorem dX4_count_3 : decode cX4_count 3 = .ok (.tableswitch 119 0 4 #[33, 40, 47, 85, 90], 33) := by decide +kernel
theorem dX4_count_36 : decode cX4_count 36 = .ok (.aload_n 0, 1) := by decide +kernel
theorem dX4_count_37 : decode cX4_count 37 = .ok (.getfield 7, 3) := by decide +kernel
theorem dX4_count_40 : decode cX4_count 40 = .ok (.iconst 0, 1) := by decide +kernel
theorem dX4_count_41 : decode cX4_count 41 = .ok (.iaload, 1) := by decide +kernel
theorem dX4_count_42 : decode cX4_count 42 = .ok (.ireturn, 1) := by decide +kernel
theorem dX4_count_43 : decode cX4_count 43 = .ok (.aload_n 0, 1) := by decide +kernel
theorem dX4_count_44 : decode cX4_count 44 = .ok (.getfield 7, 3) := by decide +kernel
theorem dX4_count_47 : decode cX4_count 47 = .ok (.iconst 1, 1) := by decide +kernel
theorem dX4_count_48 : decode cX4_count 48 = .ok (.iaload, 1) := by decide +kernel
theorem dX4_count_49 : decode cX4_count 49 = .ok (.ireturn, 1) := by decide +kernel
theorem dX4_count_50 : decode cX4_count 50 = .ok (.iconst 0, 1) := by decide +kernel
theorem dX4_count_51 : decode cX4_count 51 = .ok (.istore_n 3, 1) := by decide +kernel
theorem dX4_count_52 : decode cX4_count 52 = .ok (.iload_n 3, 1) := by decide +kernel
theorem dX4_count_53 : decode cX4_count 53 = .ok (.aload_n 0, 1) := by decide +kernel
theorem dX4_count_54 : decode cX4_count 54 = .ok (.getfield 7, 3) := by decide +kernel
theorem dX4_count_57 : decode cX4_count 57 = .ok (.iconst 1, 1) := by decide +kernel
theorem dX4_count_58 : decode cX4_count 58 = .ok (.iaload, 1) := by decide +kernel
theorem dX4_count_59 : decode cX4_count 59 = .ok (.if_icmp .ge 27, 3) := by decide +kernel
theorem dX4_count_62 : decode cX4_count 62 = .ok (.iload_n 2, 1) := by decide +kernel
theorem dX4_count_63 : decode cX4_count 63 = .ok (.iconst 1, 1) := by decide +kernel
theorem dX4_count_64 : decode cX4_count 64 = .ok (.aload_n 0, 1) := by decide +kernel
theorem dX4_count_65 : decode cX4_count 65 = .ok (.getfield 7, 3) := by decide +kernel
theorem dX4_count_68 : decode cX4_count 68 = .ok (.bipush 68, 2) := by decide +kernel
theorem dX4_count_70 : decode cX4_count 70 = .ok (.iconst 5, 1) := by decide +kernel
theorem dX4_count_71 : decode cX4_count 71 = .ok (.iload_n 3, 1) := by decide +kernel
theorem dX4_count_72 : decode cX4_count 72 = .ok (.imul, 1) := by decide +kernel
theorem dX4_count_73 : decode cX4_count 73 = .ok (.iadd, 1) := by decide +kernel
theorem dX4_count_74 : decode cX4_count 74 = .ok (.iconst 4, 1) := by decide +kernel
theorem dX4_count_75 : decode cX4_count 75 = .ok (.iadd, 1) := by decide +kernel
theorem dX4_count_76 : decode cX4_count 76 = .ok (.iaload, 1) := by decide +kernel
theorem dX4_count_77 : decode cX4_count 77 = .ok (.isub, 1) := by decide +kernel
theorem dX4_count_78 : decode cX4_count 78 = .ok (.iadd, 1) := by decide +kernel
theorem dX4_count_79 : decode cX4_count 79 = .ok (.istore_n 2, 1) := by decide +kernel
theorem dX4_count_80 : decode cX4_count 80 = .ok (.iinc 3 1, 3) := by decide +kernel
theorem dX4_count_83 : decode cX4_count 83 = .ok (.goto (-31), 3) := by decide +kernel
theorem dX4_count_86 : decode cX4_count 86 = .ok (.iload_n 2, 1) := by decide +kernel
theorem dX4_count_87 : decode cX4_count 87 = .ok (.ireturn, 1) := by decide +kernel
theorem dX4_count_88 : decode cX4_count 88 = .ok (.aload_n 0, 1) := by decide +kernel
theorem dX4_count_89 : decode cX4_count 89 = .ok (.getfield 190, 3) := by decide +kernel
theorem dX4_count_92 : decode cX4_count 92 = .ok (.ireturn, 1) := by decide +kernel
theorem dX4_count_93 : decode cX4_count 93 = .ok (.iconst 0, 1) := by decide +kernel
theorem dX4_count_94 : decode cX4_count 94 = .ok (.istore_n 3, 1) := by decide +kernel
theorem dX4_count_95 : decode cX4_count 95 = .ok (.iload_n 3, 1) := by decide +kernel
theorem dX4_count_96 : decode cX4_count 96 = .ok (.aload_n 0, 1) := by decide +kernel
theorem dX4_count_97 : decode cX4_count 97 = .ok (.getfield 7, 3) := by decide +kernel
theorem dX4_count_100 : decode cX4_count 100 = .ok (.iconst 0, 1) := by decide +kernel
theorem dX4_count_101 : decode cX4_count 101 = .ok (.iaload, 1) := by decide +kernel
theorem dX4_count_102 : decode cX4_count 102 = .ok (.if_icmp .ge 18, 3) := by decide +kernel
theorem dX4_count_105 : decode cX4_count 105 = .ok (.iload_n 2, 1) := by decide +kernel
theorem dX4_count_106 : decode cX4_count 106 = .ok (.aload_n 0, 1) := by decide +kernel
theorem dX4_count_107 : decode cX4_count 107 = .ok (.iload_n 3, 1) := by decide +kernel
theorem dX4_count_108 : decode cX4_count 108 = .ok (.iconst 2, 1) := by decide +kernel
theorem dX4_count_109 : decode cX4_count 109 = .ok (.invokevirtual 84, 3) := by decide +kernel
theorem dX4_count_112 : decode cX4_count 112 = .ok (.iadd, 1) := by decide +kernel
theorem dX4_count_113 : decode cX4_count 113 = .ok (.istore_n 2, 1) := by decide +kernel
theorem dX4_count_114 : decode cX4_count 114 = .ok (.iinc 3 1, 3) := by decide +kernel
theorem dX4_count_117 : decode cX4_count 117 = .ok (.goto (-22), 3) := by decide +kernel
theorem dX4_count_120 : decode cX4_count 120 = .ok (.iload_n 2, 1) := by decide +kernel
theorem dX4_count_121 : decode cX4_count 121 = .ok (.ireturn, 1) := by decide +kernel
theorem dX4_count_122 : decode cX4_count 122 = .ok (.aload_n 0, 1) := by decide +kernel
theorem dX4_count_123 : decode cX4_count 123 = .ok (.ldc 42, 2) := by decide +kernel
theorem dX4_count_125 : decode cX4_count 125 = .ok (.invokevirtual 57, 3) := by decide +kernel
theorem dX4_count_128 : decode cX4_count 128 = .ok (.ireturn, 1) := by decide +kernel
theorem dX4_status_0 : decode cX4_status 0 = .ok (.iload_n 1, 1) := by decide +kernel
theorem dX4_status_1 : decode cX4_status 1 = .ok (.i2l, 1) := by decide +kernel
theorem dX4_status_2 : decode cX4_status 2 = .ok (.ldc2_w 268, 3) := by decide +kernel
theorem dX4_status_5 : decode cX4_status 5 = .ok (.ldc2_w 270, 3) := by decide +kernel
theorem dX4_status_8 : decode cX4_status 8 = .ok (.invokestatic 49, 3) := by decide +kernel
theorem dX4_status_11 : decode cX4_status 11 = .ok (.ifCond .eq 14, 3) := by decide +kernel
theorem dX4_status_14 : decode cX4_status 14 = .ok (.aload_n 0, 1) := by decide +kernel
theorem dX4_status_15 : decode cX4_status 15 = .ok (.getfield 19, 3) := by decide +kernel
theorem dX4_status_18 : decode cX4_status 18 = .ok (.iload_n 1, 1) := by decide +kernel
theorem dX4_status_19 : decode cX4_status 19 = .ok (.iconst 1, 1) := by decide +kernel
theorem dX4_status_20 : decode cX4_status 20 = .ok (.iadd, 1) := by decide +kernel
theorem dX4_status_21 : decode cX4_status 21 = .ok (.iaload, 1) := by decide +kernel
theorem dX4_status_22 : decode cX4_status 22 = .ok (.goto 9, 3) := by decide +kernel
theorem dX4_status_25 : decode cX4_status 25 = .ok (.aload_n 0, 1) := by decide +kernel
theorem dX4_status_26 : decode cX4_status 26 = .ok (.ldc 42, 2) := by decide +kernel
theorem dX4_status_28 : decode cX4_status 28 = .ok (.invokevirtual 57, 3) := by decide +kernel
theorem dX4_status_31 : decode cX4_status 31 = .ok (.ireturn, 1) := by decide +kernel
