theorem dX3_init_0 : decode cX3_init 0 = .ok (.aload_n 0, 1) := by decide +kernel
theorem dX3_init_1 : decode cX3_init 1 = .ok (.invokespecial 1, 3) := by decide +kernel
theorem dX3_init_4 : decode cX3_init 4 = .ok (.aload_n 0, 1) := by decide +kernel
theorem dX3_init_5 : decode cX3_init 5 = .ok (.new 7, 3) := by decide +kernel
theorem dX3_init_8 : decode cX3_init 8 = .ok (.dup, 1) := by decide +kernel
theorem dX3_init_9 : decode cX3_init 9 = .ok (.invokespecial 9, 3) := by decide +kernel
theorem dX3_init_12 : decode cX3_init 12 = .ok (.putfield 10, 3) := by decide +kernel
theorem dX3_init_15 : decode cX3_init 15 = .ok (.aload_n 0, 1) := by decide +kernel
theorem dX3_init_16 : decode cX3_init 16 = .ok (.new 7, 3) := by decide +kernel
theorem dX3_init_19 : decode cX3_init 19 = .ok (.dup, 1) := by decide +kernel
theorem dX3_init_20 : decode cX3_init 20 = .ok (.invokespecial 9, 3) := by decide +kernel
theorem dX3_init_23 : decode cX3_init 23 = .ok (.putfield 16, 3) := by decide +kernel
theorem dX3_init_26 : decode cX3_init 26 = .ok (.aload_n 0, 1) := by decide +kernel
theorem dX3_init_27 : decode cX3_init 27 = .ok (.new 7, 3) := by decide +kernel
theorem dX3_init_30 : decode cX3_init 30 = .ok (.dup, 1) := by decide +kernel
theorem dX3_init_31 : decode cX3_init 31 = .ok (.invokespecial 9, 3) := by decide +kernel
theorem dX3_init_34 : decode cX3_init 34 = .ok (.putfield 19, 3) := by decide +kernel
theorem dX3_init_37 : decode cX3_init 37 = .ok (.aload_n 0, 1) := by decide +kernel
theorem dX3_init_38 : decode cX3_init 38 = .ok (.new 7, 3) := by decide +kernel
theorem dX3_init_41 : decode cX3_init 41 = .ok (.dup, 1) := by decide +kernel
theorem dX3_init_42 : decode cX3_init 42 = .ok (.invokespecial 9, 3) := by decide +kernel
theorem dX3_init_45 : decode cX3_init 45 = .ok (.putfield 22, 3) := by decide +kernel
theorem dX3_init_48 : decode cX3_init 48 = .ok (.aload_n 0, 1) := by decide +kernel
theorem dX3_init_49 : decode cX3_init 49 = .ok (.new 25, 3) := by decide +kernel
theorem dX3_init_52 : decode cX3_init 52 = .ok (.dup, 1) := by decide +kernel
theorem dX3_init_53 : decode cX3_init 53 = .ok (.invokespecial 27, 3) := by decide +kernel
theorem dX3_init_56 : decode cX3_init 56 = .ok (.putfield 28, 3) := by decide +kernel
theorem dX3_init_59 : decode cX3_init 59 = .ok (.aload_n 0, 1) := by decide +kernel
theorem dX3_init_60 : decode cX3_init 60 = .ok (.iconst 4, 1) := by decide +kernel
theorem dX3_init_61 : decode cX3_init 61 = .ok (.anewarray 32, 3) := by decide +kernel
theorem dX3_init_64 : decode cX3_init 64 = .ok (.putfield 34, 3) := by decide +kernel
theorem dX3_init_67 : decode cX3_init 67 = .ok (.iconst 0, 1) := by decide +kernel
theorem dX3_init_68 : decode cX3_init 68 = .ok (.istore_n 1, 1) := by decide +kernel
theorem dX3_init_69 : decode cX3_init 69 = .ok (.iload_n 1, 1) := by decide +kernel
theorem dX3_init_70 : decode cX3_init 70 = .ok (.iconst 4, 1) := by decide +kernel
theorem dX3_init_71 : decode cX3_init 71 = .ok (.if_icmp .ge 22, 3) := by decide +kernel
theorem dX3_init_74 : decode cX3_init 74 = .ok (.aload_n 0, 1) := by decide +kernel
theorem dX3_init_75 : decode cX3_init 75 = .ok (.getfield 34, 3) := by decide +kernel
theorem dX3_init_78 : decode cX3_init 78 = .ok (.iload_n 1, 1) := by decide +kernel
theorem dX3_init_79 : decode cX3_init 79 = .ok (.new 32, 3) := by decide +kernel
theorem dX3_init_82 : decode cX3_init 82 = .ok (.dup, 1) := by decide +kernel
theorem dX3_init_83 : decode cX3_init 83 = .ok (.invokespecial 38, 3) := by decide +kernel
theorem dX3_init_86 : decode cX3_init 86 = .ok (.aastore, 1) := by decide +kernel
theorem dX3_init_87 : decode cX3_init 87 = .ok (.iinc 1 1, 3) := by decide +kernel
theorem dX3_init_90 : decode cX3_init 90 = .ok (.goto (-21), 3) := by decide +kernel
theorem dX3_init_93 : decode cX3_init 93 = .ok (.aload_n 0, 1) := by decide +kernel
theorem dX3_init_94 : decode cX3_init 94 = .ok (.bipush 7, 2) := by decide +kernel
theorem dX3_init_96 : decode cX3_init 96 = .ok (.newarray .int, 2) := by decide +kernel
theorem dX3_init_98 : decode cX3_init 98 = .ok (.putfield 39, 3) := by decide +kernel
theorem dX3_init_101 : decode cX3_init 101 = .ok (.aload_n 0, 1) := by decide +kernel
theorem dX3_init_102 : decode cX3_init 102 = .ok (.iconst 0, 1) := by decide +kernel
theorem dX3_init_103 : decode cX3_init 103 = .ok (.putfield 43, 3) := by decide +kernel
theorem dX3_init_106 : decode cX3_init 106 = .ok (.return_, 1) := by decide +kernel
theorem dX3_soil_0 : decode cX3_soil 0 = .ok (.iload_n 1, 1) := by decide +kernel
theorem dX3_soil_1 : decode cX3_soil 1 = .ok (.invokestatic 47, 3) := by decide +kernel
theorem dX3_soil_4 : decode cX3_soil 4 = .ok (.ifCond .eq 13, 3) := by decide +kernel
theorem dX3_soil_7 : decode cX3_soil 7 = .ok (.iload_n 2, 1) := by decide +kernel
theorem dX3_soil_8 : decode cX3_soil 8 = .ok (.iconst 0, 1) := by decide +kernel
theorem dX3_soil_9 : decode cX3_soil 9 = .ok (.bipush 9, 2) := by decide +kernel
theorem dX3_soil_11 : decode cX3_soil 11 = .ok (.invokestatic 51, 3) := by decide +kernel
theorem dX3_soil_14 : decode cX3_soil 14 = .ok (.ifCond .ne 10, 3) := by decide +kernel
theorem dX3_soil_17 : decode cX3_soil 17 = .ok (.aload_n 0, 1) := by decide +kernel
theorem dX3_soil_18 : decode cX3_soil 18 = .ok (.ldc 55, 2) := by decide +kernel
theorem dX3_soil_20 : decode cX3_soil 20 = .ok (.invokevirtual 56, 3) := by decide +kernel
theorem dX3_soil_23 : decode cX3_soil 23 = .ok (.ireturn, 1) := by decide +kernel
theorem dX3_soil_24 : decode cX3_soil 24 = .ok (.aload_n 0, 1) := by decide +kernel
theorem dX3_soil_25 : decode cX3_soil 25 = .ok (.getfield 10, 3) := by decide +kernel
theorem dX3_soil_28 : decode cX3_soil 28 = .ok (.getfield 60, 3) := by decide +kernel
theorem dX3_soil_31 : decode cX3_soil 31 = .ok (.iload_n 1, 1) := by decide +kernel
theorem dX3_soil_32 : decode cX3_soil 32 = .ok (.iaload, 1) := by decide +kernel
theorem dX3_soil_33 : decode cX3_soil 33 = .ok (.istore_n 3, 1) := by decide +kernel
theorem dX3_soil_34 : decode cX3_soil 34 = .ok (.aload_n 0, 1) := by decide +kernel
theorem dX3_soil_35 : decode cX3_soil 35 = .ok (.getfield 10, 3) := by decide +kernel
theorem dX3_soil_38 : decode cX3_soil 38 = .ok (.getfield 60, 3) := by decide +kernel
theorem dX3_soil_41 : decode cX3_soil 41 = .ok (.iload_n 1, 1) := by decide +kernel
theorem dX3_soil_42 : decode cX3_soil 42 = .ok (.iload_n 2, 1) := by decide +kernel
theorem dX3_soil_43 : decode cX3_soil 43 = .ok (.iastore, 1) := by decide +kernel
theorem dX3_soil_44 : decode cX3_soil 44 = .ok (.iload_n 3, 1) := by decide +kernel
theorem dX3_soil_45 : decode cX3_soil 45 = .ok (.ireturn, 1) := by decide +kernel
theorem dX3_price_0 : decode cX3_price 0 = .ok (.iload_n 1, 1) := by decide +kernel
theorem dX3_price_1 : decode cX3_price 1 = .ok (.iconst 0, 1) := by decide +kernel
theorem dX3_price_2 : decode cX3_price 2 = .ok (.bipush 11, 2) := by decide +kernel
theorem dX3_price_4 : decode cX3_price 4 = .ok (.invokestatic 51, 3) := by decide +kernel
theorem dX3_price_7 : decode cX3_price 7 = .ok (.ifCond .eq 13, 3) := by decide +kernel
theorem dX3_price_10 : decode cX3_price 10 = .ok (.iload_n 2, 1) := by decide +kernel
theorem dX3_price_11 : decode cX3_price 11 = .ok (.iconst 0, 1) := by decide +kernel
theorem dX3_price_12 : decode cX3_price 12 = .ok (.bipush 99, 2) := by decide +kernel
theorem dX3_price_14 : decode cX3_price 14 = .ok (.invokestatic 51, 3) := by decide +kernel
theorem dX3_price_17 : decode cX3_price 17 = .ok (.ifCond .ne 10, 3) := by decide +kernel
theorem dX3_price_20 : decode cX3_price 20 = .ok (.aload_n 0, 1) := by decide +kernel
theorem dX3_price_21 : decode cX3_price 21 = .ok (.ldc 55, 2) := by decide +kernel
theorem dX3_price_23 : decode cX3_price 23 = .ok (.invokevirtual 56, 3) := by decide +kernel
theorem dX3_price_26 : decode cX3_price 26 = .ok (.ireturn, 1) := by decide +kernel
theorem dX3_price_27 : decode cX3_price 27 = .ok (.aload_n 0, 1) := by decide +kernel
theorem dX3_price_28 : decode cX3_price 28 = .ok (.getfield 10, 3) := by decide +kernel
theorem dX3_price_31 : decode cX3_price 31 = .ok (.getfield 63, 3) := by decide +kernel
theorem dX3_price_34 : decode cX3_price 34 = .ok (.iload_n 1, 1) := by decide +kernel
theorem dX3_price_35 : decode cX3_price 35 = .ok (.iaload, 1) := by decide +kernel
theorem dX3_price_36 : decode cX3_price 36 = .ok (.istore_n 3, 1) := by decide +kernel
theorem dX3_price_37 : decode cX3_price 37 = .ok (.aload_n 0, 1) := by decide +kernel
theorem dX3_price_38 : decode cX3_price 38 = .ok (.getfield 10, 3) := by decide +kernel
theorem dX3_price_41 : decode cX3_price 41 = .ok (.getfield 63, 3) := by decide +kernel
theorem dX3_price_44 : decode cX3_price 44 = .ok (.iload_n 1, 1) := by decide +kernel
theorem dX3_price_45 : decode cX3_price 45 = .ok (.iload_n 2, 1) := by decide +kernel
theorem dX3_price_46 : decode cX3_price 46 = .ok (.iastore, 1) := by decide +kernel
theorem dX3_price_47 : decode cX3_price 47 = .ok (.iload_n 3, 1) := by decide +kernel
theorem dX3_price_48 : decode cX3_price 48 = .ok (.ireturn, 1) := by decide +kernel
theorem dX3_coin_0 : decode cX3_coin 0 = .ok (.iload_n 1, 1) := by decide +kernel
theorem dX3_coin_1 : decode cX3_coin 1 = .ok (.invokestatic 66, 3) := by decide +kernel
theorem dX3_coin_4 : decode cX3_coin 4 = .ok (.ifCond .eq 20, 3) := by decide +kernel
theorem dX3_coin_7 : decode cX3_coin 7 = .ok (.iload_n 2, 1) := by decide +kernel
theorem dX3_coin_8 : decode cX3_coin 8 = .ok (.invokestatic 47, 3) := by decide +kernel
theorem dX3_coin_11 : decode cX3_coin 11 = .ok (.ifCond .eq 13, 3) := by decide +kernel
theorem dX3_coin_14 : decode cX3_coin 14 = .ok (.iload_n 3, 1) := by decide +kernel
theorem dX3_coin_15 : decode cX3_coin 15 = .ok (.iconst 0, 1) := by decide +kernel
theorem dX3_coin_16 : decode cX3_coin 16 = .ok (.bipush 99, 2) := by decide +kernel
theorem dX3_coin_18 : decode cX3_coin 18 = .ok (.invokestatic 51, 3) := by decide +kernel
theorem dX3_coin_21 : decode cX3_coin 21 = .ok (.ifCond .ne 10, 3) := by decide +kernel
theorem dX3_coin_24 : decode cX3_coin 24 = .ok (.aload_n 0, 1) := by decide +kernel
theorem dX3_coin_25 : decode cX3_coin 25 = .ok (.ldc 55, 2) := by decide +kernel
theorem dX3_coin_27 : decode cX3_coin 27 = .ok (.invokevirtual 56, 3) := by decide +kernel
theorem dX3_coin_30 : decode cX3_coin 30 = .ok (.ireturn, 1) := by decide +kernel
theorem dX3_coin_31 : decode cX3_coin 31 = .ok (.aload_n 0, 1) := by decide +kernel
theorem dX3_coin_32 : decode cX3_coin 32 = .ok (.getfield 10, 3) := by decide +kernel
theorem dX3_coin_35 : decode cX3_coin 35 = .ok (.getfield 69, 3) := by decide +kernel
theorem dX3_coin_38 : decode cX3_coin 38 = .ok (.bipush 12, 2) := by decide +kernel
theorem dX3_coin_40 : decode cX3_coin 40 = .ok (.if_icmp .lt 10, 3) := by decide +kernel
theorem dX3_coin_43 : decode cX3_coin 43 = .ok (.aload_n 0, 1) := by decide +kernel
theorem dX3_coin_44 : decode cX3_coin 44 = .ok (.ldc 73, 2) := by decide +kernel
theorem dX3_coin_46 : decode cX3_coin 46 = .ok (.invokevirtual 56, 3) := by decide +kernel
theorem dX3_coin_49 : decode cX3_coin 49 = .ok (.ireturn, 1) := by decide +kernel
theorem dX3_coin_50 : decode cX3_coin 50 = .ok (.aload_n 0, 1) := by decide +kernel
theorem dX3_coin_51 : decode cX3_coin 51 = .ok (.getfield 10, 3) := by decide +kernel
theorem dX3_coin_54 : decode cX3_coin 54 = .ok (.iload_n 1, 1) := by decide +kernel
theorem dX3_coin_55 : decode cX3_coin 55 = .ok (.iload_n 2, 1) := by decide +kernel
theorem dX3_coin_56 : decode cX3_coin 56 = .ok (.iload_n 3, 1) := by decide +kernel
theorem dX3_coin_57 : decode cX3_coin 57 = .ok (.iconst 0, 1) := by decide +kernel
theorem dX3_coin_58 : decode cX3_coin 58 = .ok (.invokevirtual 74, 3) := by decide +kernel
theorem dX3_coin_61 : decode cX3_coin 61 = .ok (.ireturn, 1) := by decide +kernel
theorem dX3_of_0 : decode cX3_of 0 = .ok (.aload_n 0, 1) := by decide +kernel
theorem dX3_of_1 : decode cX3_of 1 = .ok (.iload_n 1, 1) := by decide +kernel
theorem dX3_of_2 : decode cX3_of 2 = .ok (.invokevirtual 78, 3) := by decide +kernel
theorem dX3_of_5 : decode cX3_of 5 = .ok (.ifCond .ne 10, 3) := by decide +kernel
theorem dX3_of_8 : decode cX3_of 8 = .ok (.aload_n 0, 1) := by decide +kernel
theorem dX3_of_9 : decode cX3_of 9 = .ok (.ldc 55, 2) := by decide +kernel
theorem dX3_of_11 : decode cX3_of 11 = .ok (.invokevirtual 56, 3) := by decide +kernel
theorem dX3_of_14 : decode cX3_of 14 = .ok (.ireturn, 1) := by decide +kernel
theorem dX3_of_15 : decode cX3_of 15 = .ok (.iload_n 2, 1) := by decide +kernel
theorem dX3_of_16 : decode cX3_of 16 = .ok (.tableswitch 147 0 7 #[48, 58, 68, 78, 88, 97, 117, 126], 48) := by decide +kernel
theorem dX3_of_64 : decode cX3_of 64 = .ok (.aload_n 0, 1) := by decide +kernel
theorem dX3_of_65 : decode cX3_of 65 = .ok (.getfield 10, 3) := by decide +kernel
theorem dX3_of_68 : decode cX3_of 68 = .ok (.getfield 81, 3) := by decide +kernel
theorem dX3_of_71 : decode cX3_of 71 = .ok (.iload_n 1, 1) := by decide +kernel
theorem dX3_of_72 : decode cX3_of 72 = .ok (.iaload, 1) := by decide +kernel
theorem dX3_of_73 : decode cX3_of 73 = .ok (.ireturn, 1) := by decide +kernel
theorem dX3_of_74 : decode cX3_of 74 = .ok (.aload_n 0, 1) := by decide +kernel
theorem dX3_of_75 : decode cX3_of 75 = .ok (.getfield 10, 3) := by decide +kernel
theorem dX3_of_78 : decode cX3_of 78 = .ok (.getfield 84, 3) := by decide +kernel
theorem dX3_of_81 : decode cX3_of 81 = .ok (.iload_n 1, 1) := by decide +kernel
theorem dX3_of_82 : decode cX3_of 82 = .ok (.iaload, 1) := by decide +kernel
theorem dX3_of_83 : decode cX3_of 83 = .ok (.ireturn, 1) := by decide +kernel
theorem dX3_of_84 : decode cX3_of 84 = .ok (.aload_n 0, 1) := by decide +kernel
theorem dX3_of_85 : decode cX3_of 85 = .ok (.getfield 10, 3) := by decide +kernel
theorem dX3_of_88 : decode cX3_of 88 = .ok (.getfield 87, 3) := by decide +kernel
theorem dX3_of_91 : decode cX3_of 91 = .ok (.iload_n 1, 1) := by decide +kernel
theorem dX3_of_92 : decode cX3_of 92 = .ok (.iaload, 1) := by decide +kernel
theorem dX3_of_93 : decode cX3_of 93 = .ok (.ireturn, 1) := by decide +kernel
theorem dX3_of_94 : decode cX3_of 94 = .ok (.aload_n 0, 1) := by decide +kernel
theorem dX3_of_95 : decode cX3_of 95 = .ok (.getfield 10, 3) := by decide +kernel
theorem dX3_of_98 : decode cX3_of 98 = .ok (.getfield 90, 3) := by decide +kernel
theorem dX3_of_101 : decode cX3_of 101 = .ok (.iload_n 1, 1) := by decide +kernel
theorem dX3_of_102 : decode cX3_of 102 = .ok (.iaload, 1) := by decide +kernel
theorem dX3_of_103 : decode cX3_of 103 = .ok (.ireturn, 1) := by decide +kernel
theorem dX3_of_104 : decode cX3_of 104 = .ok (.aload_n 0, 1) := by decide +kernel
theorem dX3_of_105 : decode cX3_of 105 = .ok (.getfield 10, 3) := by decide +kernel
theorem dX3_of_108 : decode cX3_of 108 = .ok (.iload_n 1, 1) := by decide +kernel
theorem dX3_of_109 : decode cX3_of 109 = .ok (.invokevirtual 93, 3) := by decide +kernel
theorem dX3_of_112 : decode cX3_of 112 = .ok (.ireturn, 1) := by decide +kernel
theorem dX3_of_113 : decode cX3_of 113 = .ok (.aload_n 0, 1) := by decide +kernel
theorem dX3_of_114 : decode cX3_of 114 = .ok (.getfield 10, 3) := by decide +kernel
theorem dX3_of_117 : decode cX3_of 117 = .ok (.getfield 81, 3) := by decide +kernel
theorem dX3_of_120 : decode cX3_of 120 = .ok (.iload_n 1, 1) := by decide +kernel
theorem dX3_of_121 : decode cX3_of 121 = .ok (.iaload, 1) := by decide +kernel
theorem dX3_of_122 : decode cX3_of 122 = .ok (.aload_n 0, 1) := by decide +kernel
theorem dX3_of_123 : decode cX3_of 123 = .ok (.getfield 10, 3) := by decide +kernel
theorem dX3_of_126 : decode cX3_of 126 = .ok (.invokevirtual 96, 3) := by decide +kernel
theorem dX3_of_129 : decode cX3_of 129 = .ok (.invokestatic 100, 3) := by decide +kernel
theorem dX3_of_132 : decode cX3_of 132 = .ok (.ireturn, 1) := by decide +kernel
theorem dX3_of_133 : decode cX3_of 133 = .ok (.aload_n 0, 1) := by decide +kernel
theorem dX3_of_134 : decode cX3_of 134 = .ok (.getfield 10, 3) := by decide +kernel
theorem dX3_of_137 : decode cX3_of 137 = .ok (.iload_n 1, 1) := by decide +kernel
theorem dX3_of_138 : decode cX3_of 138 = .ok (.invokevirtual 104, 3) := by decide +kernel
theorem dX3_of_141 : decode cX3_of 141 = .ok (.ireturn, 1) := by decide +kernel
theorem dX3_of_142 : decode cX3_of 142 = .ok (.aload_n 0, 1) := by decide +kernel
theorem dX3_of_143 : decode cX3_of 143 = .ok (.getfield 10, 3) := by decide +kernel
theorem dX3_of_146 : decode cX3_of 146 = .ok (.getfield 81, 3) := by decide +kernel
theorem dX3_of_149 : decode cX3_of 149 = .ok (.iload_n 1, 1) := by decide +kernel
theorem dX3_of_150 : decode cX3_of 150 = .ok (.iaload, 1) := by decide +kernel
theorem dX3_of_151 : decode cX3_of 151 = .ok (.invokestatic 107, 3) := by decide +kernel
theorem dX3_of_154 : decode cX3_of 154 = .ok (.ifCond .eq 7, 3) := by decide +kernel
theorem dX3_of_157 : decode cX3_of 157 = .ok (.iconst 1, 1) := by decide +kernel
theorem dX3_of_158 : decode cX3_of 158 = .ok (.goto 4, 3) := by decide +kernel
theorem dX3_of_161 : decode cX3_of 161 = .ok (.iconst 0, 1) := by decide +kernel
theorem dX3_of_162 : decode cX3_of 162 = .ok (.ireturn, 1) := by decide +kernel
theorem dX3_of_163 : decode cX3_of 163 = .ok (.aload_n 0, 1) := by decide +kernel
theorem dX3_of_164 : decode cX3_of 164 = .ok (.ldc 55, 2) := by decide +kernel
theorem dX3_of_166 : decode cX3_of 166 = .ok (.invokevirtual 56, 3) := by decide +kernel
theorem dX3_of_169 : decode cX3_of 169 = .ok (.ireturn, 1) := by decide +kernel
theorem dX3_set_0 : decode cX3_set 0 = .ok (.aload_n 0, 1) := by decide +kernel
theorem dX3_set_1 : decode cX3_set 1 = .ok (.iload_n 1, 1) := by decide +kernel
theorem dX3_set_2 : decode cX3_set 2 = .ok (.invokevirtual 78, 3) := by decide +kernel
theorem dX3_set_5 : decode cX3_set 5 = .ok (.ifCond .ne 10, 3) := by decide +kernel
theorem dX3_set_8 : decode cX3_set 8 = .ok (.aload_n 0, 1) := by decide +kernel
theorem dX3_set_9 : decode cX3_set 9 = .ok (.ldc 55, 2) := by decide +kernel
theorem dX3_set_11 : decode cX3_set 11 = .ok (.invokevirtual 56, 3) := by decide +kernel
theorem dX3_set_14 : decode cX3_set 14 = .ok (.ireturn, 1) := by decide +kernel
theorem dX3_set_15 : decode cX3_set 15 = .ok (.iload_n 2, 1) := by decide +kernel
theorem dX3_set_16 : decode cX3_set 16 = .ok (.tableswitch 74 1 3 #[28, 43, 59], 28) := by decide +kernel
theorem dX3_set_44 : decode cX3_set 44 = .ok (.aload_n 0, 1) := by decide +kernel
theorem dX3_set_45 : decode cX3_set 45 = .ok (.getfield 10, 3) := by decide +kernel
theorem dX3_set_48 : decode cX3_set 48 = .ok (.getfield 84, 3) := by decide +kernel
theorem dX3_set_51 : decode cX3_set 51 = .ok (.astore 4, 2) := by decide +kernel
theorem dX3_set_53 : decode cX3_set 53 = .ok (.iconst 3, 1) := by decide +kernel
theorem dX3_set_54 : decode cX3_set 54 = .ok (.istore 5, 2) := by decide +kernel
theorem dX3_set_56 : decode cX3_set 56 = .ok (.goto 41, 3) := by decide +kernel
theorem dX3_set_59 : decode cX3_set 59 = .ok (.aload_n 0, 1) := by decide +kernel
theorem dX3_set_60 : decode cX3_set 60 = .ok (.getfield 10, 3) := by decide +kernel
theorem dX3_set_63 : decode cX3_set 63 = .ok (.getfield 87, 3) := by decide +kernel
theorem dX3_set_66 : decode cX3_set 66 = .ok (.astore 4, 2) := by decide +kernel
theorem dX3_set_68 : decode cX3_set 68 = .ok (.bipush 99, 2) := by decide +kernel
theorem dX3_set_70 : decode cX3_set 70 = .ok (.istore 5, 2) := by decide +kernel
theorem dX3_set_72 : decode cX3_set 72 = .ok (.goto 25, 3) := by decide +kernel
theorem dX3_set_75 : decode cX3_set 75 = .ok (.aload_n 0, 1) := by decide +kernel
theorem dX3_set_76 : decode cX3_set 76 = .ok (.getfield 10, 3) := by decide +kernel
theorem dX3_set_79 : decode cX3_set 79 = .ok (.getfield 90, 3) := by decide +kernel
theorem dX3_set_82 : decode cX3_set 82 = .ok (.astore 4, 2) := by decide +kernel
theorem dX3_set_84 : decode cX3_set 84 = .ok (.iconst 2, 1) := by decide +kernel
theorem dX3_set_85 : decode cX3_set 85 = .ok (.istore 5, 2) := by decide +kernel
theorem dX3_set_87 : decode cX3_set 87 = .ok (.goto 10, 3) := by decide +kernel
theorem dX3_set_90 : decode cX3_set 90 = .ok (.aload_n 0, 1) := by decide +kernel
theorem dX3_set_91 : decode cX3_set 91 = .ok (.ldc 55, 2) := by decide +kernel
theorem dX3_set_93 : decode cX3_set 93 = .ok (.invokevirtual 56, 3) := by decide +kernel
theorem dX3_set_96 : decode cX3_set 96 = .ok (.ireturn, 1) := by decide +kernel
theorem dX3_set_97 : decode cX3_set 97 = .ok (.iload_n 3, 1) := by decide +kernel
theorem dX3_set_98 : decode cX3_set 98 = .ok (.iconst 0, 1) := by decide +kernel
theorem dX3_set_99 : decode cX3_set 99 = .ok (.iload 5, 2) := by decide +kernel
theorem dX3_set_101 : decode cX3_set 101 = .ok (.invokestatic 51, 3) := by decide +kernel
theorem dX3_set_104 : decode cX3_set 104 = .ok (.ifCond .ne 10, 3) := by decide +kernel
theorem dX3_set_107 : decode cX3_set 107 = .ok (.aload_n 0, 1) := by decide +kernel
theorem dX3_set_108 : decode cX3_set 108 = .ok (.ldc 55, 2) := by decide +kernel
theorem dX3_set_110 : decode cX3_set 110 = .ok (.invokevirtual 56, 3) := by decide +kernel
theorem dX3_set_113 : decode cX3_set 113 = .ok (.ireturn, 1) := by decide +kernel
theorem dX3_set_114 : decode cX3_set 114 = .ok (.aload 4, 2) := by decide +kernel
theorem dX3_set_116 : decode cX3_set 116 = .ok (.iload_n 1, 1) := by decide +kernel
theorem dX3_set_117 : decode cX3_set 117 = .ok (.iaload, 1) := by decide +kernel
theorem dX3_set_118 : decode cX3_set 118 = .ok (.istore 6, 2) := by decide +kernel
theorem dX3_set_120 : decode cX3_set 120 = .ok (.aload 4, 2) := by decide +kernel
theorem dX3_set_122 : decode cX3_set 122 = .ok (.iload_n 1, 1) := by decide +kernel
theorem dX3_set_123 : decode cX3_set 123 = .ok (.iload_n 3, 1) := by decide +kernel
theorem dX3_set_124 : decode cX3_set 124 = .ok (.iastore, 1) := by decide +kernel
theorem dX3_set_125 : decode cX3_set 125 = .ok (.iload 6, 2) := by decide +kernel
theorem dX3_set_127 : decode cX3_set 127 = .ok (.ireturn, 1) := by decide +kernel
theorem dX3_turn_0 : decode cX3_turn 0 = .ok (.aload_n 0, 1) := by decide +kernel
theorem dX3_turn_1 : decode cX3_turn 1 = .ok (.iload_n 1, 1) := by decide +kernel
theorem dX3_turn_2 : decode cX3_turn 2 = .ok (.invokevirtual 78, 3) := by decide +kernel
theorem dX3_turn_5 : decode cX3_turn 5 = .ok (.ifCond .eq 10, 3) := by decide +kernel
theorem dX3_turn_8 : decode cX3_turn 8 = .ok (.iload_n 2, 1) := by decide +kernel
theorem dX3_turn_9 : decode cX3_turn 9 = .ok (.invokestatic 66, 3) := by decide +kernel
theorem dX3_turn_12 : decode cX3_turn 12 = .ok (.ifCond .ne 10, 3) := by decide +kernel
theorem dX3_turn_15 : decode cX3_turn 15 = .ok (.aload_n 0, 1) := by decide +kernel
theorem dX3_turn_16 : decode cX3_turn 16 = .ok (.ldc 55, 2) := by decide +kernel
theorem dX3_turn_18 : decode cX3_turn 18 = .ok (.invokevirtual 56, 3) := by decide +kernel
theorem dX3_turn_21 : decode cX3_turn 21 = .ok (.ireturn, 1) := by decide +kernel
theorem dX3_turn_22 : decode cX3_turn 22 = .ok (.aload_n 0, 1) := by decide +kernel
theorem dX3_turn_23 : decode cX3_turn 23 = .ok (.getfield 10, 3) := by decide +kernel
theorem dX3_turn_26 : decode cX3_turn 26 = .ok (.getfield 81, 3) := by decide +kernel
theorem dX3_turn_29 : decode cX3_turn 29 = .ok (.iload_n 1, 1) := by decide +kernel
theorem dX3_turn_30 : decode cX3_turn 30 = .ok (.iaload, 1) := by decide +kernel
theorem dX3_turn_31 : decode cX3_turn 31 = .ok (.istore_n 3, 1) := by decide +kernel
theorem dX3_turn_32 : decode cX3_turn 32 = .ok (.aload_n 0, 1) := by decide +kernel
theorem dX3_turn_33 : decode cX3_turn 33 = .ok (.getfield 10, 3) := by decide +kernel
theorem dX3_turn_36 : decode cX3_turn 36 = .ok (.getfield 81, 3) := by decide +kernel
theorem dX3_turn_39 : decode cX3_turn 39 = .ok (.iload_n 1, 1) := by decide +kernel
theorem dX3_turn_40 : decode cX3_turn 40 = .ok (.iload_n 2, 1) := by decide +kernel
theorem dX3_turn_41 : decode cX3_turn 41 = .ok (.iastore, 1) := by decide +kernel
theorem dX3_turn_42 : decode cX3_turn 42 = .ok (.iload_n 3, 1) := by decide +kernel
theorem dX3_turn_43 : decode cX3_turn 43 = .ok (.ireturn, 1) := by decide +kernel
theorem dX3_as_0 : decode cX3_as 0 = .ok (.aload_n 0, 1) := by decide +kernel
theorem dX3_as_1 : decode cX3_as 1 = .ok (.iload_n 1, 1) := by decide +kernel
theorem dX3_as_2 : decode cX3_as 2 = .ok (.invokevirtual 78, 3) := by decide +kernel
theorem dX3_as_5 : decode cX3_as 5 = .ok (.ifCond .eq 10, 3) := by decide +kernel
theorem dX3_as_8 : decode cX3_as 8 = .ok (.iload_n 2, 1) := by decide +kernel
theorem dX3_as_9 : decode cX3_as 9 = .ok (.invokestatic 66, 3) := by decide +kernel
theorem dX3_as_12 : decode cX3_as 12 = .ok (.ifCond .ne 10, 3) := by decide +kernel
theorem dX3_as_15 : decode cX3_as 15 = .ok (.aload_n 0, 1) := by decide +kernel
theorem dX3_as_16 : decode cX3_as 16 = .ok (.ldc 55, 2) := by decide +kernel
theorem dX3_as_18 : decode cX3_as 18 = .ok (.invokevirtual 56, 3) := by decide +kernel
theorem dX3_as_21 : decode cX3_as 21 = .ok (.ireturn, 1) := by decide +kernel
theorem dX3_as_22 : decode cX3_as 22 = .ok (.aload_n 0, 1) := by decide +kernel
theorem dX3_as_23 : decode cX3_as 23 = .ok (.getfield 10, 3) := by decide +kernel
theorem dX3_as_26 : decode cX3_as 26 = .ok (.getfield 81, 3) := by decide +kernel
theorem dX3_as_29 : decode cX3_as 29 = .ok (.iload_n 1, 1) := by decide +kernel
theorem dX3_as_30 : decode cX3_as 30 = .ok (.iaload, 1) := by decide +kernel
theorem dX3_as_31 : decode cX3_as 31 = .ok (.iload_n 2, 1) := by decide +kernel
theorem dX3_as_32 : decode cX3_as 32 = .ok (.invokestatic 110, 3) := by decide +kernel
theorem dX3_as_35 : decode cX3_as 35 = .ok (.ifCond .ne 10, 3) := by decide +kernel
theorem dX3_as_38 : decode cX3_as 38 = .ok (.aload_n 0, 1) := by decide +kernel
theorem dX3_as_39 : decode cX3_as 39 = .ok (.ldc 114, 2) := by decide +kernel
theorem dX3_as_41 : decode cX3_as 41 = .ok (.invokevirtual 56, 3) := by decide +kernel
theorem dX3_as_44 : decode cX3_as 44 = .ok (.ireturn, 1) := by decide +kernel
theorem dX3_as_45 : decode cX3_as 45 = .ok (.aload_n 0, 1) := by decide +kernel
theorem dX3_as_46 : decode cX3_as 46 = .ok (.getfield 10, 3) := by decide +kernel
theorem dX3_as_49 : decode cX3_as 49 = .ok (.getfield 87, 3) := by decide +kernel
theorem dX3_as_52 : decode cX3_as 52 = .ok (.iload_n 1, 1) := by decide +kernel
theorem dX3_as_53 : decode cX3_as 53 = .ok (.iaload, 1) := by decide +kernel
theorem dX3_as_54 : decode cX3_as 54 = .ok (.ireturn, 1) := by decide +kernel
theorem dX3_swap_0 : decode cX3_swap 0 = .ok (.aload_n 0, 1) := by decide +kernel
theorem dX3_swap_1 : decode cX3_swap 1 = .ok (.iload_n 1, 1) := by decide +kernel
theorem dX3_swap_2 : decode cX3_swap 2 = .ok (.invokevirtual 78, 3) := by decide +kernel
theorem dX3_swap_5 : decode cX3_swap 5 = .ok (.ifCond .eq 11, 3) := by decide +kernel
theorem dX3_swap_8 : decode cX3_swap 8 = .ok (.aload_n 0, 1) := by decide +kernel
theorem dX3_swap_9 : decode cX3_swap 9 = .ok (.iload_n 2, 1) := by decide +kernel
theorem dX3_swap_10 : decode cX3_swap 10 = .ok (.invokevirtual 78, 3) := by decide +kernel
theorem dX3_swap_13 : decode cX3_swap 13 = .ok (.ifCond .ne 10, 3) := by decide +kernel
theorem dX3_swap_16 : decode cX3_swap 16 = .ok (.aload_n 0, 1) := by decide +kernel
theorem dX3_swap_17 : decode cX3_swap 17 = .ok (.ldc 55, 2) := by decide +kernel
theorem dX3_swap_19 : decode cX3_swap 19 = .ok (.invokevirtual 56, 3) := by decide +kernel
theorem dX3_swap_22 : decode cX3_swap 22 = .ok (.ireturn, 1) := by decide +kernel
theorem dX3_swap_23 : decode cX3_swap 23 = .ok (.aload_n 0, 1) := by decide +kernel
theorem dX3_swap_24 : decode cX3_swap 24 = .ok (.getfield 10, 3) := by decide +kernel
theorem dX3_swap_27 : decode cX3_swap 27 = .ok (.iload_n 1, 1) := by decide +kernel
theorem dX3_swap_28 : decode cX3_swap 28 = .ok (.iload_n 2, 1) := by decide +kernel
theorem dX3_swap_29 : decode cX3_swap 29 = .ok (.invokevirtual 115, 3) := by decide +kernel
theorem dX3_swap_32 : decode cX3_swap 32 = .ok (.iconst 1, 1) := by decide +kernel
theorem dX3_swap_33 : decode cX3_swap 33 = .ok (.ireturn, 1) := by decide +kernel
theorem dX3_plant_0 : decode cX3_plant 0 = .ok (.aload_n 0, 1) := by decide +kernel
theorem dX3_plant_1 : decode cX3_plant 1 = .ok (.iload_n 1, 1) := by decide +kernel
theorem dX3_plant_2 : decode cX3_plant 2 = .ok (.invokevirtual 78, 3) := by decide +kernel
theorem dX3_plant_5 : decode cX3_plant 5 = .ok (.ifCond .ne 10, 3) := by decide +kernel
theorem dX3_plant_8 : decode cX3_plant 8 = .ok (.aload_n 0, 1) := by decide +kernel
theorem dX3_plant_9 : decode cX3_plant 9 = .ok (.ldc 55, 2) := by decide +kernel
theorem dX3_plant_11 : decode cX3_plant 11 = .ok (.invokevirtual 56, 3) := by decide +kernel
theorem dX3_plant_14 : decode cX3_plant 14 = .ok (.ireturn, 1) := by decide +kernel
theorem dX3_plant_15 : decode cX3_plant 15 = .ok (.aload_n 0, 1) := by decide +kernel
theorem dX3_plant_16 : decode cX3_plant 16 = .ok (.getfield 10, 3) := by decide +kernel
theorem dX3_plant_19 : decode cX3_plant 19 = .ok (.getfield 90, 3) := by decide +kernel
theorem dX3_plant_22 : decode cX3_plant 22 = .ok (.iload_n 1, 1) := by decide +kernel
theorem dX3_plant_23 : decode cX3_plant 23 = .ok (.iaload, 1) := by decide +kernel
theorem dX3_plant_24 : decode cX3_plant 24 = .ok (.ifCond .ne 13, 3) := by decide +kernel
theorem dX3_plant_27 : decode cX3_plant 27 = .ok (.aload_n 0, 1) := by decide +kernel
theorem dX3_plant_28 : decode cX3_plant 28 = .ok (.getfield 10, 3) := by decide +kernel
theorem dX3_plant_31 : decode cX3_plant 31 = .ok (.invokevirtual 119, 3) := by decide +kernel
theorem dX3_plant_34 : decode cX3_plant 34 = .ok (.ifCond .ne 10, 3) := by decide +kernel
theorem dX3_plant_37 : decode cX3_plant 37 = .ok (.aload_n 0, 1) := by decide +kernel
theorem dX3_plant_38 : decode cX3_plant 38 = .ok (.ldc 123, 2) := by decide +kernel
theorem dX3_plant_40 : decode cX3_plant 40 = .ok (.invokevirtual 56, 3) := by decide +kernel
theorem dX3_plant_43 : decode cX3_plant 43 = .ok (.ireturn, 1) := by decide +kernel
theorem dX3_plant_44 : decode cX3_plant 44 = .ok (.aload_n 0, 1) := by decide +kernel
theorem dX3_plant_45 : decode cX3_plant 45 = .ok (.getfield 10, 3) := by decide +kernel
theorem dX3_plant_48 : decode cX3_plant 48 = .ok (.getfield 90, 3) := by decide +kernel
theorem dX3_plant_51 : decode cX3_plant 51 = .ok (.iload_n 1, 1) := by decide +kernel
theorem dX3_plant_52 : decode cX3_plant 52 = .ok (.iconst 2, 1) := by decide +kernel
theorem dX3_plant_53 : decode cX3_plant 53 = .ok (.iastore, 1) := by decide +kernel
theorem dX3_plant_54 : decode cX3_plant 54 = .ok (.aload_n 0, 1) := by decide +kernel
theorem dX3_plant_55 : decode cX3_plant 55 = .ok (.getfield 10, 3) := by decide +kernel
theorem dX3_plant_58 : decode cX3_plant 58 = .ok (.getfield 87, 3) := by decide +kernel
theorem dX3_plant_61 : decode cX3_plant 61 = .ok (.iload_n 1, 1) := by decide +kernel
theorem dX3_plant_62 : decode cX3_plant 62 = .ok (.iaload, 1) := by decide +kernel
theorem dX3_plant_63 : decode cX3_plant 63 = .ok (.ireturn, 1) := by decide +kernel
theorem dX3_purse_0 : decode cX3_purse 0 = .ok (.iload_n 1, 1) := by decide +kernel
theorem dX3_purse_1 : decode cX3_purse 1 = .ok (.invokestatic 47, 3) := by decide +kernel
theorem dX3_purse_4 : decode cX3_purse 4 = .ok (.ifCond .eq 14, 3) := by decide +kernel
theorem dX3_purse_7 : decode cX3_purse 7 = .ok (.aload_n 0, 1) := by decide +kernel
theorem dX3_purse_8 : decode cX3_purse 8 = .ok (.getfield 10, 3) := by decide +kernel
theorem dX3_purse_11 : decode cX3_purse 11 = .ok (.iload_n 1, 1) := by decide +kernel
theorem dX3_purse_12 : decode cX3_purse 12 = .ok (.invokevirtual 124, 3) := by decide +kernel
theorem dX3_purse_15 : decode cX3_purse 15 = .ok (.goto 9, 3) := by decide +kernel
theorem dX3_purse_18 : decode cX3_purse 18 = .ok (.aload_n 0, 1) := by decide +kernel
theorem dX3_purse_19 : decode cX3_purse 19 = .ok (.ldc 55, 2) := by decide +kernel
theorem dX3_purse_21 : decode cX3_purse 21 = .ok (.invokevirtual 56, 3) := by decide +kernel
theorem dX3_purse_24 : decode cX3_purse 24 = .ok (.ireturn, 1) := by decide +kernel
theorem dX3_pay_0 : decode cX3_pay 0 = .ok (.iload_n 1, 1) := by decide +kernel
theorem dX3_pay_1 : decode cX3_pay 1 = .ok (.iload_n 2, 1) := by decide +kernel
theorem dX3_pay_2 : decode cX3_pay 2 = .ok (.invokestatic 127, 3) := by decide +kernel
theorem dX3_pay_5 : decode cX3_pay 5 = .ok (.ifCond .eq 10, 3) := by decide +kernel
theorem dX3_pay_8 : decode cX3_pay 8 = .ok (.iload_n 3, 1) := by decide +kernel
theorem dX3_pay_9 : decode cX3_pay 9 = .ok (.invokestatic 130, 3) := by decide +kernel
theorem dX3_pay_12 : decode cX3_pay 12 = .ok (.ifCond .ne 10, 3) := by decide +kernel
theorem dX3_pay_15 : decode cX3_pay 15 = .ok (.aload_n 0, 1) := by decide +kernel
theorem dX3_pay_16 : decode cX3_pay 16 = .ok (.ldc 55, 2) := by decide +kernel
theorem dX3_pay_18 : decode cX3_pay 18 = .ok (.invokevirtual 56, 3) := by decide +kernel
theorem dX3_pay_21 : decode cX3_pay 21 = .ok (.ireturn, 1) := by decide +kernel
theorem dX3_pay_22 : decode cX3_pay 22 = .ok (.aload_n 0, 1) := by decide +kernel
theorem dX3_pay_23 : decode cX3_pay 23 = .ok (.getfield 10, 3) := by decide +kernel
theorem dX3_pay_26 : decode cX3_pay 26 = .ok (.iload_n 1, 1) := by decide +kernel
theorem dX3_pay_27 : decode cX3_pay 27 = .ok (.iload_n 2, 1) := by decide +kernel
theorem dX3_pay_28 : decode cX3_pay 28 = .ok (.iload_n 3, 1) := by decide +kernel
theorem dX3_pay_29 : decode cX3_pay 29 = .ok (.invokevirtual 133, 3) := by decide +kernel
theorem dX3_pay_32 : decode cX3_pay 32 = .ok (.ireturn, 1) := by decide +kernel
theorem dX3_which_0 : decode cX3_which 0 = .ok (.iload_n 1, 1) := by decide +kernel
theorem dX3_which_1 : decode cX3_which 1 = .ok (.invokestatic 47, 3) := by decide +kernel
theorem dX3_which_4 : decode cX3_which 4 = .ok (.ifCond .eq 10, 3) := by decide +kernel
theorem dX3_which_7 : decode cX3_which 7 = .ok (.iload_n 2, 1) := by decide +kernel
theorem dX3_which_8 : decode cX3_which 8 = .ok (.invokestatic 130, 3) := by decide +kernel
theorem dX3_which_11 : decode cX3_which 11 = .ok (.ifCond .ne 10, 3) := by decide +kernel
theorem dX3_which_14 : decode cX3_which 14 = .ok (.aload_n 0, 1) := by decide +kernel
theorem dX3_which_15 : decode cX3_which 15 = .ok (.ldc 55, 2) := by decide +kernel
theorem dX3_which_17 : decode cX3_which 17 = .ok (.invokevirtual 56, 3) := by decide +kernel
theorem dX3_which_20 : decode cX3_which 20 = .ok (.ireturn, 1) := by decide +kernel
theorem dX3_which_21 : decode cX3_which 21 = .ok (.aload_n 0, 1) := by decide +kernel
theorem dX3_which_22 : decode cX3_which 22 = .ok (.getfield 10, 3) := by decide +kernel
theorem dX3_which_25 : decode cX3_which 25 = .ok (.iload_n 1, 1) := by decide +kernel
theorem dX3_which_26 : decode cX3_which 26 = .ok (.iload_n 2, 1) := by decide +kernel
theorem dX3_which_27 : decode cX3_which 27 = .ok (.invokevirtual 137, 3) := by decide +kernel
theorem dX3_which_30 : decode cX3_which 30 = .ok (.ireturn, 1) := by decide +kernel
theorem dX3_over_0 : decode cX3_over 0 = .ok (.iload_n 1, 1) := by decide +kernel
theorem dX3_over_1 : decode cX3_over 1 = .ok (.invokestatic 47, 3) := by decide +kernel
theorem dX3_over_4 : decode cX3_over 4 = .ok (.ifCond .eq 10, 3) := by decide +kernel
theorem dX3_over_7 : decode cX3_over 7 = .ok (.iload_n 2, 1) := by decide +kernel
theorem dX3_over_8 : decode cX3_over 8 = .ok (.invokestatic 130, 3) := by decide +kernel
theorem dX3_over_11 : decode cX3_over 11 = .ok (.ifCond .ne 10, 3) := by decide +kernel
theorem dX3_over_14 : decode cX3_over 14 = .ok (.aload_n 0, 1) := by decide +kernel
theorem dX3_over_15 : decode cX3_over 15 = .ok (.ldc 55, 2) := by decide +kernel
theorem dX3_over_17 : decode cX3_over 17 = .ok (.invokevirtual 56, 3) := by decide +kernel
theorem dX3_over_20 : decode cX3_over 20 = .ok (.ireturn, 1) := by decide +kernel
theorem dX3_over_21 : decode cX3_over 21 = .ok (.aload_n 0, 1) := by decide +kernel
theorem dX3_over_22 : decode cX3_over 22 = .ok (.getfield 10, 3) := by decide +kernel
theorem dX3_over_25 : decode cX3_over 25 = .ok (.aload_n 0, 1) := by decide +kernel
theorem dX3_over_26 : decode cX3_over 26 = .ok (.getfield 10, 3) := by decide +kernel
theorem dX3_over_29 : decode cX3_over 29 = .ok (.iload_n 1, 1) := by decide +kernel
theorem dX3_over_30 : decode cX3_over 30 = .ok (.iload_n 2, 1) := by decide +kernel
theorem dX3_over_31 : decode cX3_over 31 = .ok (.invokevirtual 137, 3) := by decide +kernel
theorem dX3_over_34 : decode cX3_over 34 = .ok (.invokevirtual 140, 3) := by decide +kernel
theorem dX3_over_37 : decode cX3_over 37 = .ok (.iload_n 2, 1) := by decide +kernel
theorem dX3_over_38 : decode cX3_over 38 = .ok (.isub, 1) := by decide +kernel
theorem dX3_over_39 : decode cX3_over 39 = .ok (.ireturn, 1) := by decide +kernel
theorem dX3_loan_0 : decode cX3_loan 0 = .ok (.iload_n 1, 1) := by decide +kernel
theorem dX3_loan_1 : decode cX3_loan 1 = .ok (.iload_n 2, 1) := by decide +kernel
theorem dX3_loan_2 : decode cX3_loan 2 = .ok (.invokestatic 127, 3) := by decide +kernel
theorem dX3_loan_5 : decode cX3_loan 5 = .ok (.ifCond .eq 21, 3) := by decide +kernel
theorem dX3_loan_8 : decode cX3_loan 8 = .ok (.iload_n 3, 1) := by decide +kernel
theorem dX3_loan_9 : decode cX3_loan 9 = .ok (.invokestatic 130, 3) := by decide +kernel
theorem dX3_loan_12 : decode cX3_loan 12 = .ok (.ifCond .eq 14, 3) := by decide +kernel
theorem dX3_loan_15 : decode cX3_loan 15 = .ok (.iload 4, 2) := by decide +kernel
theorem dX3_loan_17 : decode cX3_loan 17 = .ok (.iconst 1, 1) := by decide +kernel
theorem dX3_loan_18 : decode cX3_loan 18 = .ok (.bipush 120, 2) := by decide +kernel
theorem dX3_loan_20 : decode cX3_loan 20 = .ok (.invokestatic 51, 3) := by decide +kernel
theorem dX3_loan_23 : decode cX3_loan 23 = .ok (.ifCond .ne 10, 3) := by decide +kernel
theorem dX3_loan_26 : decode cX3_loan 26 = .ok (.aload_n 0, 1) := by decide +kernel
theorem dX3_loan_27 : decode cX3_loan 27 = .ok (.ldc 55, 2) := by decide +kernel
theorem dX3_loan_29 : decode cX3_loan 29 = .ok (.invokevirtual 56, 3) := by decide +kernel
theorem dX3_loan_32 : decode cX3_loan 32 = .ok (.ireturn, 1) := by decide +kernel
theorem dX3_loan_33 : decode cX3_loan 33 = .ok (.aload_n 0, 1) := by decide +kernel
theorem dX3_loan_34 : decode cX3_loan 34 = .ok (.iload 4, 2) := by decide +kernel
theorem dX3_loan_36 : decode cX3_loan 36 = .ok (.invokevirtual 143, 3) := by decide +kernel
theorem dX3_loan_39 : decode cX3_loan 39 = .ok (.ifCond .eq 10, 3) := by decide +kernel
theorem dX3_loan_42 : decode cX3_loan 42 = .ok (.aload_n 0, 1) := by decide +kernel
theorem dX3_loan_43 : decode cX3_loan 43 = .ok (.ldc 123, 2) := by decide +kernel
theorem dX3_loan_45 : decode cX3_loan 45 = .ok (.invokevirtual 56, 3) := by decide +kernel
theorem dX3_loan_48 : decode cX3_loan 48 = .ok (.ireturn, 1) := by decide +kernel
theorem dX3_loan_49 : decode cX3_loan 49 = .ok (.aload_n 0, 1) := by decide +kernel
theorem dX3_loan_50 : decode cX3_loan 50 = .ok (.getfield 10, 3) := by decide +kernel
theorem dX3_loan_53 : decode cX3_loan 53 = .ok (.getfield 146, 3) := by decide +kernel
theorem dX3_loan_56 : decode cX3_loan 56 = .ok (.bipush 8, 2) := by decide +kernel
theorem dX3_loan_58 : decode cX3_loan 58 = .ok (.if_icmp .lt 10, 3) := by decide +kernel
theorem dX3_loan_61 : decode cX3_loan 61 = .ok (.aload_n 0, 1) := by decide +kernel
theorem dX3_loan_62 : decode cX3_loan 62 = .ok (.ldc 73, 2) := by decide +kernel
theorem dX3_loan_64 : decode cX3_loan 64 = .ok (.invokevirtual 56, 3) := by decide +kernel
theorem dX3_loan_67 : decode cX3_loan 67 = .ok (.ireturn, 1) := by decide +kernel
theorem dX3_loan_68 : decode cX3_loan 68 = .ok (.aload_n 0, 1) := by decide +kernel
theorem dX3_loan_69 : decode cX3_loan 69 = .ok (.getfield 10, 3) := by decide +kernel
theorem dX3_loan_72 : decode cX3_loan 72 = .ok (.iload_n 1, 1) := by decide +kernel
theorem dX3_loan_73 : decode cX3_loan 73 = .ok (.iload_n 2, 1) := by decide +kernel
theorem dX3_loan_74 : decode cX3_loan 74 = .ok (.iload_n 3, 1) := by decide +kernel
theorem dX3_loan_75 : decode cX3_loan 75 = .ok (.iload 4, 2) := by decide +kernel
theorem dX3_loan_77 : decode cX3_loan 77 = .ok (.invokevirtual 149, 3) := by decide +kernel
theorem dX3_loan_80 : decode cX3_loan 80 = .ok (.ireturn, 1) := by decide +kernel
theorem dX3_loanOf_0 : decode cX3_loanOf 0 = .ok (.iload_n 1, 1) := by decide +kernel
theorem dX3_loanOf_1 : decode cX3_loanOf 1 = .ok (.iconst 0, 1) := by decide +kernel
theorem dX3_loanOf_2 : decode cX3_loanOf 2 = .ok (.aload_n 0, 1) := by decide +kernel
theorem dX3_loanOf_3 : decode cX3_loanOf 3 = .ok (.getfield 10, 3) := by decide +kernel
theorem dX3_loanOf_6 : decode cX3_loanOf 6 = .ok (.getfield 146, 3) := by decide +kernel
theorem dX3_loanOf_9 : decode cX3_loanOf 9 = .ok (.iconst 1, 1) := by decide +kernel
theorem dX3_loanOf_10 : decode cX3_loanOf 10 = .ok (.isub, 1) := by decide +kernel
theorem dX3_loanOf_11 : decode cX3_loanOf 11 = .ok (.invokestatic 51, 3) := by decide +kernel
theorem dX3_loanOf_14 : decode cX3_loanOf 14 = .ok (.ifCond .ne 10, 3) := by decide +kernel
theorem dX3_loanOf_17 : decode cX3_loanOf 17 = .ok (.aload_n 0, 1) := by decide +kernel
theorem dX3_loanOf_18 : decode cX3_loanOf 18 = .ok (.ldc 55, 2) := by decide +kernel
theorem dX3_loanOf_20 : decode cX3_loanOf 20 = .ok (.invokevirtual 56, 3) := by decide +kernel
theorem dX3_loanOf_23 : decode cX3_loanOf 23 = .ok (.ireturn, 1) := by decide +kernel
theorem dX3_loanOf_24 : decode cX3_loanOf 24 = .ok (.iload_n 2, 1) := by decide +kernel
theorem dX3_loanOf_25 : decode cX3_loanOf 25 = .ok (.tableswitch 85 0 4 #[35, 45, 55, 65, 75], 35) := by decide +kernel
theorem dX3_loanOf_60 : decode cX3_loanOf 60 = .ok (.aload_n 0, 1) := by decide +kernel
theorem dX3_loanOf_61 : decode cX3_loanOf 61 = .ok (.getfield 10, 3) := by decide +kernel
theorem dX3_loanOf_64 : decode cX3_loanOf 64 = .ok (.getfield 152, 3) := by decide +kernel
theorem dX3_loanOf_67 : decode cX3_loanOf 67 = .ok (.iload_n 1, 1) := by decide +kernel
theorem dX3_loanOf_68 : decode cX3_loanOf 68 = .ok (.iaload, 1) := by decide +kernel
theorem dX3_loanOf_69 : decode cX3_loanOf 69 = .ok (.ireturn, 1) := by decide +kernel
theorem dX3_loanOf_70 : decode cX3_loanOf 70 = .ok (.aload_n 0, 1) := by decide +kernel
theorem dX3_loanOf_71 : decode cX3_loanOf 71 = .ok (.getfield 10, 3) := by decide +kernel
theorem dX3_loanOf_74 : decode cX3_loanOf 74 = .ok (.getfield 155, 3) := by decide +kernel
theorem dX3_loanOf_77 : decode cX3_loanOf 77 = .ok (.iload_n 1, 1) := by decide +kernel
theorem dX3_loanOf_78 : decode cX3_loanOf 78 = .ok (.iaload, 1) := by decide +kernel
theorem dX3_loanOf_79 : decode cX3_loanOf 79 = .ok (.ireturn, 1) := by decide +kernel
theorem dX3_loanOf_80 : decode cX3_loanOf 80 = .ok (.aload_n 0, 1) := by decide +kernel
theorem dX3_loanOf_81 : decode cX3_loanOf 81 = .ok (.getfield 10, 3) := by decide +kernel
theorem dX3_loanOf_84 : decode cX3_loanOf 84 = .ok (.getfield 158, 3) := by decide +kernel
theorem dX3_loanOf_87 : decode cX3_loanOf 87 = .ok (.iload_n 1, 1) := by decide +kernel
theorem dX3_loanOf_88 : decode cX3_loanOf 88 = .ok (.iaload, 1) := by decide +kernel
theorem dX3_loanOf_89 : decode cX3_loanOf 89 = .ok (.ireturn, 1) := by decide +kernel
theorem dX3_loanOf_90 : decode cX3_loanOf 90 = .ok (.aload_n 0, 1) := by decide +kernel
theorem dX3_loanOf_91 : decode cX3_loanOf 91 = .ok (.getfield 10, 3) := by decide +kernel
theorem dX3_loanOf_94 : decode cX3_loanOf 94 = .ok (.getfield 161, 3) := by decide +kernel
theorem dX3_loanOf_97 : decode cX3_loanOf 97 = .ok (.iload_n 1, 1) := by decide +kernel
theorem dX3_loanOf_98 : decode cX3_loanOf 98 = .ok (.iaload, 1) := by decide +kernel
theorem dX3_loanOf_99 : decode cX3_loanOf 99 = .ok (.ireturn, 1) := by decide +kernel
theorem dX3_loanOf_100 : decode cX3_loanOf 100 = .ok (.aload_n 0, 1) := by decide +kernel
theorem dX3_loanOf_101 : decode cX3_loanOf 101 = .ok (.getfield 10, 3) := by decide +kernel
theorem dX3_loanOf_104 : decode cX3_loanOf 104 = .ok (.getfield 164, 3) := by decide +kernel
theorem dX3_loanOf_107 : decode cX3_loanOf 107 = .ok (.iload_n 1, 1) := by decide +kernel
theorem dX3_loanOf_108 : decode cX3_loanOf 108 = .ok (.iaload, 1) := by decide +kernel
theorem dX3_loanOf_109 : decode cX3_loanOf 109 = .ok (.ireturn, 1) := by decide +kernel
theorem dX3_loanOf_110 : decode cX3_loanOf 110 = .ok (.aload_n 0, 1) := by decide +kernel
theorem dX3_loanOf_111 : decode cX3_loanOf 111 = .ok (.ldc 55, 2) := by decide +kernel
theorem dX3_loanOf_113 : decode cX3_loanOf 113 = .ok (.invokevirtual 56, 3) := by decide +kernel
theorem dX3_loanOf_116 : decode cX3_loanOf 116 = .ok (.ireturn, 1) := by decide +kernel
theorem dX3_tax_0 : decode cX3_tax 0 = .ok (.aload_n 0, 1) := by decide +kernel
theorem dX3_tax_1 : decode cX3_tax 1 = .ok (.getfield 10, 3) := by decide +kernel
theorem dX3_tax_4 : decode cX3_tax 4 = .ok (.invokevirtual 167, 3) := by decide +kernel
theorem dX3_tax_7 : decode cX3_tax 7 = .ok (.ireturn, 1) := by decide +kernel
theorem dX3_months_0 : decode cX3_months 0 = .ok (.iload_n 1, 1) := by decide +kernel
theorem dX3_months_1 : decode cX3_months 1 = .ok (.iconst 1, 1) := by decide +kernel
theorem dX3_months_2 : decode cX3_months 2 = .ok (.bipush 120, 2) := by decide +kernel
theorem dX3_months_4 : decode cX3_months 4 = .ok (.invokestatic 51, 3) := by decide +kernel
theorem dX3_months_7 : decode cX3_months 7 = .ok (.ifCond .ne 10, 3) := by decide +kernel
theorem dX3_months_10 : decode cX3_months 10 = .ok (.aload_n 0, 1) := by decide +kernel
theorem dX3_months_11 : decode cX3_months 11 = .ok (.ldc 55, 2) := by decide +kernel
theorem dX3_months_13 : decode cX3_months 13 = .ok (.invokevirtual 56, 3) := by decide +kernel
theorem dX3_months_16 : decode cX3_months 16 = .ok (.ireturn, 1) := by decide +kernel
theorem dX3_months_17 : decode cX3_months 17 = .ok (.aload_n 0, 1) := by decide +kernel
theorem dX3_months_18 : decode cX3_months 18 = .ok (.iload_n 1, 1) := by decide +kernel
theorem dX3_months_19 : decode cX3_months 19 = .ok (.invokevirtual 143, 3) := by decide +kernel
theorem dX3_months_22 : decode cX3_months 22 = .ok (.ifCond .eq 10, 3) := by decide +kernel
theorem dX3_months_25 : decode cX3_months 25 = .ok (.aload_n 0, 1) := by decide +kernel
theorem dX3_months_26 : decode cX3_months 26 = .ok (.ldc 123, 2) := by decide +kernel
theorem dX3_months_28 : decode cX3_months 28 = .ok (.invokevirtual 56, 3) := by decide +kernel
theorem dX3_months_31 : decode cX3_months 31 = .ok (.ireturn, 1) := by decide +kernel
theorem dX3_months_32 : decode cX3_months 32 = .ok (.aload_n 0, 1) := by decide +kernel
theorem dX3_months_33 : decode cX3_months 33 = .ok (.getfield 10, 3) := by decide +kernel
theorem dX3_months_36 : decode cX3_months 36 = .ok (.iconst 1, 1) := by decide +kernel
theorem dX3_months_37 : decode cX3_months 37 = .ok (.invokevirtual 170, 3) := by decide +kernel
theorem dX3_months_40 : decode cX3_months 40 = .ok (.istore_n 2, 1) := by decide +kernel
theorem dX3_months_41 : decode cX3_months 41 = .ok (.aload_n 0, 1) := by decide +kernel
theorem dX3_months_42 : decode cX3_months 42 = .ok (.getfield 10, 3) := by decide +kernel
theorem dX3_months_45 : decode cX3_months 45 = .ok (.iload_n 1, 1) := by decide +kernel
theorem dX3_months_46 : decode cX3_months 46 = .ok (.invokevirtual 173, 3) := by decide +kernel
theorem dX3_months_49 : decode cX3_months 49 = .ok (.aload_n 0, 1) := by decide +kernel
theorem dX3_months_50 : decode cX3_months 50 = .ok (.getfield 10, 3) := by decide +kernel
theorem dX3_months_53 : decode cX3_months 53 = .ok (.iconst 1, 1) := by decide +kernel
theorem dX3_months_54 : decode cX3_months 54 = .ok (.invokevirtual 170, 3) := by decide +kernel
theorem dX3_months_57 : decode cX3_months 57 = .ok (.iload_n 2, 1) := by decide +kernel
theorem dX3_months_58 : decode cX3_months 58 = .ok (.isub, 1) := by decide +kernel
theorem dX3_months_59 : decode cX3_months 59 = .ok (.ireturn, 1) := by decide +kernel
theorem dX3_now_0 : decode cX3_now 0 = .ok (.iload_n 1, 1) := by decide +kernel
theorem dX3_now_1 : decode cX3_now 1 = .ok (.tableswitch 90 0 5 #[39, 47, 55, 63, 72, 81], 39) := by decide +kernel
theorem dX3_now_40 : decode cX3_now 40 = .ok (.aload_n 0, 1) := by decide +kernel
theorem dX3_now_41 : decode cX3_now 41 = .ok (.getfield 10, 3) := by decide +kernel
theorem dX3_now_44 : decode cX3_now 44 = .ok (.getfield 177, 3) := by decide +kernel
theorem dX3_now_47 : decode cX3_now 47 = .ok (.ireturn, 1) := by decide +kernel
theorem dX3_now_48 : decode cX3_now 48 = .ok (.aload_n 0, 1) := by decide +kernel
theorem dX3_now_49 : decode cX3_now 49 = .ok (.getfield 10, 3) := by decide +kernel
theorem dX3_now_52 : decode cX3_now 52 = .ok (.invokevirtual 96, 3) := by decide +kernel
theorem dX3_now_55 : decode cX3_now 55 = .ok (.ireturn, 1) := by decide +kernel
theorem dX3_now_56 : decode cX3_now 56 = .ok (.aload_n 0, 1) := by decide +kernel
theorem dX3_now_57 : decode cX3_now 57 = .ok (.getfield 10, 3) := by decide +kernel
theorem dX3_now_60 : decode cX3_now 60 = .ok (.getfield 180, 3) := by decide +kernel
theorem dX3_now_63 : decode cX3_now 63 = .ok (.ireturn, 1) := by decide +kernel
theorem dX3_now_64 : decode cX3_now 64 = .ok (.aload_n 0, 1) := by decide +kernel
theorem dX3_now_65 : decode cX3_now 65 = .ok (.getfield 10, 3) := by decide +kernel
theorem dX3_now_68 : decode cX3_now 68 = .ok (.iconst 0, 1) := by decide +kernel
theorem dX3_now_69 : decode cX3_now 69 = .ok (.invokevirtual 170, 3) := by decide +kernel
theorem dX3_now_72 : decode cX3_now 72 = .ok (.ireturn, 1) := by decide +kernel
theorem dX3_now_73 : decode cX3_now 73 = .ok (.aload_n 0, 1) := by decide +kernel
theorem dX3_now_74 : decode cX3_now 74 = .ok (.getfield 10, 3) := by decide +kernel
theorem dX3_now_77 : decode cX3_now 77 = .ok (.iconst 1, 1) := by decide +kernel
theorem dX3_now_78 : decode cX3_now 78 = .ok (.invokevirtual 170, 3) := by decide +kernel
theorem dX3_now_81 : decode cX3_now 81 = .ok (.ireturn, 1) := by decide +kernel
theorem dX3_now_82 : decode cX3_now 82 = .ok (.aload_n 0, 1) := by decide +kernel
theorem dX3_now_83 : decode cX3_now 83 = .ok (.getfield 10, 3) := by decide +kernel
theorem dX3_now_86 : decode cX3_now 86 = .ok (.iconst 2, 1) := by decide +kernel
theorem dX3_now_87 : decode cX3_now 87 = .ok (.invokevirtual 170, 3) := by decide +kernel
theorem dX3_now_90 : decode cX3_now 90 = .ok (.ireturn, 1) := by decide +kernel
theorem dX3_now_91 : decode cX3_now 91 = .ok (.aload_n 0, 1) := by decide +kernel
theorem dX3_now_92 : decode cX3_now 92 = .ok (.ldc 55, 2) := by decide +kernel
theorem dX3_now_94 : decode cX3_now 94 = .ok (.invokevirtual 56, 3) := by decide +kernel
theorem dX3_now_97 : decode cX3_now 97 = .ok (.ireturn, 1) := by decide +kernel
theorem dX3_on_0 : decode cX3_on 0 = .ok (.aload_n 0, 1) := by decide +kernel
theorem dX3_on_1 : decode cX3_on 1 = .ok (.iload_n 1, 1) := by decide +kernel
theorem dX3_on_2 : decode cX3_on 2 = .ok (.invokevirtual 78, 3) := by decide +kernel
theorem dX3_on_5 : decode cX3_on 5 = .ok (.ifCond .eq 13, 3) := by decide +kernel
theorem dX3_on_8 : decode cX3_on 8 = .ok (.iload_n 2, 1) := by decide +kernel
theorem dX3_on_9 : decode cX3_on 9 = .ok (.iconst 0, 1) := by decide +kernel
theorem dX3_on_10 : decode cX3_on 10 = .ok (.bipush 120, 2) := by decide +kernel
theorem dX3_on_12 : decode cX3_on 12 = .ok (.invokestatic 51, 3) := by decide +kernel
theorem dX3_on_15 : decode cX3_on 15 = .ok (.ifCond .ne 10, 3) := by decide +kernel
theorem dX3_on_18 : decode cX3_on 18 = .ok (.aload_n 0, 1) := by decide +kernel
theorem dX3_on_19 : decode cX3_on 19 = .ok (.ldc 55, 2) := by decide +kernel
theorem dX3_on_21 : decode cX3_on 21 = .ok (.invokevirtual 56, 3) := by decide +kernel
theorem dX3_on_24 : decode cX3_on 24 = .ok (.ireturn, 1) := by decide +kernel
theorem dX3_on_25 : decode cX3_on 25 = .ok (.aload_n 0, 1) := by decide +kernel
theorem dX3_on_26 : decode cX3_on 26 = .ok (.iload_n 2, 1) := by decide +kernel
theorem dX3_on_27 : decode cX3_on 27 = .ok (.invokevirtual 143, 3) := by decide +kernel
theorem dX3_on_30 : decode cX3_on 30 = .ok (.ifCond .eq 10, 3) := by decide +kernel
theorem dX3_on_33 : decode cX3_on 33 = .ok (.aload_n 0, 1) := by decide +kernel
theorem dX3_on_34 : decode cX3_on 34 = .ok (.ldc 123, 2) := by decide +kernel
theorem dX3_on_36 : decode cX3_on 36 = .ok (.invokevirtual 56, 3) := by decide +kernel
theorem dX3_on_39 : decode cX3_on 39 = .ok (.ireturn, 1) := by decide +kernel
theorem dX3_on_40 : decode cX3_on 40 = .ok (.aload_n 0, 1) := by decide +kernel
theorem dX3_on_41 : decode cX3_on 41 = .ok (.getfield 19, 3) := by decide +kernel
theorem dX3_on_44 : decode cX3_on 44 = .ok (.aload_n 0, 1) := by decide +kernel
theorem dX3_on_45 : decode cX3_on 45 = .ok (.getfield 10, 3) := by decide +kernel
theorem dX3_on_48 : decode cX3_on 48 = .ok (.invokevirtual 183, 3) := by decide +kernel
theorem dX3_on_51 : decode cX3_on 51 = .ok (.aload_n 0, 1) := by decide +kernel
theorem dX3_on_52 : decode cX3_on 52 = .ok (.getfield 19, 3) := by decide +kernel
theorem dX3_on_55 : decode cX3_on 55 = .ok (.iload_n 2, 1) := by decide +kernel
theorem dX3_on_56 : decode cX3_on 56 = .ok (.invokevirtual 187, 3) := by decide +kernel
theorem dX3_on_59 : decode cX3_on 59 = .ok (.aload_n 0, 1) := by decide +kernel
theorem dX3_on_60 : decode cX3_on 60 = .ok (.getfield 19, 3) := by decide +kernel
theorem dX3_on_63 : decode cX3_on 63 = .ok (.getfield 87, 3) := by decide +kernel
theorem dX3_on_66 : decode cX3_on 66 = .ok (.iload_n 1, 1) := by decide +kernel
theorem dX3_on_67 : decode cX3_on 67 = .ok (.iaload, 1) := by decide +kernel
theorem dX3_on_68 : decode cX3_on 68 = .ok (.ireturn, 1) := by decide +kernel
theorem dX3_purseOn_0 : decode cX3_purseOn 0 = .ok (.iload_n 1, 1) := by decide +kernel
theorem dX3_purseOn_1 : decode cX3_purseOn 1 = .ok (.invokestatic 47, 3) := by decide +kernel
theorem dX3_purseOn_4 : decode cX3_purseOn 4 = .ok (.ifCond .eq 13, 3) := by decide +kernel
theorem dX3_purseOn_7 : decode cX3_purseOn 7 = .ok (.iload_n 2, 1) := by decide +kernel
theorem dX3_purseOn_8 : decode cX3_purseOn 8 = .ok (.iconst 0, 1) := by decide +kernel
theorem dX3_purseOn_9 : decode cX3_purseOn 9 = .ok (.bipush 120, 2) := by decide +kernel
theorem dX3_purseOn_11 : decode cX3_purseOn 11 = .ok (.invokestatic 51, 3) := by decide +kernel
theorem dX3_purseOn_14 : decode cX3_purseOn 14 = .ok (.ifCond .ne 10, 3) := by decide +kernel
theorem dX3_purseOn_17 : decode cX3_purseOn 17 = .ok (.aload_n 0, 1) := by decide +kernel
theorem dX3_purseOn_18 : decode cX3_purseOn 18 = .ok (.ldc 55, 2) := by decide +kernel
theorem dX3_purseOn_20 : decode cX3_purseOn 20 = .ok (.invokevirtual 56, 3) := by decide +kernel
theorem dX3_purseOn_23 : decode cX3_purseOn 23 = .ok (.ireturn, 1) := by decide +kernel
theorem dX3_purseOn_24 : decode cX3_purseOn 24 = .ok (.aload_n 0, 1) := by decide +kernel
theorem dX3_purseOn_25 : decode cX3_purseOn 25 = .ok (.iload_n 2, 1) := by decide +kernel
theorem dX3_purseOn_26 : decode cX3_purseOn 26 = .ok (.invokevirtual 143, 3) := by decide +kernel
theorem dX3_purseOn_29 : decode cX3_purseOn 29 = .ok (.ifCond .eq 10, 3) := by decide +kernel
theorem dX3_purseOn_32 : decode cX3_purseOn 32 = .ok (.aload_n 0, 1) := by decide +kernel
theorem dX3_purseOn_33 : decode cX3_purseOn 33 = .ok (.ldc 123, 2) := by decide +kernel
theorem dX3_purseOn_35 : decode cX3_purseOn 35 = .ok (.invokevirtual 56, 3) := by decide +kernel
theorem dX3_purseOn_38 : decode cX3_purseOn 38 = .ok (.ireturn, 1) := by decide +kernel
theorem dX3_purseOn_39 : decode cX3_purseOn 39 = .ok (.aload_n 0, 1) := by decide +kernel
theorem dX3_purseOn_40 : decode cX3_purseOn 40 = .ok (.getfield 19, 3) := by decide +kernel
theorem dX3_purseOn_43 : decode cX3_purseOn 43 = .ok (.aload_n 0, 1) := by decide +kernel
theorem dX3_purseOn_44 : decode cX3_purseOn 44 = .ok (.getfield 10, 3) := by decide +kernel
theorem dX3_purseOn_47 : decode cX3_purseOn 47 = .ok (.invokevirtual 183, 3) := by decide +kernel
theorem dX3_purseOn_50 : decode cX3_purseOn 50 = .ok (.aload_n 0, 1) := by decide +kernel
theorem dX3_purseOn_51 : decode cX3_purseOn 51 = .ok (.getfield 19, 3) := by decide +kernel
theorem dX3_purseOn_54 : decode cX3_purseOn 54 = .ok (.iload_n 2, 1) := by decide +kernel
theorem dX3_purseOn_55 : decode cX3_purseOn 55 = .ok (.invokevirtual 173, 3) := by decide +kernel
theorem dX3_purseOn_58 : decode cX3_purseOn 58 = .ok (.aload_n 0, 1) := by decide +kernel
theorem dX3_purseOn_59 : decode cX3_purseOn 59 = .ok (.getfield 19, 3) := by decide +kernel
theorem dX3_purseOn_62 : decode cX3_purseOn 62 = .ok (.iload_n 1, 1) := by decide +kernel
theorem dX3_purseOn_63 : decode cX3_purseOn 63 = .ok (.invokevirtual 124, 3) := by decide +kernel
theorem dX3_purseOn_66 : decode cX3_purseOn 66 = .ok (.ireturn, 1) := by decide +kernel
theorem dX3_rich_0 : decode cX3_rich 0 = .ok (.iload_n 1, 1) := by decide +kernel
theorem dX3_rich_1 : decode cX3_rich 1 = .ok (.iconst 0, 1) := by decide +kernel
theorem dX3_rich_2 : decode cX3_rich 2 = .ok (.bipush 120, 2) := by decide +kernel
theorem dX3_rich_4 : decode cX3_rich 4 = .ok (.invokestatic 51, 3) := by decide +kernel
theorem dX3_rich_7 : decode cX3_rich 7 = .ok (.ifCond .ne 10, 3) := by decide +kernel
theorem dX3_rich_10 : decode cX3_rich 10 = .ok (.aload_n 0, 1) := by decide +kernel
theorem dX3_rich_11 : decode cX3_rich 11 = .ok (.ldc 55, 2) := by decide +kernel
theorem dX3_rich_13 : decode cX3_rich 13 = .ok (.invokevirtual 56, 3) := by decide +kernel
theorem dX3_rich_16 : decode cX3_rich 16 = .ok (.ireturn, 1) := by decide +kernel
theorem dX3_rich_17 : decode cX3_rich 17 = .ok (.aload_n 0, 1) := by decide +kernel
theorem dX3_rich_18 : decode cX3_rich 18 = .ok (.iload_n 1, 1) := by decide +kernel
theorem dX3_rich_19 : decode cX3_rich 19 = .ok (.invokevirtual 143, 3) := by decide +kernel
theorem dX3_rich_22 : decode cX3_rich 22 = .ok (.ifCond .eq 10, 3) := by decide +kernel
theorem dX3_rich_25 : decode cX3_rich 25 = .ok (.aload_n 0, 1) := by decide +kernel
theorem dX3_rich_26 : decode cX3_rich 26 = .ok (.ldc 123, 2) := by decide +kernel
theorem dX3_rich_28 : decode cX3_rich 28 = .ok (.invokevirtual 56, 3) := by decide +kernel
theorem dX3_rich_31 : decode cX3_rich 31 = .ok (.ireturn, 1) := by decide +kernel
theorem dX3_rich_32 : decode cX3_rich 32 = .ok (.aload_n 0, 1) := by decide +kernel
theorem dX3_rich_33 : decode cX3_rich 33 = .ok (.getfield 19, 3) := by decide +kernel
theorem dX3_rich_36 : decode cX3_rich 36 = .ok (.aload_n 0, 1) := by decide +kernel
theorem dX3_rich_37 : decode cX3_rich 37 = .ok (.getfield 10, 3) := by decide +kernel
theorem dX3_rich_40 : decode cX3_rich 40 = .ok (.invokevirtual 183, 3) := by decide +kernel
theorem dX3_rich_43 : decode cX3_rich 43 = .ok (.aload_n 0, 1) := by decide +kernel
theorem dX3_rich_44 : decode cX3_rich 44 = .ok (.getfield 19, 3) := by decide +kernel
theorem dX3_rich_47 : decode cX3_rich 47 = .ok (.iload_n 1, 1) := by decide +kernel
theorem dX3_rich_48 : decode cX3_rich 48 = .ok (.invokevirtual 173, 3) := by decide +kernel
theorem dX3_rich_51 : decode cX3_rich 51 = .ok (.aload_n 0, 1) := by decide +kernel
theorem dX3_rich_52 : decode cX3_rich 52 = .ok (.getfield 19, 3) := by decide +kernel
theorem dX3_rich_55 : decode cX3_rich 55 = .ok (.invokevirtual 190, 3) := by decide +kernel
theorem dX3_rich_58 : decode cX3_rich 58 = .ok (.ireturn, 1) := by decide +kernel
theorem dX3_rots_0 : decode cX3_rots 0 = .ok (.aload_n 0, 1) := by decide +kernel
theorem dX3_rots_1 : decode cX3_rots 1 = .ok (.iload_n 1, 1) := by decide +kernel
theorem dX3_rots_2 : decode cX3_rots 2 = .ok (.invokevirtual 78, 3) := by decide +kernel
theorem dX3_rots_5 : decode cX3_rots 5 = .ok (.ifCond .ne 10, 3) := by decide +kernel
theorem dX3_rots_8 : decode cX3_rots 8 = .ok (.aload_n 0, 1) := by decide +kernel
theorem dX3_rots_9 : decode cX3_rots 9 = .ok (.ldc 55, 2) := by decide +kernel
theorem dX3_rots_11 : decode cX3_rots 11 = .ok (.invokevirtual 56, 3) := by decide +kernel
theorem dX3_rots_14 : decode cX3_rots 14 = .ok (.ireturn, 1) := by decide +kernel
theorem dX3_rots_15 : decode cX3_rots 15 = .ok (.aload_n 0, 1) := by decide +kernel
theorem dX3_rots_16 : decode cX3_rots 16 = .ok (.bipush 120, 2) := by decide +kernel
theorem dX3_rots_18 : decode cX3_rots 18 = .ok (.invokevirtual 143, 3) := by decide +kernel
theorem dX3_rots_21 : decode cX3_rots 21 = .ok (.ifCond .eq 10, 3) := by decide +kernel
theorem dX3_rots_24 : decode cX3_rots 24 = .ok (.aload_n 0, 1) := by decide +kernel
theorem dX3_rots_25 : decode cX3_rots 25 = .ok (.ldc 123, 2) := by decide +kernel
theorem dX3_rots_27 : decode cX3_rots 27 = .ok (.invokevirtual 56, 3) := by decide +kernel
theorem dX3_rots_30 : decode cX3_rots 30 = .ok (.ireturn, 1) := by decide +kernel
theorem dX3_rots_31 : decode cX3_rots 31 = .ok (.aload_n 0, 1) := by decide +kernel
theorem dX3_rots_32 : decode cX3_rots 32 = .ok (.getfield 19, 3) := by decide +kernel
theorem dX3_rots_35 : decode cX3_rots 35 = .ok (.aload_n 0, 1) := by decide +kernel
theorem dX3_rots_36 : decode cX3_rots 36 = .ok (.getfield 10, 3) := by decide +kernel
theorem dX3_rots_39 : decode cX3_rots 39 = .ok (.invokevirtual 183, 3) := by decide +kernel
theorem dX3_rots_42 : decode cX3_rots 42 = .ok (.iconst 0, 1) := by decide +kernel
theorem dX3_rots_43 : decode cX3_rots 43 = .ok (.istore_n 2, 1) := by decide +kernel
theorem dX3_rots_44 : decode cX3_rots 44 = .ok (.iload_n 2, 1) := by decide +kernel
theorem dX3_rots_45 : decode cX3_rots 45 = .ok (.bipush 120, 2) := by decide +kernel
theorem dX3_rots_47 : decode cX3_rots 47 = .ok (.if_icmp .gt 32, 3) := by decide +kernel
theorem dX3_rots_50 : decode cX3_rots 50 = .ok (.aload_n 0, 1) := by decide +kernel
theorem dX3_rots_51 : decode cX3_rots 51 = .ok (.getfield 19, 3) := by decide +kernel
theorem dX3_rots_54 : decode cX3_rots 54 = .ok (.getfield 90, 3) := by decide +kernel
theorem dX3_rots_57 : decode cX3_rots 57 = .ok (.iload_n 1, 1) := by decide +kernel
theorem dX3_rots_58 : decode cX3_rots 58 = .ok (.iaload, 1) := by decide +kernel
theorem dX3_rots_59 : decode cX3_rots 59 = .ok (.iconst 1, 1) := by decide +kernel
theorem dX3_rots_60 : decode cX3_rots 60 = .ok (.if_icmp .ne 5, 3) := by decide +kernel
theorem dX3_rots_63 : decode cX3_rots 63 = .ok (.iload_n 2, 1) := by decide +kernel
theorem dX3_rots_64 : decode cX3_rots 64 = .ok (.ireturn, 1) := by decide +kernel
theorem dX3_rots_65 : decode cX3_rots 65 = .ok (.aload_n 0, 1) := by decide +kernel
theorem dX3_rots_66 : decode cX3_rots 66 = .ok (.getfield 19, 3) := by decide +kernel
theorem dX3_rots_69 : decode cX3_rots 69 = .ok (.iconst 1, 1) := by decide +kernel
theorem dX3_rots_70 : decode cX3_rots 70 = .ok (.invokevirtual 187, 3) := by decide +kernel
theorem dX3_rots_73 : decode cX3_rots 73 = .ok (.iinc 2 1, 3) := by decide +kernel
theorem dX3_rots_76 : decode cX3_rots 76 = .ok (.goto (-32), 3) := by decide +kernel
theorem dX3_rots_79 : decode cX3_rots 79 = .ok (.aload_n 0, 1) := by decide +kernel
theorem dX3_rots_80 : decode cX3_rots 80 = .ok (.ldc 193, 2) := by decide +kernel
theorem dX3_rots_82 : decode cX3_rots 82 = .ok (.invokevirtual 56, 3) := by decide +kernel
theorem dX3_rots_85 : decode cX3_rots 85 = .ok (.ireturn, 1) := by decide +kernel
theorem dX3_when_0 : decode cX3_when 0 = .ok (.aload_n 0, 1) := by decide +kernel
theorem dX3_when_1 : decode cX3_when 1 = .ok (.iload_n 1, 1) := by decide +kernel
theorem dX3_when_2 : decode cX3_when 2 = .ok (.invokevirtual 78, 3) := by decide +kernel
theorem dX3_when_5 : decode cX3_when 5 = .ok (.ifCond .ne 10, 3) := by decide +kernel
theorem dX3_when_8 : decode cX3_when 8 = .ok (.aload_n 0, 1) := by decide +kernel
theorem dX3_when_9 : decode cX3_when 9 = .ok (.ldc 55, 2) := by decide +kernel
theorem dX3_when_11 : decode cX3_when 11 = .ok (.invokevirtual 56, 3) := by decide +kernel
theorem dX3_when_14 : decode cX3_when 14 = .ok (.ireturn, 1) := by decide +kernel
theorem dX3_when_15 : decode cX3_when 15 = .ok (.aload_n 0, 1) := by decide +kernel
theorem dX3_when_16 : decode cX3_when 16 = .ok (.bipush 24, 2) := by decide +kernel
theorem dX3_when_18 : decode cX3_when 18 = .ok (.invokevirtual 143, 3) := by decide +kernel
theorem dX3_when_21 : decode cX3_when 21 = .ok (.ifCond .eq 10, 3) := by decide +kernel
theorem dX3_when_24 : decode cX3_when 24 = .ok (.aload_n 0, 1) := by decide +kernel
theorem dX3_when_25 : decode cX3_when 25 = .ok (.ldc 123, 2) := by decide +kernel
theorem dX3_when_27 : decode cX3_when 27 = .ok (.invokevirtual 56, 3) := by decide +kernel
theorem dX3_when_30 : decode cX3_when 30 = .ok (.ireturn, 1) := by decide +kernel
theorem dX3_when_31 : decode cX3_when 31 = .ok (.aload_n 0, 1) := by decide +kernel
theorem dX3_when_32 : decode cX3_when 32 = .ok (.getfield 19, 3) := by decide +kernel
theorem dX3_when_35 : decode cX3_when 35 = .ok (.aload_n 0, 1) := by decide +kernel
theorem dX3_when_36 : decode cX3_when 36 = .ok (.getfield 10, 3) := by decide +kernel
theorem dX3_when_39 : decode cX3_when 39 = .ok (.invokevirtual 183, 3) := by decide +kernel
theorem dX3_when_42 : decode cX3_when 42 = .ok (.aload_n 0, 1) := by decide +kernel
theorem dX3_when_43 : decode cX3_when 43 = .ok (.getfield 19, 3) := by decide +kernel
theorem dX3_when_46 : decode cX3_when 46 = .ok (.iload_n 1, 1) := by decide +kernel
theorem dX3_when_47 : decode cX3_when 47 = .ok (.invokevirtual 93, 3) := by decide +kernel
theorem dX3_when_50 : decode cX3_when 50 = .ok (.istore_n 2, 1) := by decide +kernel
theorem dX3_when_51 : decode cX3_when 51 = .ok (.iconst 0, 1) := by decide +kernel
theorem dX3_when_52 : decode cX3_when 52 = .ok (.istore_n 3, 1) := by decide +kernel
theorem dX3_when_53 : decode cX3_when 53 = .ok (.iconst 1, 1) := by decide +kernel
theorem dX3_when_54 : decode cX3_when 54 = .ok (.istore 4, 2) := by decide +kernel
theorem dX3_when_56 : decode cX3_when 56 = .ok (.iload 4, 2) := by decide +kernel
theorem dX3_when_58 : decode cX3_when 58 = .ok (.bipush 24, 2) := by decide +kernel
theorem dX3_when_60 : decode cX3_when 60 = .ok (.if_icmp .gt 39, 3) := by decide +kernel
theorem dX3_when_63 : decode cX3_when 63 = .ok (.aload_n 0, 1) := by decide +kernel
theorem dX3_when_64 : decode cX3_when 64 = .ok (.getfield 19, 3) := by decide +kernel
theorem dX3_when_67 : decode cX3_when 67 = .ok (.iconst 1, 1) := by decide +kernel
theorem dX3_when_68 : decode cX3_when 68 = .ok (.invokevirtual 187, 3) := by decide +kernel
theorem dX3_when_71 : decode cX3_when 71 = .ok (.aload_n 0, 1) := by decide +kernel
theorem dX3_when_72 : decode cX3_when 72 = .ok (.getfield 19, 3) := by decide +kernel
theorem dX3_when_75 : decode cX3_when 75 = .ok (.iload_n 1, 1) := by decide +kernel
theorem dX3_when_76 : decode cX3_when 76 = .ok (.invokevirtual 93, 3) := by decide +kernel
theorem dX3_when_79 : decode cX3_when 79 = .ok (.istore 5, 2) := by decide +kernel
theorem dX3_when_81 : decode cX3_when 81 = .ok (.iload 5, 2) := by decide +kernel
theorem dX3_when_83 : decode cX3_when 83 = .ok (.iload_n 2, 1) := by decide +kernel
theorem dX3_when_84 : decode cX3_when 84 = .ok (.if_icmp .le 9, 3) := by decide +kernel
theorem dX3_when_87 : decode cX3_when 87 = .ok (.iload 5, 2) := by decide +kernel
theorem dX3_when_89 : decode cX3_when 89 = .ok (.istore_n 2, 1) := by decide +kernel
theorem dX3_when_90 : decode cX3_when 90 = .ok (.iload 4, 2) := by decide +kernel
theorem dX3_when_92 : decode cX3_when 92 = .ok (.istore_n 3, 1) := by decide +kernel
theorem dX3_when_93 : decode cX3_when 93 = .ok (.iinc 4 1, 3) := by decide +kernel
theorem dX3_when_96 : decode cX3_when 96 = .ok (.goto (-40), 3) := by decide +kernel
theorem dX3_when_99 : decode cX3_when 99 = .ok (.iload_n 3, 1) := by decide +kernel
theorem dX3_when_100 : decode cX3_when 100 = .ok (.ireturn, 1) := by decide +kernel
theorem dX3_lacks_0 : decode cX3_lacks 0 = .ok (.iload_n 1, 1) := by decide +kernel
theorem dX3_lacks_1 : decode cX3_lacks 1 = .ok (.iconst 0, 1) := by decide +kernel
theorem dX3_lacks_2 : decode cX3_lacks 2 = .ok (.bipush 120, 2) := by decide +kernel
theorem dX3_lacks_4 : decode cX3_lacks 4 = .ok (.invokestatic 51, 3) := by decide +kernel
theorem dX3_lacks_7 : decode cX3_lacks 7 = .ok (.ifCond .ne 10, 3) := by decide +kernel
theorem dX3_lacks_10 : decode cX3_lacks 10 = .ok (.aload_n 0, 1) := by decide +kernel
theorem dX3_lacks_11 : decode cX3_lacks 11 = .ok (.ldc 55, 2) := by decide +kernel
theorem dX3_lacks_13 : decode cX3_lacks 13 = .ok (.invokevirtual 56, 3) := by decide +kernel
theorem dX3_lacks_16 : decode cX3_lacks 16 = .ok (.ireturn, 1) := by decide +kernel
theorem dX3_lacks_17 : decode cX3_lacks 17 = .ok (.aload_n 0, 1) := by decide +kernel
theorem dX3_lacks_18 : decode cX3_lacks 18 = .ok (.iload_n 1, 1) := by decide +kernel
theorem dX3_lacks_19 : decode cX3_lacks 19 = .ok (.invokevirtual 143, 3) := by decide +kernel
theorem dX3_lacks_22 : decode cX3_lacks 22 = .ok (.ifCond .eq 10, 3) := by decide +kernel
theorem dX3_lacks_25 : decode cX3_lacks 25 = .ok (.aload_n 0, 1) := by decide +kernel
theorem dX3_lacks_26 : decode cX3_lacks 26 = .ok (.ldc 123, 2) := by decide +kernel
theorem dX3_lacks_28 : decode cX3_lacks 28 = .ok (.invokevirtual 56, 3) := by decide +kernel
theorem dX3_lacks_31 : decode cX3_lacks 31 = .ok (.ireturn, 1) := by decide +kernel
theorem dX3_lacks_32 : decode cX3_lacks 32 = .ok (.aload_n 0, 1) := by decide +kernel
theorem dX3_lacks_33 : decode cX3_lacks 33 = .ok (.getfield 19, 3) := by decide +kernel
theorem dX3_lacks_36 : decode cX3_lacks 36 = .ok (.aload_n 0, 1) := by decide +kernel
theorem dX3_lacks_37 : decode cX3_lacks 37 = .ok (.getfield 10, 3) := by decide +kernel
theorem dX3_lacks_40 : decode cX3_lacks 40 = .ok (.invokevirtual 183, 3) := by decide +kernel
theorem dX3_lacks_43 : decode cX3_lacks 43 = .ok (.aload_n 0, 1) := by decide +kernel
theorem dX3_lacks_44 : decode cX3_lacks 44 = .ok (.getfield 19, 3) := by decide +kernel
theorem dX3_lacks_47 : decode cX3_lacks 47 = .ok (.iload_n 1, 1) := by decide +kernel
theorem dX3_lacks_48 : decode cX3_lacks 48 = .ok (.invokevirtual 173, 3) := by decide +kernel
theorem dX3_lacks_51 : decode cX3_lacks 51 = .ok (.aload_n 0, 1) := by decide +kernel
theorem dX3_lacks_52 : decode cX3_lacks 52 = .ok (.getfield 19, 3) := by decide +kernel
theorem dX3_lacks_55 : decode cX3_lacks 55 = .ok (.getfield 180, 3) := by decide +kernel
theorem dX3_lacks_58 : decode cX3_lacks 58 = .ok (.aload_n 0, 1) := by decide +kernel
theorem dX3_lacks_59 : decode cX3_lacks 59 = .ok (.getfield 10, 3) := by decide +kernel
theorem dX3_lacks_62 : decode cX3_lacks 62 = .ok (.getfield 180, 3) := by decide +kernel
theorem dX3_lacks_65 : decode cX3_lacks 65 = .ok (.isub, 1) := by decide +kernel
theorem dX3_lacks_66 : decode cX3_lacks 66 = .ok (.ireturn, 1) := by decide +kernel
theorem dX3_best_0 : decode cX3_best 0 = .ok (.aload_n 0, 1) := by decide +kernel
theorem dX3_best_1 : decode cX3_best 1 = .ok (.iload_n 1, 1) := by decide +kernel
theorem dX3_best_2 : decode cX3_best 2 = .ok (.invokevirtual 78, 3) := by decide +kernel
theorem dX3_best_5 : decode cX3_best 5 = .ok (.ifCond .eq 13, 3) := by decide +kernel
theorem dX3_best_8 : decode cX3_best 8 = .ok (.iload_n 2, 1) := by decide +kernel
theorem dX3_best_9 : decode cX3_best 9 = .ok (.iconst 1, 1) := by decide +kernel
theorem dX3_best_10 : decode cX3_best 10 = .ok (.bipush 24, 2) := by decide +kernel
theorem dX3_best_12 : decode cX3_best 12 = .ok (.invokestatic 51, 3) := by decide +kernel
theorem dX3_best_15 : decode cX3_best 15 = .ok (.ifCond .ne 10, 3) := by decide +kernel
theorem dX3_best_18 : decode cX3_best 18 = .ok (.aload_n 0, 1) := by decide +kernel
theorem dX3_best_19 : decode cX3_best 19 = .ok (.ldc 55, 2) := by decide +kernel
theorem dX3_best_21 : decode cX3_best 21 = .ok (.invokevirtual 56, 3) := by decide +kernel
theorem dX3_best_24 : decode cX3_best 24 = .ok (.ireturn, 1) := by decide +kernel
theorem dX3_best_25 : decode cX3_best 25 = .ok (.aload_n 0, 1) := by decide +kernel
theorem dX3_best_26 : decode cX3_best 26 = .ok (.getfield 10, 3) := by decide +kernel
theorem dX3_best_29 : decode cX3_best 29 = .ok (.getfield 90, 3) := by decide +kernel
theorem dX3_best_32 : decode cX3_best 32 = .ok (.iload_n 1, 1) := by decide +kernel
theorem dX3_best_33 : decode cX3_best 33 = .ok (.iaload, 1) := by decide +kernel
theorem dX3_best_34 : decode cX3_best 34 = .ok (.ifCond .ne 11, 3) := by decide +kernel
theorem dX3_best_37 : decode cX3_best 37 = .ok (.aload_n 0, 1) := by decide +kernel
theorem dX3_best_38 : decode cX3_best 38 = .ok (.iload_n 2, 1) := by decide +kernel
theorem dX3_best_39 : decode cX3_best 39 = .ok (.invokevirtual 143, 3) := by decide +kernel
theorem dX3_best_42 : decode cX3_best 42 = .ok (.ifCond .eq 10, 3) := by decide +kernel
theorem dX3_best_45 : decode cX3_best 45 = .ok (.aload_n 0, 1) := by decide +kernel
theorem dX3_best_46 : decode cX3_best 46 = .ok (.ldc 123, 2) := by decide +kernel
theorem dX3_best_48 : decode cX3_best 48 = .ok (.invokevirtual 56, 3) := by decide +kernel
theorem dX3_best_51 : decode cX3_best 51 = .ok (.ireturn, 1) := by decide +kernel
theorem dX3_best_52 : decode cX3_best 52 = .ok (.aload_n 0, 1) := by decide +kernel
theorem dX3_best_53 : decode cX3_best 53 = .ok (.iload_n 1, 1) := by decide +kernel
theorem dX3_best_54 : decode cX3_best 54 = .ok (.iconst 0, 1) := by decide +kernel
theorem dX3_best_55 : decode cX3_best 55 = .ok (.iload_n 2, 1) := by decide +kernel
theorem dX3_best_56 : decode cX3_best 56 = .ok (.invokevirtual 194, 3) := by decide +kernel
theorem dX3_best_59 : decode cX3_best 59 = .ok (.istore_n 3, 1) := by decide +kernel
theorem dX3_best_60 : decode cX3_best 60 = .ok (.iconst 0, 1) := by decide +kernel
theorem dX3_best_61 : decode cX3_best 61 = .ok (.istore 4, 2) := by decide +kernel
theorem dX3_best_63 : decode cX3_best 63 = .ok (.aload_n 0, 1) := by decide +kernel
theorem dX3_best_64 : decode cX3_best 64 = .ok (.getfield 10, 3) := by decide +kernel
theorem dX3_best_67 : decode cX3_best 67 = .ok (.iload_n 1, 1) := by decide +kernel
theorem dX3_best_68 : decode cX3_best 68 = .ok (.invokevirtual 93, 3) := by decide +kernel
theorem dX3_best_71 : decode cX3_best 71 = .ok (.istore 5, 2) := by decide +kernel
theorem dX3_best_73 : decode cX3_best 73 = .ok (.iload 5, 2) := by decide +kernel
theorem dX3_best_75 : decode cX3_best 75 = .ok (.iload_n 3, 1) := by decide +kernel
theorem dX3_best_76 : decode cX3_best 76 = .ok (.if_icmp .le 9, 3) := by decide +kernel
theorem dX3_best_79 : decode cX3_best 79 = .ok (.iload 5, 2) := by decide +kernel
theorem dX3_best_81 : decode cX3_best 81 = .ok (.istore_n 3, 1) := by decide +kernel
theorem dX3_best_82 : decode cX3_best 82 = .ok (.iconst 1, 1) := by decide +kernel
theorem dX3_best_83 : decode cX3_best 83 = .ok (.istore 4, 2) := by decide +kernel
theorem dX3_best_85 : decode cX3_best 85 = .ok (.aload_n 0, 1) := by decide +kernel
theorem dX3_best_86 : decode cX3_best 86 = .ok (.getfield 10, 3) := by decide +kernel
theorem dX3_best_89 : decode cX3_best 89 = .ok (.invokevirtual 119, 3) := by decide +kernel
theorem dX3_best_92 : decode cX3_best 92 = .ok (.ifCond .eq 17, 3) := by decide +kernel
theorem dX3_best_95 : decode cX3_best 95 = .ok (.aload_n 0, 1) := by decide +kernel
theorem dX3_best_96 : decode cX3_best 96 = .ok (.iload_n 1, 1) := by decide +kernel
theorem dX3_best_97 : decode cX3_best 97 = .ok (.iconst 2, 1) := by decide +kernel
theorem dX3_best_98 : decode cX3_best 98 = .ok (.iload_n 2, 1) := by decide +kernel
theorem dX3_best_99 : decode cX3_best 99 = .ok (.invokevirtual 194, 3) := by decide +kernel
theorem dX3_best_102 : decode cX3_best 102 = .ok (.iload_n 3, 1) := by decide +kernel
theorem dX3_best_103 : decode cX3_best 103 = .ok (.if_icmp .le 6, 3) := by decide +kernel
theorem dX3_best_106 : decode cX3_best 106 = .ok (.iconst 2, 1) := by decide +kernel
theorem dX3_best_107 : decode cX3_best 107 = .ok (.istore 4, 2) := by decide +kernel
theorem dX3_best_109 : decode cX3_best 109 = .ok (.iload 4, 2) := by decide +kernel
theorem dX3_best_111 : decode cX3_best 111 = .ok (.ireturn, 1) := by decide +kernel
theorem dX3_kind_0 : decode cX3_kind 0 = .ok (.aload_n 0, 1) := by decide +kernel
theorem dX3_kind_1 : decode cX3_kind 1 = .ok (.iload_n 1, 1) := by decide +kernel
theorem dX3_kind_2 : decode cX3_kind 2 = .ok (.invokevirtual 78, 3) := by decide +kernel
theorem dX3_kind_5 : decode cX3_kind 5 = .ok (.ifCond .eq 13, 3) := by decide +kernel
theorem dX3_kind_8 : decode cX3_kind 8 = .ok (.iload_n 2, 1) := by decide +kernel
theorem dX3_kind_9 : decode cX3_kind 9 = .ok (.iconst 1, 1) := by decide +kernel
theorem dX3_kind_10 : decode cX3_kind 10 = .ok (.bipush 120, 2) := by decide +kernel
theorem dX3_kind_12 : decode cX3_kind 12 = .ok (.invokestatic 51, 3) := by decide +kernel
theorem dX3_kind_15 : decode cX3_kind 15 = .ok (.ifCond .ne 10, 3) := by decide +kernel
theorem dX3_kind_18 : decode cX3_kind 18 = .ok (.aload_n 0, 1) := by decide +kernel
theorem dX3_kind_19 : decode cX3_kind 19 = .ok (.ldc 55, 2) := by decide +kernel
theorem dX3_kind_21 : decode cX3_kind 21 = .ok (.invokevirtual 56, 3) := by decide +kernel
theorem dX3_kind_24 : decode cX3_kind 24 = .ok (.ireturn, 1) := by decide +kernel
theorem dX3_kind_25 : decode cX3_kind 25 = .ok (.aload_n 0, 1) := by decide +kernel
theorem dX3_kind_26 : decode cX3_kind 26 = .ok (.iload_n 2, 1) := by decide +kernel
theorem dX3_kind_27 : decode cX3_kind 27 = .ok (.invokevirtual 143, 3) := by decide +kernel
theorem dX3_kind_30 : decode cX3_kind 30 = .ok (.ifCond .eq 10, 3) := by decide +kernel
theorem dX3_kind_33 : decode cX3_kind 33 = .ok (.aload_n 0, 1) := by decide +kernel
theorem dX3_kind_34 : decode cX3_kind 34 = .ok (.ldc 123, 2) := by decide +kernel
theorem dX3_kind_36 : decode cX3_kind 36 = .ok (.invokevirtual 56, 3) := by decide +kernel
theorem dX3_kind_39 : decode cX3_kind 39 = .ok (.ireturn, 1) := by decide +kernel
theorem dX3_kind_40 : decode cX3_kind 40 = .ok (.iconst (-1), 1) := by decide +kernel
theorem dX3_kind_41 : decode cX3_kind 41 = .ok (.istore_n 3, 1) := by decide +kernel
theorem dX3_kind_42 : decode cX3_kind 42 = .ok (.iconst 0, 1) := by decide +kernel
theorem dX3_kind_43 : decode cX3_kind 43 = .ok (.istore 4, 2) := by decide +kernel
theorem dX3_kind_45 : decode cX3_kind 45 = .ok (.iconst 0, 1) := by decide +kernel
theorem dX3_kind_46 : decode cX3_kind 46 = .ok (.istore 5, 2) := by decide +kernel
theorem dX3_kind_48 : decode cX3_kind 48 = .ok (.iload 5, 2) := by decide +kernel
theorem dX3_kind_50 : decode cX3_kind 50 = .ok (.bipush 6, 2) := by decide +kernel
theorem dX3_kind_52 : decode cX3_kind 52 = .ok (.if_icmp .ge 62, 3) := by decide +kernel
theorem dX3_kind_55 : decode cX3_kind 55 = .ok (.aload_n 0, 1) := by decide +kernel
theorem dX3_kind_56 : decode cX3_kind 56 = .ok (.getfield 19, 3) := by decide +kernel
theorem dX3_kind_59 : decode cX3_kind 59 = .ok (.aload_n 0, 1) := by decide +kernel
theorem dX3_kind_60 : decode cX3_kind 60 = .ok (.getfield 10, 3) := by decide +kernel
theorem dX3_kind_63 : decode cX3_kind 63 = .ok (.invokevirtual 183, 3) := by decide +kernel
theorem dX3_kind_66 : decode cX3_kind 66 = .ok (.aload_n 0, 1) := by decide +kernel
theorem dX3_kind_67 : decode cX3_kind 67 = .ok (.getfield 19, 3) := by decide +kernel
theorem dX3_kind_70 : decode cX3_kind 70 = .ok (.getfield 81, 3) := by decide +kernel
theorem dX3_kind_73 : decode cX3_kind 73 = .ok (.iload_n 1, 1) := by decide +kernel
theorem dX3_kind_74 : decode cX3_kind 74 = .ok (.iload 5, 2) := by decide +kernel
theorem dX3_kind_76 : decode cX3_kind 76 = .ok (.iastore, 1) := by decide +kernel
theorem dX3_kind_77 : decode cX3_kind 77 = .ok (.aload_n 0, 1) := by decide +kernel
theorem dX3_kind_78 : decode cX3_kind 78 = .ok (.getfield 19, 3) := by decide +kernel
theorem dX3_kind_81 : decode cX3_kind 81 = .ok (.iload_n 2, 1) := by decide +kernel
theorem dX3_kind_82 : decode cX3_kind 82 = .ok (.invokevirtual 187, 3) := by decide +kernel
theorem dX3_kind_85 : decode cX3_kind 85 = .ok (.aload_n 0, 1) := by decide +kernel
theorem dX3_kind_86 : decode cX3_kind 86 = .ok (.getfield 19, 3) := by decide +kernel
theorem dX3_kind_89 : decode cX3_kind 89 = .ok (.iload_n 1, 1) := by decide +kernel
theorem dX3_kind_90 : decode cX3_kind 90 = .ok (.invokevirtual 93, 3) := by decide +kernel
theorem dX3_kind_93 : decode cX3_kind 93 = .ok (.istore 6, 2) := by decide +kernel
theorem dX3_kind_95 : decode cX3_kind 95 = .ok (.iload 6, 2) := by decide +kernel
theorem dX3_kind_97 : decode cX3_kind 97 = .ok (.iload_n 3, 1) := by decide +kernel
theorem dX3_kind_98 : decode cX3_kind 98 = .ok (.if_icmp .le 10, 3) := by decide +kernel
theorem dX3_kind_101 : decode cX3_kind 101 = .ok (.iload 6, 2) := by decide +kernel
theorem dX3_kind_103 : decode cX3_kind 103 = .ok (.istore_n 3, 1) := by decide +kernel
theorem dX3_kind_104 : decode cX3_kind 104 = .ok (.iload 5, 2) := by decide +kernel
theorem dX3_kind_106 : decode cX3_kind 106 = .ok (.istore 4, 2) := by decide +kernel
theorem dX3_kind_108 : decode cX3_kind 108 = .ok (.iinc 5 1, 3) := by decide +kernel
theorem dX3_kind_111 : decode cX3_kind 111 = .ok (.goto (-63), 3) := by decide +kernel
theorem dX3_kind_114 : decode cX3_kind 114 = .ok (.iload 4, 2) := by decide +kernel
theorem dX3_kind_116 : decode cX3_kind 116 = .ok (.ireturn, 1) := by decide +kernel
theorem dX3_cellar_0 : decode cX3_cellar 0 = .ok (.iload_n 1, 1) := by decide +kernel
theorem dX3_cellar_1 : decode cX3_cellar 1 = .ok (.iconst 1, 1) := by decide +kernel
theorem dX3_cellar_2 : decode cX3_cellar 2 = .ok (.bipush 60, 2) := by decide +kernel
theorem dX3_cellar_4 : decode cX3_cellar 4 = .ok (.invokestatic 51, 3) := by decide +kernel
theorem dX3_cellar_7 : decode cX3_cellar 7 = .ok (.ifCond .ne 10, 3) := by decide +kernel
theorem dX3_cellar_10 : decode cX3_cellar 10 = .ok (.aload_n 0, 1) := by decide +kernel
theorem dX3_cellar_11 : decode cX3_cellar 11 = .ok (.ldc 55, 2) := by decide +kernel
theorem dX3_cellar_13 : decode cX3_cellar 13 = .ok (.invokevirtual 56, 3) := by decide +kernel
theorem dX3_cellar_16 : decode cX3_cellar 16 = .ok (.ireturn, 1) := by decide +kernel
theorem dX3_cellar_17 : decode cX3_cellar 17 = .ok (.aload_n 0, 1) := by decide +kernel
theorem dX3_cellar_18 : decode cX3_cellar 18 = .ok (.iload_n 1, 1) := by decide +kernel
theorem dX3_cellar_19 : decode cX3_cellar 19 = .ok (.invokevirtual 143, 3) := by decide +kernel
theorem dX3_cellar_22 : decode cX3_cellar 22 = .ok (.ifCond .eq 10, 3) := by decide +kernel
theorem dX3_cellar_25 : decode cX3_cellar 25 = .ok (.aload_n 0, 1) := by decide +kernel
theorem dX3_cellar_26 : decode cX3_cellar 26 = .ok (.ldc 123, 2) := by decide +kernel
theorem dX3_cellar_28 : decode cX3_cellar 28 = .ok (.invokevirtual 56, 3) := by decide +kernel
theorem dX3_cellar_31 : decode cX3_cellar 31 = .ok (.ireturn, 1) := by decide +kernel
theorem dX3_cellar_32 : decode cX3_cellar 32 = .ok (.aload_n 0, 1) := by decide +kernel
theorem dX3_cellar_33 : decode cX3_cellar 33 = .ok (.getfield 19, 3) := by decide +kernel
theorem dX3_cellar_36 : decode cX3_cellar 36 = .ok (.aload_n 0, 1) := by decide +kernel
theorem dX3_cellar_37 : decode cX3_cellar 37 = .ok (.getfield 10, 3) := by decide +kernel
theorem dX3_cellar_40 : decode cX3_cellar 40 = .ok (.invokevirtual 183, 3) := by decide +kernel
theorem dX3_cellar_43 : decode cX3_cellar 43 = .ok (.aload_n 0, 1) := by decide +kernel
theorem dX3_cellar_44 : decode cX3_cellar 44 = .ok (.getfield 19, 3) := by decide +kernel
theorem dX3_cellar_47 : decode cX3_cellar 47 = .ok (.iload_n 1, 1) := by decide +kernel
theorem dX3_cellar_48 : decode cX3_cellar 48 = .ok (.invokevirtual 187, 3) := by decide +kernel
theorem dX3_cellar_51 : decode cX3_cellar 51 = .ok (.aload_n 0, 1) := by decide +kernel
theorem dX3_cellar_52 : decode cX3_cellar 52 = .ok (.getfield 19, 3) := by decide +kernel
theorem dX3_cellar_55 : decode cX3_cellar 55 = .ok (.iconst 1, 1) := by decide +kernel
theorem dX3_cellar_56 : decode cX3_cellar 56 = .ok (.invokevirtual 170, 3) := by decide +kernel
theorem dX3_cellar_59 : decode cX3_cellar 59 = .ok (.istore_n 2, 1) := by decide +kernel
theorem dX3_cellar_60 : decode cX3_cellar 60 = .ok (.ldc 193, 2) := by decide +kernel
theorem dX3_cellar_62 : decode cX3_cellar 62 = .ok (.istore_n 3, 1) := by decide +kernel
theorem dX3_cellar_63 : decode cX3_cellar 63 = .ok (.iconst 0, 1) := by decide +kernel
theorem dX3_cellar_64 : decode cX3_cellar 64 = .ok (.istore 4, 2) := by decide +kernel
theorem dX3_cellar_66 : decode cX3_cellar 66 = .ok (.iload 4, 2) := by decide +kernel
theorem dX3_cellar_68 : decode cX3_cellar 68 = .ok (.aload_n 0, 1) := by decide +kernel
theorem dX3_cellar_69 : decode cX3_cellar 69 = .ok (.getfield 10, 3) := by decide +kernel
theorem dX3_cellar_72 : decode cX3_cellar 72 = .ok (.getfield 69, 3) := by decide +kernel
theorem dX3_cellar_75 : decode cX3_cellar 75 = .ok (.if_icmp .ge 63, 3) := by decide +kernel
theorem dX3_cellar_78 : decode cX3_cellar 78 = .ok (.iload 4, 2) := by decide +kernel
theorem dX3_cellar_80 : decode cX3_cellar 80 = .ok (.iconst 1, 1) := by decide +kernel
theorem dX3_cellar_81 : decode cX3_cellar 81 = .ok (.iadd, 1) := by decide +kernel
theorem dX3_cellar_82 : decode cX3_cellar 82 = .ok (.istore 5, 2) := by decide +kernel
theorem dX3_cellar_84 : decode cX3_cellar 84 = .ok (.iload 5, 2) := by decide +kernel
theorem dX3_cellar_86 : decode cX3_cellar 86 = .ok (.aload_n 0, 1) := by decide +kernel
theorem dX3_cellar_87 : decode cX3_cellar 87 = .ok (.getfield 10, 3) := by decide +kernel
theorem dX3_cellar_90 : decode cX3_cellar 90 = .ok (.getfield 69, 3) := by decide +kernel
theorem dX3_cellar_93 : decode cX3_cellar 93 = .ok (.if_icmp .ge 39, 3) := by decide +kernel
theorem dX3_cellar_96 : decode cX3_cellar 96 = .ok (.aload_n 0, 1) := by decide +kernel
theorem dX3_cellar_97 : decode cX3_cellar 97 = .ok (.iload 4, 2) := by decide +kernel
theorem dX3_cellar_99 : decode cX3_cellar 99 = .ok (.iload 5, 2) := by decide +kernel
theorem dX3_cellar_101 : decode cX3_cellar 101 = .ok (.iload_n 1, 1) := by decide +kernel
theorem dX3_cellar_102 : decode cX3_cellar 102 = .ok (.iload_n 2, 1) := by decide +kernel
theorem dX3_cellar_103 : decode cX3_cellar 103 = .ok (.invokevirtual 197, 3) := by decide +kernel
theorem dX3_cellar_106 : decode cX3_cellar 106 = .ok (.istore 6, 2) := by decide +kernel
theorem dX3_cellar_108 : decode cX3_cellar 108 = .ok (.iload 6, 2) := by decide +kernel
theorem dX3_cellar_110 : decode cX3_cellar 110 = .ok (.iload_n 2, 1) := by decide +kernel
theorem dX3_cellar_111 : decode cX3_cellar 111 = .ok (.if_icmp .ge 15, 3) := by decide +kernel
theorem dX3_cellar_114 : decode cX3_cellar 114 = .ok (.iload 6, 2) := by decide +kernel
theorem dX3_cellar_116 : decode cX3_cellar 116 = .ok (.istore_n 2, 1) := by decide +kernel
theorem dX3_cellar_117 : decode cX3_cellar 117 = .ok (.bipush 100, 2) := by decide +kernel
theorem dX3_cellar_119 : decode cX3_cellar 119 = .ok (.iload 4, 2) := by decide +kernel
theorem dX3_cellar_121 : decode cX3_cellar 121 = .ok (.imul, 1) := by decide +kernel
theorem dX3_cellar_122 : decode cX3_cellar 122 = .ok (.iload 5, 2) := by decide +kernel
theorem dX3_cellar_124 : decode cX3_cellar 124 = .ok (.iadd, 1) := by decide +kernel
theorem dX3_cellar_125 : decode cX3_cellar 125 = .ok (.istore_n 3, 1) := by decide +kernel
theorem dX3_cellar_126 : decode cX3_cellar 126 = .ok (.iinc 5 1, 3) := by decide +kernel
theorem dX3_cellar_129 : decode cX3_cellar 129 = .ok (.goto (-45), 3) := by decide +kernel
theorem dX3_cellar_132 : decode cX3_cellar 132 = .ok (.iinc 4 1, 3) := by decide +kernel
theorem dX3_cellar_135 : decode cX3_cellar 135 = .ok (.goto (-69), 3) := by decide +kernel
theorem dX3_cellar_138 : decode cX3_cellar 138 = .ok (.iload_n 3, 1) := by decide +kernel
theorem dX3_cellar_139 : decode cX3_cellar 139 = .ok (.ldc 193, 2) := by decide +kernel
theorem dX3_cellar_141 : decode cX3_cellar 141 = .ok (.if_icmp .ne 12, 3) := by decide +kernel
theorem dX3_cellar_144 : decode cX3_cellar 144 = .ok (.aload_n 0, 1) := by decide +kernel
theorem dX3_cellar_145 : decode cX3_cellar 145 = .ok (.ldc 193, 2) := by decide +kernel
theorem dX3_cellar_147 : decode cX3_cellar 147 = .ok (.invokevirtual 56, 3) := by decide +kernel
theorem dX3_cellar_150 : decode cX3_cellar 150 = .ok (.goto 4, 3) := by decide +kernel
theorem dX3_cellar_153 : decode cX3_cellar 153 = .ok (.iload_n 3, 1) := by decide +kernel
theorem dX3_cellar_154 : decode cX3_cellar 154 = .ok (.ireturn, 1) := by decide +kernel
theorem dX3_field_0 : decode cX3_field 0 = .ok (.iload_n 1, 1) := by decide +kernel
theorem dX3_field_1 : decode cX3_field 1 = .ok (.invokestatic 47, 3) := by decide +kernel
theorem dX3_field_4 : decode cX3_field 4 = .ok (.ifCond .eq 13, 3) := by decide +kernel
theorem dX3_field_7 : decode cX3_field 7 = .ok (.iload_n 2, 1) := by decide +kernel
theorem dX3_field_8 : decode cX3_field 8 = .ok (.iconst 1, 1) := by decide +kernel
theorem dX3_field_9 : decode cX3_field 9 = .ok (.bipush 24, 2) := by decide +kernel
theorem dX3_field_11 : decode cX3_field 11 = .ok (.invokestatic 51, 3) := by decide +kernel
theorem dX3_field_14 : decode cX3_field 14 = .ok (.ifCond .ne 10, 3) := by decide +kernel
theorem dX3_field_17 : decode cX3_field 17 = .ok (.aload_n 0, 1) := by decide +kernel
theorem dX3_field_18 : decode cX3_field 18 = .ok (.ldc 55, 2) := by decide +kernel
theorem dX3_field_20 : decode cX3_field 20 = .ok (.invokevirtual 56, 3) := by decide +kernel
theorem dX3_field_23 : decode cX3_field 23 = .ok (.ireturn, 1) := by decide +kernel
theorem dX3_field_24 : decode cX3_field 24 = .ok (.aload_n 0, 1) := by decide +kernel
theorem dX3_field_25 : decode cX3_field 25 = .ok (.getfield 10, 3) := by decide +kernel
theorem dX3_field_28 : decode cX3_field 28 = .ok (.invokevirtual 119, 3) := by decide +kernel
theorem dX3_field_31 : decode cX3_field 31 = .ok (.ifCond .eq 11, 3) := by decide +kernel
theorem dX3_field_34 : decode cX3_field 34 = .ok (.aload_n 0, 1) := by decide +kernel
theorem dX3_field_35 : decode cX3_field 35 = .ok (.iload_n 2, 1) := by decide +kernel
theorem dX3_field_36 : decode cX3_field 36 = .ok (.invokevirtual 143, 3) := by decide +kernel
theorem dX3_field_39 : decode cX3_field 39 = .ok (.ifCond .eq 10, 3) := by decide +kernel
theorem dX3_field_42 : decode cX3_field 42 = .ok (.aload_n 0, 1) := by decide +kernel
theorem dX3_field_43 : decode cX3_field 43 = .ok (.ldc 123, 2) := by decide +kernel
theorem dX3_field_45 : decode cX3_field 45 = .ok (.invokevirtual 56, 3) := by decide +kernel
theorem dX3_field_48 : decode cX3_field 48 = .ok (.ireturn, 1) := by decide +kernel
theorem dX3_field_49 : decode cX3_field 49 = .ok (.aload_n 0, 1) := by decide +kernel
theorem dX3_field_50 : decode cX3_field 50 = .ok (.getfield 10, 3) := by decide +kernel
theorem dX3_field_53 : decode cX3_field 53 = .ok (.iload_n 1, 1) := by decide +kernel
theorem dX3_field_54 : decode cX3_field 54 = .ok (.invokevirtual 200, 3) := by decide +kernel
theorem dX3_field_57 : decode cX3_field 57 = .ok (.istore_n 3, 1) := by decide +kernel
theorem dX3_field_58 : decode cX3_field 58 = .ok (.iload_n 3, 1) := by decide +kernel
theorem dX3_field_59 : decode cX3_field 59 = .ok (.invokestatic 203, 3) := by decide +kernel
theorem dX3_field_62 : decode cX3_field 62 = .ok (.bipush 6, 2) := by decide +kernel
theorem dX3_field_64 : decode cX3_field 64 = .ok (.if_icmp .le 10, 3) := by decide +kernel
theorem dX3_field_67 : decode cX3_field 67 = .ok (.aload_n 0, 1) := by decide +kernel
theorem dX3_field_68 : decode cX3_field 68 = .ok (.ldc 208, 2) := by decide +kernel
theorem dX3_field_70 : decode cX3_field 70 = .ok (.invokevirtual 56, 3) := by decide +kernel
theorem dX3_field_73 : decode cX3_field 73 = .ok (.ireturn, 1) := by decide +kernel
theorem dX3_field_74 : decode cX3_field 74 = .ok (.iconst (-1), 1) := by decide +kernel
theorem dX3_field_75 : decode cX3_field 75 = .ok (.istore 4, 2) := by decide +kernel
theorem dX3_field_77 : decode cX3_field 77 = .ok (.iconst 0, 1) := by decide +kernel
theorem dX3_field_78 : decode cX3_field 78 = .ok (.istore 5, 2) := by decide +kernel
theorem dX3_field_80 : decode cX3_field 80 = .ok (.iconst 0, 1) := by decide +kernel
theorem dX3_field_81 : decode cX3_field 81 = .ok (.istore 6, 2) := by decide +kernel
theorem dX3_field_83 : decode cX3_field 83 = .ok (.iconst 0, 1) := by decide +kernel
theorem dX3_field_84 : decode cX3_field 84 = .ok (.istore 7, 2) := by decide +kernel
theorem dX3_field_86 : decode cX3_field 86 = .ok (.iload 7, 2) := by decide +kernel
theorem dX3_field_88 : decode cX3_field 88 = .ok (.iconst 1, 1) := by decide +kernel
theorem dX3_field_89 : decode cX3_field 89 = .ok (.iload_n 3, 1) := by decide +kernel
theorem dX3_field_90 : decode cX3_field 90 = .ok (.invokestatic 203, 3) := by decide +kernel
theorem dX3_field_93 : decode cX3_field 93 = .ok (.ishl, 1) := by decide +kernel
theorem dX3_field_94 : decode cX3_field 94 = .ok (.if_icmp .ge 42, 3) := by decide +kernel
theorem dX3_field_97 : decode cX3_field 97 = .ok (.aload_n 0, 1) := by decide +kernel
theorem dX3_field_98 : decode cX3_field 98 = .ok (.iload 6, 2) := by decide +kernel
theorem dX3_field_100 : decode cX3_field 100 = .ok (.iload_n 1, 1) := by decide +kernel
theorem dX3_field_101 : decode cX3_field 101 = .ok (.iload_n 2, 1) := by decide +kernel
theorem dX3_field_102 : decode cX3_field 102 = .ok (.invokevirtual 209, 3) := by decide +kernel
theorem dX3_field_105 : decode cX3_field 105 = .ok (.istore 8, 2) := by decide +kernel
theorem dX3_field_107 : decode cX3_field 107 = .ok (.iload 8, 2) := by decide +kernel
theorem dX3_field_109 : decode cX3_field 109 = .ok (.iload 4, 2) := by decide +kernel
theorem dX3_field_111 : decode cX3_field 111 = .ok (.if_icmp .le 11, 3) := by decide +kernel
theorem dX3_field_114 : decode cX3_field 114 = .ok (.iload 8, 2) := by decide +kernel
theorem dX3_field_116 : decode cX3_field 116 = .ok (.istore 4, 2) := by decide +kernel
theorem dX3_field_118 : decode cX3_field 118 = .ok (.iload 6, 2) := by decide +kernel
theorem dX3_field_120 : decode cX3_field 120 = .ok (.istore 5, 2) := by decide +kernel
theorem dX3_field_122 : decode cX3_field 122 = .ok (.iload 6, 2) := by decide +kernel
theorem dX3_field_124 : decode cX3_field 124 = .ok (.iload_n 3, 1) := by decide +kernel
theorem dX3_field_125 : decode cX3_field 125 = .ok (.isub, 1) := by decide +kernel
theorem dX3_field_126 : decode cX3_field 126 = .ok (.iload_n 3, 1) := by decide +kernel
theorem dX3_field_127 : decode cX3_field 127 = .ok (.iand, 1) := by decide +kernel
theorem dX3_field_128 : decode cX3_field 128 = .ok (.istore 6, 2) := by decide +kernel
theorem dX3_field_130 : decode cX3_field 130 = .ok (.iinc 7 1, 3) := by decide +kernel
theorem dX3_field_133 : decode cX3_field 133 = .ok (.goto (-47), 3) := by decide +kernel
theorem dX3_field_136 : decode cX3_field 136 = .ok (.iload 5, 2) := by decide +kernel
theorem dX3_field_138 : decode cX3_field 138 = .ok (.ireturn, 1) := by decide +kernel
theorem dX3_priceFor_0 : decode cX3_priceFor 0 = .ok (.iload_n 1, 1) := by decide +kernel
theorem dX3_priceFor_1 : decode cX3_priceFor 1 = .ok (.invokestatic 47, 3) := by decide +kernel
theorem dX3_priceFor_4 : decode cX3_priceFor 4 = .ok (.ifCond .eq 14, 3) := by decide +kernel
theorem dX3_priceFor_7 : decode cX3_priceFor 7 = .ok (.iload_n 2, 1) := by decide +kernel
theorem dX3_priceFor_8 : decode cX3_priceFor 8 = .ok (.iconst 0, 1) := by decide +kernel
theorem dX3_priceFor_9 : decode cX3_priceFor 9 = .ok (.sipush 9999, 3) := by decide +kernel
theorem dX3_priceFor_12 : decode cX3_priceFor 12 = .ok (.invokestatic 51, 3) := by decide +kernel
theorem dX3_priceFor_15 : decode cX3_priceFor 15 = .ok (.ifCond .ne 10, 3) := by decide +kernel
theorem dX3_priceFor_18 : decode cX3_priceFor 18 = .ok (.aload_n 0, 1) := by decide +kernel
theorem dX3_priceFor_19 : decode cX3_priceFor 19 = .ok (.ldc 55, 2) := by decide +kernel
theorem dX3_priceFor_21 : decode cX3_priceFor 21 = .ok (.invokevirtual 56, 3) := by decide +kernel
theorem dX3_priceFor_24 : decode cX3_priceFor 24 = .ok (.ireturn, 1) := by decide +kernel
theorem dX3_priceFor_25 : decode cX3_priceFor 25 = .ok (.aload_n 0, 1) := by decide +kernel
theorem dX3_priceFor_26 : decode cX3_priceFor 26 = .ok (.getfield 19, 3) := by decide +kernel
theorem dX3_priceFor_29 : decode cX3_priceFor 29 = .ok (.aload_n 0, 1) := by decide +kernel
theorem dX3_priceFor_30 : decode cX3_priceFor 30 = .ok (.getfield 10, 3) := by decide +kernel
theorem dX3_priceFor_33 : decode cX3_priceFor 33 = .ok (.invokevirtual 183, 3) := by decide +kernel
theorem dX3_priceFor_36 : decode cX3_priceFor 36 = .ok (.iconst 0, 1) := by decide +kernel
theorem dX3_priceFor_37 : decode cX3_priceFor 37 = .ok (.istore_n 3, 1) := by decide +kernel
theorem dX3_priceFor_38 : decode cX3_priceFor 38 = .ok (.iload_n 3, 1) := by decide +kernel
theorem dX3_priceFor_39 : decode cX3_priceFor 39 = .ok (.bipush 99, 2) := by decide +kernel
theorem dX3_priceFor_41 : decode cX3_priceFor 41 = .ok (.if_icmp .gt 39, 3) := by decide +kernel
theorem dX3_priceFor_44 : decode cX3_priceFor 44 = .ok (.aload_n 0, 1) := by decide +kernel
theorem dX3_priceFor_45 : decode cX3_priceFor 45 = .ok (.getfield 19, 3) := by decide +kernel
theorem dX3_priceFor_48 : decode cX3_priceFor 48 = .ok (.getfield 63, 3) := by decide +kernel
theorem dX3_priceFor_51 : decode cX3_priceFor 51 = .ok (.aload_n 0, 1) := by decide +kernel
theorem dX3_priceFor_52 : decode cX3_priceFor 52 = .ok (.getfield 19, 3) := by decide +kernel
theorem dX3_priceFor_55 : decode cX3_priceFor 55 = .ok (.invokevirtual 96, 3) := by decide +kernel
theorem dX3_priceFor_58 : decode cX3_priceFor 58 = .ok (.iload_n 3, 1) := by decide +kernel
theorem dX3_priceFor_59 : decode cX3_priceFor 59 = .ok (.iastore, 1) := by decide +kernel
theorem dX3_priceFor_60 : decode cX3_priceFor 60 = .ok (.aload_n 0, 1) := by decide +kernel
theorem dX3_priceFor_61 : decode cX3_priceFor 61 = .ok (.getfield 19, 3) := by decide +kernel
theorem dX3_priceFor_64 : decode cX3_priceFor 64 = .ok (.iload_n 1, 1) := by decide +kernel
theorem dX3_priceFor_65 : decode cX3_priceFor 65 = .ok (.invokevirtual 124, 3) := by decide +kernel
theorem dX3_priceFor_68 : decode cX3_priceFor 68 = .ok (.iload_n 2, 1) := by decide +kernel
theorem dX3_priceFor_69 : decode cX3_priceFor 69 = .ok (.if_icmp .lt 5, 3) := by decide +kernel
theorem dX3_priceFor_72 : decode cX3_priceFor 72 = .ok (.iload_n 3, 1) := by decide +kernel
theorem dX3_priceFor_73 : decode cX3_priceFor 73 = .ok (.ireturn, 1) := by decide +kernel
theorem dX3_priceFor_74 : decode cX3_priceFor 74 = .ok (.iinc 3 1, 3) := by decide +kernel
theorem dX3_priceFor_77 : decode cX3_priceFor 77 = .ok (.goto (-39), 3) := by decide +kernel
theorem dX3_priceFor_80 : decode cX3_priceFor 80 = .ok (.aload_n 0, 1) := by decide +kernel
theorem dX3_priceFor_81 : decode cX3_priceFor 81 = .ok (.ldc 193, 2) := by decide +kernel
theorem dX3_priceFor_83 : decode cX3_priceFor 83 = .ok (.invokevirtual 56, 3) := by decide +kernel
theorem dX3_priceFor_86 : decode cX3_priceFor 86 = .ok (.ireturn, 1) := by decide +kernel
theorem dX3_taxMonth_0 : decode cX3_taxMonth 0 = .ok (.aload_n 0, 1) := by decide +kernel
theorem dX3_taxMonth_1 : decode cX3_taxMonth 1 = .ok (.bipush 12, 2) := by decide +kernel
theorem dX3_taxMonth_3 : decode cX3_taxMonth 3 = .ok (.invokevirtual 143, 3) := by decide +kernel
theorem dX3_taxMonth_6 : decode cX3_taxMonth 6 = .ok (.ifCond .eq 10, 3) := by decide +kernel
theorem dX3_taxMonth_9 : decode cX3_taxMonth 9 = .ok (.aload_n 0, 1) := by decide +kernel
theorem dX3_taxMonth_10 : decode cX3_taxMonth 10 = .ok (.ldc 123, 2) := by decide +kernel
theorem dX3_taxMonth_12 : decode cX3_taxMonth 12 = .ok (.invokevirtual 56, 3) := by decide +kernel
theorem dX3_taxMonth_15 : decode cX3_taxMonth 15 = .ok (.ireturn, 1) := by decide +kernel
theorem dX3_taxMonth_16 : decode cX3_taxMonth 16 = .ok (.iconst (-1), 1) := by decide +kernel
theorem dX3_taxMonth_17 : decode cX3_taxMonth 17 = .ok (.istore_n 1, 1) := by decide +kernel
theorem dX3_taxMonth_18 : decode cX3_taxMonth 18 = .ok (.iconst 0, 1) := by decide +kernel
theorem dX3_taxMonth_19 : decode cX3_taxMonth 19 = .ok (.istore_n 2, 1) := by decide +kernel
theorem dX3_taxMonth_20 : decode cX3_taxMonth 20 = .ok (.aload_n 0, 1) := by decide +kernel
theorem dX3_taxMonth_21 : decode cX3_taxMonth 21 = .ok (.getfield 19, 3) := by decide +kernel
theorem dX3_taxMonth_24 : decode cX3_taxMonth 24 = .ok (.aload_n 0, 1) := by decide +kernel
theorem dX3_taxMonth_25 : decode cX3_taxMonth 25 = .ok (.getfield 10, 3) := by decide +kernel
theorem dX3_taxMonth_28 : decode cX3_taxMonth 28 = .ok (.invokevirtual 183, 3) := by decide +kernel
theorem dX3_taxMonth_31 : decode cX3_taxMonth 31 = .ok (.iconst 0, 1) := by decide +kernel
theorem dX3_taxMonth_32 : decode cX3_taxMonth 32 = .ok (.istore_n 3, 1) := by decide +kernel
theorem dX3_taxMonth_33 : decode cX3_taxMonth 33 = .ok (.iload_n 3, 1) := by decide +kernel
theorem dX3_taxMonth_34 : decode cX3_taxMonth 34 = .ok (.bipush 12, 2) := by decide +kernel
theorem dX3_taxMonth_36 : decode cX3_taxMonth 36 = .ok (.if_icmp .ge 67, 3) := by decide +kernel
theorem dX3_taxMonth_39 : decode cX3_taxMonth 39 = .ok (.aload_n 0, 1) := by decide +kernel
theorem dX3_taxMonth_40 : decode cX3_taxMonth 40 = .ok (.getfield 22, 3) := by decide +kernel
theorem dX3_taxMonth_43 : decode cX3_taxMonth 43 = .ok (.aload_n 0, 1) := by decide +kernel
theorem dX3_taxMonth_44 : decode cX3_taxMonth 44 = .ok (.getfield 19, 3) := by decide +kernel
theorem dX3_taxMonth_47 : decode cX3_taxMonth 47 = .ok (.invokevirtual 183, 3) := by decide +kernel
theorem dX3_taxMonth_50 : decode cX3_taxMonth 50 = .ok (.aload_n 0, 1) := by decide +kernel
theorem dX3_taxMonth_51 : decode cX3_taxMonth 51 = .ok (.getfield 22, 3) := by decide +kernel
theorem dX3_taxMonth_54 : decode cX3_taxMonth 54 = .ok (.invokevirtual 167, 3) := by decide +kernel
theorem dX3_taxMonth_57 : decode cX3_taxMonth 57 = .ok (.pop, 1) := by decide +kernel
theorem dX3_taxMonth_58 : decode cX3_taxMonth 58 = .ok (.aload_n 0, 1) := by decide +kernel
theorem dX3_taxMonth_59 : decode cX3_taxMonth 59 = .ok (.getfield 22, 3) := by decide +kernel
theorem dX3_taxMonth_62 : decode cX3_taxMonth 62 = .ok (.bipush 12, 2) := by decide +kernel
theorem dX3_taxMonth_64 : decode cX3_taxMonth 64 = .ok (.iload_n 3, 1) := by decide +kernel
theorem dX3_taxMonth_65 : decode cX3_taxMonth 65 = .ok (.isub, 1) := by decide +kernel
theorem dX3_taxMonth_66 : decode cX3_taxMonth 66 = .ok (.invokevirtual 173, 3) := by decide +kernel
theorem dX3_taxMonth_69 : decode cX3_taxMonth 69 = .ok (.aload_n 0, 1) := by decide +kernel
theorem dX3_taxMonth_70 : decode cX3_taxMonth 70 = .ok (.getfield 22, 3) := by decide +kernel
theorem dX3_taxMonth_73 : decode cX3_taxMonth 73 = .ok (.invokevirtual 212, 3) := by decide +kernel
theorem dX3_taxMonth_76 : decode cX3_taxMonth 76 = .ok (.istore 4, 2) := by decide +kernel
theorem dX3_taxMonth_78 : decode cX3_taxMonth 78 = .ok (.iload 4, 2) := by decide +kernel
theorem dX3_taxMonth_80 : decode cX3_taxMonth 80 = .ok (.iload_n 1, 1) := by decide +kernel
theorem dX3_taxMonth_81 : decode cX3_taxMonth 81 = .ok (.if_icmp .le 8, 3) := by decide +kernel
theorem dX3_taxMonth_84 : decode cX3_taxMonth 84 = .ok (.iload 4, 2) := by decide +kernel
theorem dX3_taxMonth_86 : decode cX3_taxMonth 86 = .ok (.istore_n 1, 1) := by decide +kernel
theorem dX3_taxMonth_87 : decode cX3_taxMonth 87 = .ok (.iload_n 3, 1) := by decide +kernel
theorem dX3_taxMonth_88 : decode cX3_taxMonth 88 = .ok (.istore_n 2, 1) := by decide +kernel
theorem dX3_taxMonth_89 : decode cX3_taxMonth 89 = .ok (.aload_n 0, 1) := by decide +kernel
theorem dX3_taxMonth_90 : decode cX3_taxMonth 90 = .ok (.getfield 19, 3) := by decide +kernel
theorem dX3_taxMonth_93 : decode cX3_taxMonth 93 = .ok (.iconst 1, 1) := by decide +kernel
theorem dX3_taxMonth_94 : decode cX3_taxMonth 94 = .ok (.invokevirtual 173, 3) := by decide +kernel
theorem dX3_taxMonth_97 : decode cX3_taxMonth 97 = .ok (.iinc 3 1, 3) := by decide +kernel
theorem dX3_taxMonth_100 : decode cX3_taxMonth 100 = .ok (.goto (-67), 3) := by decide +kernel
theorem dX3_taxMonth_103 : decode cX3_taxMonth 103 = .ok (.iload_n 2, 1) := by decide +kernel
theorem dX3_taxMonth_104 : decode cX3_taxMonth 104 = .ok (.ireturn, 1) := by decide +kernel
theorem dX3_bank_0 : decode cX3_bank 0 = .ok (.aload_n 0, 1) := by decide +kernel
theorem dX3_bank_1 : decode cX3_bank 1 = .ok (.getfield 10, 3) := by decide +kernel
theorem dX3_bank_4 : decode cX3_bank 4 = .ok (.invokevirtual 215, 3) := by decide +kernel
theorem dX3_bank_7 : decode cX3_bank 7 = .ok (.istore_n 1, 1) := by decide +kernel
theorem dX3_bank_8 : decode cX3_bank 8 = .ok (.iload_n 1, 1) := by decide +kernel
theorem dX3_bank_9 : decode cX3_bank 9 = .ok (.ifCond .ge 12, 3) := by decide +kernel
theorem dX3_bank_12 : decode cX3_bank 12 = .ok (.aload_n 0, 1) := by decide +kernel
theorem dX3_bank_13 : decode cX3_bank 13 = .ok (.ldc 193, 2) := by decide +kernel
theorem dX3_bank_15 : decode cX3_bank 15 = .ok (.invokevirtual 56, 3) := by decide +kernel
theorem dX3_bank_18 : decode cX3_bank 18 = .ok (.goto 4, 3) := by decide +kernel
theorem dX3_bank_21 : decode cX3_bank 21 = .ok (.iload_n 1, 1) := by decide +kernel
theorem dX3_bank_22 : decode cX3_bank 22 = .ok (.ireturn, 1) := by decide +kernel
theorem dX3_feed_0 : decode cX3_feed 0 = .ok (.iload_n 2, 1) := by decide +kernel
theorem dX3_feed_1 : decode cX3_feed 1 = .ok (.iconst 1, 1) := by decide +kernel
theorem dX3_feed_2 : decode cX3_feed 2 = .ok (.iconst 4, 1) := by decide +kernel
theorem dX3_feed_3 : decode cX3_feed 3 = .ok (.invokestatic 51, 3) := by decide +kernel
theorem dX3_feed_6 : decode cX3_feed 6 = .ok (.ifCond .ne 10, 3) := by decide +kernel
theorem dX3_feed_9 : decode cX3_feed 9 = .ok (.aload_n 0, 1) := by decide +kernel
theorem dX3_feed_10 : decode cX3_feed 10 = .ok (.ldc 55, 2) := by decide +kernel
theorem dX3_feed_12 : decode cX3_feed 12 = .ok (.invokevirtual 56, 3) := by decide +kernel
theorem dX3_feed_15 : decode cX3_feed 15 = .ok (.ireturn, 1) := by decide +kernel
theorem dX3_feed_16 : decode cX3_feed 16 = .ok (.aload_n 0, 1) := by decide +kernel
theorem dX3_feed_17 : decode cX3_feed 17 = .ok (.getfield 28, 3) := by decide +kernel
theorem dX3_feed_20 : decode cX3_feed 20 = .ok (.getfield 218, 3) := by decide +kernel
theorem dX3_feed_23 : decode cX3_feed 23 = .ok (.bipush 120, 2) := by decide +kernel
theorem dX3_feed_25 : decode cX3_feed 25 = .ok (.iload_n 2, 1) := by decide +kernel
theorem dX3_feed_26 : decode cX3_feed 26 = .ok (.isub, 1) := by decide +kernel
theorem dX3_feed_27 : decode cX3_feed 27 = .ok (.if_icmp .le 10, 3) := by decide +kernel
theorem dX3_feed_30 : decode cX3_feed 30 = .ok (.aload_n 0, 1) := by decide +kernel
theorem dX3_feed_31 : decode cX3_feed 31 = .ok (.ldc 73, 2) := by decide +kernel
theorem dX3_feed_33 : decode cX3_feed 33 = .ok (.invokevirtual 56, 3) := by decide +kernel
theorem dX3_feed_36 : decode cX3_feed 36 = .ok (.ireturn, 1) := by decide +kernel
theorem dX3_feed_37 : decode cX3_feed 37 = .ok (.iload_n 2, 1) := by decide +kernel
theorem dX3_feed_38 : decode cX3_feed 38 = .ok (.iconst 1, 1) := by decide +kernel
theorem dX3_feed_39 : decode cX3_feed 39 = .ok (.isub, 1) := by decide +kernel
theorem dX3_feed_40 : decode cX3_feed 40 = .ok (.istore_n 3, 1) := by decide +kernel
theorem dX3_feed_41 : decode cX3_feed 41 = .ok (.iload_n 3, 1) := by decide +kernel
theorem dX3_feed_42 : decode cX3_feed 42 = .ok (.ifCond .lt 26, 3) := by decide +kernel
theorem dX3_feed_45 : decode cX3_feed 45 = .ok (.aload_n 0, 1) := by decide +kernel
theorem dX3_feed_46 : decode cX3_feed 46 = .ok (.getfield 28, 3) := by decide +kernel
theorem dX3_feed_49 : decode cX3_feed 49 = .ok (.iload_n 1, 1) := by decide +kernel
theorem dX3_feed_50 : decode cX3_feed 50 = .ok (.bipush 8, 2) := by decide +kernel
theorem dX3_feed_52 : decode cX3_feed 52 = .ok (.iload_n 3, 1) := by decide +kernel
theorem dX3_feed_53 : decode cX3_feed 53 = .ok (.imul, 1) := by decide +kernel
theorem dX3_feed_54 : decode cX3_feed 54 = .ok (.iushr, 1) := by decide +kernel
theorem dX3_feed_55 : decode cX3_feed 55 = .ok (.sipush 255, 3) := by decide +kernel
theorem dX3_feed_58 : decode cX3_feed 58 = .ok (.iand, 1) := by decide +kernel
theorem dX3_feed_59 : decode cX3_feed 59 = .ok (.invokevirtual 221, 3) := by decide +kernel
theorem dX3_feed_62 : decode cX3_feed 62 = .ok (.iinc 3 (-1), 3) := by decide +kernel
theorem dX3_feed_65 : decode cX3_feed 65 = .ok (.goto (-24), 3) := by decide +kernel
theorem dX3_feed_68 : decode cX3_feed 68 = .ok (.aload_n 0, 1) := by decide +kernel
theorem dX3_feed_69 : decode cX3_feed 69 = .ok (.getfield 28, 3) := by decide +kernel
theorem dX3_feed_72 : decode cX3_feed 72 = .ok (.getfield 218, 3) := by decide +kernel
theorem dX3_feed_75 : decode cX3_feed 75 = .ok (.ireturn, 1) := by decide +kernel
theorem dX3_wipe_0 : decode cX3_wipe 0 = .ok (.aload_n 0, 1) := by decide +kernel
theorem dX3_wipe_1 : decode cX3_wipe 1 = .ok (.getfield 28, 3) := by decide +kernel
theorem dX3_wipe_4 : decode cX3_wipe 4 = .ok (.getfield 218, 3) := by decide +kernel
theorem dX3_wipe_7 : decode cX3_wipe 7 = .ok (.istore_n 1, 1) := by decide +kernel
theorem dX3_wipe_8 : decode cX3_wipe 8 = .ok (.aload_n 0, 1) := by decide +kernel
theorem dX3_wipe_9 : decode cX3_wipe 9 = .ok (.getfield 28, 3) := by decide +kernel
theorem dX3_wipe_12 : decode cX3_wipe 12 = .ok (.iconst 0, 1) := by decide +kernel
theorem dX3_wipe_13 : decode cX3_wipe 13 = .ok (.putfield 218, 3) := by decide +kernel
theorem dX3_wipe_16 : decode cX3_wipe 16 = .ok (.iload_n 1, 1) := by decide +kernel
theorem dX3_wipe_17 : decode cX3_wipe 17 = .ok (.ireturn, 1) := by decide +kernel
theorem dX3_market_0 : decode cX3_market 0 = .ok (.aload_n 0, 1) := by decide +kernel
theorem dX3_market_1 : decode cX3_market 1 = .ok (.getfield 19, 3) := by decide +kernel
theorem dX3_market_4 : decode cX3_market 4 = .ok (.aload_n 0, 1) := by decide +kernel
theorem dX3_market_5 : decode cX3_market 5 = .ok (.getfield 10, 3) := by decide +kernel
theorem dX3_market_8 : decode cX3_market 8 = .ok (.invokevirtual 183, 3) := by decide +kernel
theorem dX3_market_11 : decode cX3_market 11 = .ok (.aload_n 0, 1) := by decide +kernel
theorem dX3_market_12 : decode cX3_market 12 = .ok (.getfield 28, 3) := by decide +kernel
theorem dX3_market_15 : decode cX3_market 15 = .ok (.aload_n 0, 1) := by decide +kernel
theorem dX3_market_16 : decode cX3_market 16 = .ok (.getfield 19, 3) := by decide +kernel
theorem dX3_market_19 : decode cX3_market 19 = .ok (.invokevirtual 224, 3) := by decide +kernel
theorem dX3_market_22 : decode cX3_market 22 = .ok (.istore_n 1, 1) := by decide +kernel
theorem dX3_market_23 : decode cX3_market 23 = .ok (.iload_n 1, 1) := by decide +kernel
theorem dX3_market_24 : decode cX3_market 24 = .ok (.ifCond .lt 14, 3) := by decide +kernel
theorem dX3_market_27 : decode cX3_market 27 = .ok (.aload_n 0, 1) := by decide +kernel
theorem dX3_market_28 : decode cX3_market 28 = .ok (.getfield 10, 3) := by decide +kernel
theorem dX3_market_31 : decode cX3_market 31 = .ok (.aload_n 0, 1) := by decide +kernel
theorem dX3_market_32 : decode cX3_market 32 = .ok (.getfield 19, 3) := by decide +kernel
theorem dX3_market_35 : decode cX3_market 35 = .ok (.invokevirtual 183, 3) := by decide +kernel
theorem dX3_market_38 : decode cX3_market 38 = .ok (.aload_n 0, 1) := by decide +kernel
theorem dX3_market_39 : decode cX3_market 39 = .ok (.getfield 28, 3) := by decide +kernel
theorem dX3_market_42 : decode cX3_market 42 = .ok (.iconst 0, 1) := by decide +kernel
theorem dX3_market_43 : decode cX3_market 43 = .ok (.putfield 218, 3) := by decide +kernel
theorem dX3_market_46 : decode cX3_market 46 = .ok (.iload_n 1, 1) := by decide +kernel
theorem dX3_market_47 : decode cX3_market 47 = .ok (.ireturn, 1) := by decide +kernel
theorem dX3_sheet_0 : decode cX3_sheet 0 = .ok (.iload_n 1, 1) := by decide +kernel
theorem dX3_sheet_1 : decode cX3_sheet 1 = .ok (.invokestatic 228, 3) := by decide +kernel
theorem dX3_sheet_4 : decode cX3_sheet 4 = .ok (.ifCond .eq 25, 3) := by decide +kernel
theorem dX3_sheet_7 : decode cX3_sheet 7 = .ok (.iload_n 2, 1) := by decide +kernel
theorem dX3_sheet_8 : decode cX3_sheet 8 = .ok (.ifCond .eq 28, 3) := by decide +kernel
theorem dX3_sheet_11 : decode cX3_sheet 11 = .ok (.iload_n 2, 1) := by decide +kernel
theorem dX3_sheet_12 : decode cX3_sheet 12 = .ok (.bipush 8, 2) := by decide +kernel
theorem dX3_sheet_14 : decode cX3_sheet 14 = .ok (.if_icmp .eq 22, 3) := by decide +kernel
theorem dX3_sheet_17 : decode cX3_sheet 17 = .ok (.iload_n 2, 1) := by decide +kernel
theorem dX3_sheet_18 : decode cX3_sheet 18 = .ok (.bipush 16, 2) := by decide +kernel
theorem dX3_sheet_20 : decode cX3_sheet 20 = .ok (.if_icmp .eq 16, 3) := by decide +kernel
theorem dX3_sheet_23 : decode cX3_sheet 23 = .ok (.iload_n 2, 1) := by decide +kernel
theorem dX3_sheet_24 : decode cX3_sheet 24 = .ok (.bipush 64, 2) := by decide +kernel
theorem dX3_sheet_26 : decode cX3_sheet 26 = .ok (.if_icmp .eq 10, 3) := by decide +kernel
theorem dX3_sheet_29 : decode cX3_sheet 29 = .ok (.aload_n 0, 1) := by decide +kernel
theorem dX3_sheet_30 : decode cX3_sheet 30 = .ok (.ldc 55, 2) := by decide +kernel
theorem dX3_sheet_32 : decode cX3_sheet 32 = .ok (.invokevirtual 56, 3) := by decide +kernel
theorem dX3_sheet_35 : decode cX3_sheet 35 = .ok (.ireturn, 1) := by decide +kernel
theorem dX3_sheet_36 : decode cX3_sheet 36 = .ok (.iload_n 3, 1) := by decide +kernel
theorem dX3_sheet_37 : decode cX3_sheet 37 = .ok (.ifCond .ge 10, 3) := by decide +kernel
theorem dX3_sheet_40 : decode cX3_sheet 40 = .ok (.aload_n 0, 1) := by decide +kernel
theorem dX3_sheet_41 : decode cX3_sheet 41 = .ok (.ldc 208, 2) := by decide +kernel
theorem dX3_sheet_43 : decode cX3_sheet 43 = .ok (.invokevirtual 56, 3) := by decide +kernel
theorem dX3_sheet_46 : decode cX3_sheet 46 = .ok (.ireturn, 1) := by decide +kernel
theorem dX3_sheet_47 : decode cX3_sheet 47 = .ok (.iload_n 3, 1) := by decide +kernel
theorem dX3_sheet_48 : decode cX3_sheet 48 = .ok (.bipush 40, 2) := by decide +kernel
theorem dX3_sheet_50 : decode cX3_sheet 50 = .ok (.if_icmp .le 10, 3) := by decide +kernel
theorem dX3_sheet_53 : decode cX3_sheet 53 = .ok (.aload_n 0, 1) := by decide +kernel
theorem dX3_sheet_54 : decode cX3_sheet 54 = .ok (.ldc 55, 2) := by decide +kernel
theorem dX3_sheet_56 : decode cX3_sheet 56 = .ok (.invokevirtual 56, 3) := by decide +kernel
theorem dX3_sheet_59 : decode cX3_sheet 59 = .ok (.ireturn, 1) := by decide +kernel
theorem dX3_sheet_60 : decode cX3_sheet 60 = .ok (.aload_n 0, 1) := by decide +kernel
theorem dX3_sheet_61 : decode cX3_sheet 61 = .ok (.getfield 34, 3) := by decide +kernel
theorem dX3_sheet_64 : decode cX3_sheet 64 = .ok (.iload_n 1, 1) := by decide +kernel
theorem dX3_sheet_65 : decode cX3_sheet 65 = .ok (.aaload, 1) := by decide +kernel
theorem dX3_sheet_66 : decode cX3_sheet 66 = .ok (.iload_n 2, 1) := by decide +kernel
theorem dX3_sheet_67 : decode cX3_sheet 67 = .ok (.iload_n 3, 1) := by decide +kernel
theorem dX3_sheet_68 : decode cX3_sheet 68 = .ok (.invokevirtual 231, 3) := by decide +kernel
theorem dX3_sheet_71 : decode cX3_sheet 71 = .ok (.ireturn, 1) := by decide +kernel
theorem dX3_write_0 : decode cX3_write 0 = .ok (.iload_n 1, 1) := by decide +kernel
theorem dX3_write_1 : decode cX3_write 1 = .ok (.invokestatic 228, 3) := by decide +kernel
theorem dX3_write_4 : decode cX3_write 4 = .ok (.ifCond .ne 11, 3) := by decide +kernel
theorem dX3_write_7 : decode cX3_write 7 = .ok (.aload_n 0, 1) := by decide +kernel
theorem dX3_write_8 : decode cX3_write 8 = .ok (.ldc 55, 2) := by decide +kernel
theorem dX3_write_10 : decode cX3_write 10 = .ok (.invokevirtual 56, 3) := by decide +kernel
theorem dX3_write_13 : decode cX3_write 13 = .ok (.i2l, 1) := by decide +kernel
theorem dX3_write_14 : decode cX3_write 14 = .ok (.lreturn, 1) := by decide +kernel
theorem dX3_write_15 : decode cX3_write 15 = .ok (.aload_n 0, 1) := by decide +kernel
theorem dX3_write_16 : decode cX3_write 16 = .ok (.getfield 34, 3) := by decide +kernel
theorem dX3_write_19 : decode cX3_write 19 = .ok (.iload_n 1, 1) := by decide +kernel
theorem dX3_write_20 : decode cX3_write 20 = .ok (.aaload, 1) := by decide +kernel
theorem dX3_write_21 : decode cX3_write 21 = .ok (.astore 5, 2) := by decide +kernel
theorem dX3_write_23 : decode cX3_write 23 = .ok (.aload 5, 2) := by decide +kernel
theorem dX3_write_25 : decode cX3_write 25 = .ok (.invokevirtual 234, 3) := by decide +kernel
theorem dX3_write_28 : decode cX3_write 28 = .ok (.ifCond .eq 11, 3) := by decide +kernel
theorem dX3_write_31 : decode cX3_write 31 = .ok (.aload_n 0, 1) := by decide +kernel
theorem dX3_write_32 : decode cX3_write 32 = .ok (.ldc 237, 2) := by decide +kernel
theorem dX3_write_34 : decode cX3_write 34 = .ok (.invokevirtual 56, 3) := by decide +kernel
theorem dX3_write_37 : decode cX3_write 37 = .ok (.i2l, 1) := by decide +kernel
theorem dX3_write_38 : decode cX3_write 38 = .ok (.lreturn, 1) := by decide +kernel
theorem dX3_write_39 : decode cX3_write 39 = .ok (.iload_n 2, 1) := by decide +kernel
theorem dX3_write_40 : decode cX3_write 40 = .ok (.iconst 0, 1) := by decide +kernel
theorem dX3_write_41 : decode cX3_write 41 = .ok (.aload 5, 2) := by decide +kernel
theorem dX3_write_43 : decode cX3_write 43 = .ok (.getfield 238, 3) := by decide +kernel
theorem dX3_write_46 : decode cX3_write 46 = .ok (.iconst 1, 1) := by decide +kernel
theorem dX3_write_47 : decode cX3_write 47 = .ok (.isub, 1) := by decide +kernel
theorem dX3_write_48 : decode cX3_write 48 = .ok (.invokestatic 51, 3) := by decide +kernel
theorem dX3_write_51 : decode cX3_write 51 = .ok (.ifCond .ne 11, 3) := by decide +kernel
theorem dX3_write_54 : decode cX3_write 54 = .ok (.aload_n 0, 1) := by decide +kernel
theorem dX3_write_55 : decode cX3_write 55 = .ok (.ldc 55, 2) := by decide +kernel
theorem dX3_write_57 : decode cX3_write 57 = .ok (.invokevirtual 56, 3) := by decide +kernel
theorem dX3_write_60 : decode cX3_write 60 = .ok (.i2l, 1) := by decide +kernel
theorem dX3_write_61 : decode cX3_write 61 = .ok (.lreturn, 1) := by decide +kernel
theorem dX3_write_62 : decode cX3_write 62 = .ok (.aload 5, 2) := by decide +kernel
theorem dX3_write_64 : decode cX3_write 64 = .ok (.getfield 239, 3) := by decide +kernel
theorem dX3_write_67 : decode cX3_write 67 = .ok (.iload_n 2, 1) := by decide +kernel
theorem dX3_write_68 : decode cX3_write 68 = .ok (.laload, 1) := by decide +kernel
theorem dX3_write_69 : decode cX3_write 69 = .ok (.lstore 6, 2) := by decide +kernel
theorem dX3_write_71 : decode cX3_write 71 = .ok (.aload 5, 2) := by decide +kernel
theorem dX3_write_73 : decode cX3_write 73 = .ok (.iload_n 2, 1) := by decide +kernel
theorem dX3_write_74 : decode cX3_write 74 = .ok (.lload_n 3, 1) := by decide +kernel
theorem dX3_write_75 : decode cX3_write 75 = .ok (.invokevirtual 243, 3) := by decide +kernel
theorem dX3_write_78 : decode cX3_write 78 = .ok (.lload 6, 2) := by decide +kernel
theorem dX3_write_80 : decode cX3_write 80 = .ok (.lreturn, 1) := by decide +kernel
theorem dX3_copy_0 : decode cX3_copy 0 = .ok (.iload_n 1, 1) := by decide +kernel
theorem dX3_copy_1 : decode cX3_copy 1 = .ok (.invokestatic 228, 3) := by decide +kernel
theorem dX3_copy_4 : decode cX3_copy 4 = .ok (.ifCond .eq 10, 3) := by decide +kernel
theorem dX3_copy_7 : decode cX3_copy 7 = .ok (.iload_n 3, 1) := by decide +kernel
theorem dX3_copy_8 : decode cX3_copy 8 = .ok (.invokestatic 228, 3) := by decide +kernel
theorem dX3_copy_11 : decode cX3_copy 11 = .ok (.ifCond .ne 10, 3) := by decide +kernel
theorem dX3_copy_14 : decode cX3_copy 14 = .ok (.aload_n 0, 1) := by decide +kernel
theorem dX3_copy_15 : decode cX3_copy 15 = .ok (.ldc 55, 2) := by decide +kernel
theorem dX3_copy_17 : decode cX3_copy 17 = .ok (.invokevirtual 56, 3) := by decide +kernel
theorem dX3_copy_20 : decode cX3_copy 20 = .ok (.ireturn, 1) := by decide +kernel
theorem dX3_copy_21 : decode cX3_copy 21 = .ok (.aload_n 0, 1) := by decide +kernel
theorem dX3_copy_22 : decode cX3_copy 22 = .ok (.getfield 34, 3) := by decide +kernel
theorem dX3_copy_25 : decode cX3_copy 25 = .ok (.iload_n 1, 1) := by decide +kernel
theorem dX3_copy_26 : decode cX3_copy 26 = .ok (.aaload, 1) := by decide +kernel
theorem dX3_copy_27 : decode cX3_copy 27 = .ok (.astore 6, 2) := by decide +kernel
theorem dX3_copy_29 : decode cX3_copy 29 = .ok (.aload_n 0, 1) := by decide +kernel
theorem dX3_copy_30 : decode cX3_copy 30 = .ok (.getfield 34, 3) := by decide +kernel
theorem dX3_copy_33 : decode cX3_copy 33 = .ok (.iload_n 3, 1) := by decide +kernel
theorem dX3_copy_34 : decode cX3_copy 34 = .ok (.aaload, 1) := by decide +kernel
theorem dX3_copy_35 : decode cX3_copy 35 = .ok (.astore 7, 2) := by decide +kernel
theorem dX3_copy_37 : decode cX3_copy 37 = .ok (.aload 6, 2) := by decide +kernel
theorem dX3_copy_39 : decode cX3_copy 39 = .ok (.invokevirtual 234, 3) := by decide +kernel
theorem dX3_copy_42 : decode cX3_copy 42 = .ok (.ifCond .ne 11, 3) := by decide +kernel
theorem dX3_copy_45 : decode cX3_copy 45 = .ok (.aload 7, 2) := by decide +kernel
theorem dX3_copy_47 : decode cX3_copy 47 = .ok (.invokevirtual 234, 3) := by decide +kernel
theorem dX3_copy_50 : decode cX3_copy 50 = .ok (.ifCond .eq 10, 3) := by decide +kernel
theorem dX3_copy_53 : decode cX3_copy 53 = .ok (.aload_n 0, 1) := by decide +kernel
theorem dX3_copy_54 : decode cX3_copy 54 = .ok (.ldc 237, 2) := by decide +kernel
theorem dX3_copy_56 : decode cX3_copy 56 = .ok (.invokevirtual 56, 3) := by decide +kernel
theorem dX3_copy_59 : decode cX3_copy 59 = .ok (.ireturn, 1) := by decide +kernel
theorem dX3_copy_60 : decode cX3_copy 60 = .ok (.aload 6, 2) := by decide +kernel
theorem dX3_copy_62 : decode cX3_copy 62 = .ok (.getfield 247, 3) := by decide +kernel
theorem dX3_copy_65 : decode cX3_copy 65 = .ok (.aload 7, 2) := by decide +kernel
theorem dX3_copy_67 : decode cX3_copy 67 = .ok (.getfield 247, 3) := by decide +kernel
theorem dX3_copy_70 : decode cX3_copy 70 = .ok (.if_icmp .eq 10, 3) := by decide +kernel
theorem dX3_copy_73 : decode cX3_copy 73 = .ok (.aload_n 0, 1) := by decide +kernel
theorem dX3_copy_74 : decode cX3_copy 74 = .ok (.ldc 114, 2) := by decide +kernel
theorem dX3_copy_76 : decode cX3_copy 76 = .ok (.invokevirtual 56, 3) := by decide +kernel
theorem dX3_copy_79 : decode cX3_copy 79 = .ok (.ireturn, 1) := by decide +kernel
theorem dX3_copy_80 : decode cX3_copy 80 = .ok (.aload 6, 2) := by decide +kernel
theorem dX3_copy_82 : decode cX3_copy 82 = .ok (.iload_n 2, 1) := by decide +kernel
theorem dX3_copy_83 : decode cX3_copy 83 = .ok (.iload 5, 2) := by decide +kernel
theorem dX3_copy_85 : decode cX3_copy 85 = .ok (.invokevirtual 250, 3) := by decide +kernel
theorem dX3_copy_88 : decode cX3_copy 88 = .ok (.ifCond .eq 15, 3) := by decide +kernel
theorem dX3_copy_91 : decode cX3_copy 91 = .ok (.aload 7, 2) := by decide +kernel
theorem dX3_copy_93 : decode cX3_copy 93 = .ok (.iload 4, 2) := by decide +kernel
theorem dX3_copy_95 : decode cX3_copy 95 = .ok (.iload 5, 2) := by decide +kernel
theorem dX3_copy_97 : decode cX3_copy 97 = .ok (.invokevirtual 250, 3) := by decide +kernel
theorem dX3_copy_100 : decode cX3_copy 100 = .ok (.ifCond .ne 10, 3) := by decide +kernel
theorem dX3_copy_103 : decode cX3_copy 103 = .ok (.aload_n 0, 1) := by decide +kernel
theorem dX3_copy_104 : decode cX3_copy 104 = .ok (.ldc 55, 2) := by decide +kernel
theorem dX3_copy_106 : decode cX3_copy 106 = .ok (.invokevirtual 56, 3) := by decide +kernel
theorem dX3_copy_109 : decode cX3_copy 109 = .ok (.ireturn, 1) := by decide +kernel
theorem dX3_copy_110 : decode cX3_copy 110 = .ok (.aload 6, 2) := by decide +kernel
theorem dX3_copy_112 : decode cX3_copy 112 = .ok (.getfield 239, 3) := by decide +kernel
theorem dX3_copy_115 : decode cX3_copy 115 = .ok (.iload_n 2, 1) := by decide +kernel
theorem dX3_copy_116 : decode cX3_copy 116 = .ok (.aload 7, 2) := by decide +kernel
theorem dX3_copy_118 : decode cX3_copy 118 = .ok (.getfield 239, 3) := by decide +kernel
theorem dX3_copy_121 : decode cX3_copy 121 = .ok (.iload 4, 2) := by decide +kernel
theorem dX3_copy_123 : decode cX3_copy 123 = .ok (.iload 5, 2) := by decide +kernel
theorem dX3_copy_125 : decode cX3_copy 125 = .ok (.invokestatic 253, 3) := by decide +kernel
theorem dX3_copy_128 : decode cX3_copy 128 = .ok (.iload 5, 2) := by decide +kernel
theorem dX3_copy_130 : decode cX3_copy 130 = .ok (.ireturn, 1) := by decide +kernel
theorem dX3_lays_0 : decode cX3_lays 0 = .ok (.iload_n 1, 1) := by decide +kernel
theorem dX3_lays_1 : decode cX3_lays 1 = .ok (.invokestatic 228, 3) := by decide +kernel
theorem dX3_lays_4 : decode cX3_lays 4 = .ok (.ifCond .ne 10, 3) := by decide +kernel
theorem dX3_lays_7 : decode cX3_lays 7 = .ok (.aload_n 0, 1) := by decide +kernel
theorem dX3_lays_8 : decode cX3_lays 8 = .ok (.ldc 55, 2) := by decide +kernel
theorem dX3_lays_10 : decode cX3_lays 10 = .ok (.invokevirtual 56, 3) := by decide +kernel
theorem dX3_lays_13 : decode cX3_lays 13 = .ok (.ireturn, 1) := by decide +kernel
theorem dX3_lays_14 : decode cX3_lays 14 = .ok (.aload_n 0, 1) := by decide +kernel
theorem dX3_lays_15 : decode cX3_lays 15 = .ok (.getfield 34, 3) := by decide +kernel
theorem dX3_lays_18 : decode cX3_lays 18 = .ok (.iload_n 1, 1) := by decide +kernel
theorem dX3_lays_19 : decode cX3_lays 19 = .ok (.aaload, 1) := by decide +kernel
theorem dX3_lays_20 : decode cX3_lays 20 = .ok (.astore_n 2, 1) := by decide +kernel
theorem dX3_lays_21 : decode cX3_lays 21 = .ok (.aload_n 2, 1) := by decide +kernel
theorem dX3_lays_22 : decode cX3_lays 22 = .ok (.invokevirtual 234, 3) := by decide +kernel
theorem dX3_lays_25 : decode cX3_lays 25 = .ok (.ifCond .eq 10, 3) := by decide +kernel
theorem dX3_lays_28 : decode cX3_lays 28 = .ok (.aload_n 0, 1) := by decide +kernel
theorem dX3_lays_29 : decode cX3_lays 29 = .ok (.ldc 237, 2) := by decide +kernel
theorem dX3_lays_31 : decode cX3_lays 31 = .ok (.invokevirtual 56, 3) := by decide +kernel
theorem dX3_lays_34 : decode cX3_lays 34 = .ok (.ireturn, 1) := by decide +kernel
theorem dX3_lays_35 : decode cX3_lays 35 = .ok (.iconst 0, 1) := by decide +kernel
theorem dX3_lays_36 : decode cX3_lays 36 = .ok (.istore_n 3, 1) := by decide +kernel
theorem dX3_lays_37 : decode cX3_lays 37 = .ok (.iconst 0, 1) := by decide +kernel
theorem dX3_lays_38 : decode cX3_lays 38 = .ok (.istore 4, 2) := by decide +kernel
theorem dX3_lays_40 : decode cX3_lays 40 = .ok (.iload 4, 2) := by decide +kernel
theorem dX3_lays_42 : decode cX3_lays 42 = .ok (.aload_n 2, 1) := by decide +kernel
theorem dX3_lays_43 : decode cX3_lays 43 = .ok (.getfield 238, 3) := by decide +kernel
theorem dX3_lays_46 : decode cX3_lays 46 = .ok (.if_icmp .ge 57, 3) := by decide +kernel
theorem dX3_lays_49 : decode cX3_lays 49 = .ok (.iload 4, 2) := by decide +kernel
theorem dX3_lays_51 : decode cX3_lays 51 = .ok (.bipush 12, 2) := by decide +kernel
theorem dX3_lays_53 : decode cX3_lays 53 = .ok (.if_icmp .ge 50, 3) := by decide +kernel
theorem dX3_lays_56 : decode cX3_lays 56 = .ok (.aload_n 2, 1) := by decide +kernel
theorem dX3_lays_57 : decode cX3_lays 57 = .ok (.getfield 239, 3) := by decide +kernel
theorem dX3_lays_60 : decode cX3_lays 60 = .ok (.iload 4, 2) := by decide +kernel
theorem dX3_lays_62 : decode cX3_lays 62 = .ok (.laload, 1) := by decide +kernel
theorem dX3_lays_63 : decode cX3_lays 63 = .ok (.lstore 5, 2) := by decide +kernel
theorem dX3_lays_65 : decode cX3_lays 65 = .ok (.lload 5, 2) := by decide +kernel
theorem dX3_lays_67 : decode cX3_lays 67 = .ok (.lconst 0, 1) := by decide +kernel
theorem dX3_lays_68 : decode cX3_lays 68 = .ok (.lcmp, 1) := by decide +kernel
theorem dX3_lays_69 : decode cX3_lays 69 = .ok (.ifCond .lt 28, 3) := by decide +kernel
theorem dX3_lays_72 : decode cX3_lays 72 = .ok (.lload 5, 2) := by decide +kernel
theorem dX3_lays_74 : decode cX3_lays 74 = .ok (.ldc2_w 259, 3) := by decide +kernel
theorem dX3_lays_77 : decode cX3_lays 77 = .ok (.lcmp, 1) := by decide +kernel
theorem dX3_lays_78 : decode cX3_lays 78 = .ok (.ifCond .gt 19, 3) := by decide +kernel
theorem dX3_lays_81 : decode cX3_lays 81 = .ok (.aload_n 0, 1) := by decide +kernel
theorem dX3_lays_82 : decode cX3_lays 82 = .ok (.getfield 10, 3) := by decide +kernel
theorem dX3_lays_85 : decode cX3_lays 85 = .ok (.getfield 63, 3) := by decide +kernel
theorem dX3_lays_88 : decode cX3_lays 88 = .ok (.iload 4, 2) := by decide +kernel
theorem dX3_lays_90 : decode cX3_lays 90 = .ok (.lload 5, 2) := by decide +kernel
theorem dX3_lays_92 : decode cX3_lays 92 = .ok (.l2i, 1) := by decide +kernel
theorem dX3_lays_93 : decode cX3_lays 93 = .ok (.iastore, 1) := by decide +kernel
theorem dX3_lays_94 : decode cX3_lays 94 = .ok (.iinc 3 1, 3) := by decide +kernel
theorem dX3_lays_97 : decode cX3_lays 97 = .ok (.iinc 4 1, 3) := by decide +kernel
theorem dX3_lays_100 : decode cX3_lays 100 = .ok (.goto (-60), 3) := by decide +kernel
theorem dX3_lays_103 : decode cX3_lays 103 = .ok (.iload_n 3, 1) := by decide +kernel
theorem dX3_lays_104 : decode cX3_lays 104 = .ok (.ireturn, 1) := by decide +kernel
theorem dX3_book_0 : decode cX3_book 0 = .ok (.iload_n 1, 1) := by decide +kernel
theorem dX3_book_1 : decode cX3_book 1 = .ok (.invokestatic 228, 3) := by decide +kernel
theorem dX3_book_4 : decode cX3_book 4 = .ok (.ifCond .ne 10, 3) := by decide +kernel
theorem dX3_book_7 : decode cX3_book 7 = .ok (.aload_n 0, 1) := by decide +kernel
theorem dX3_book_8 : decode cX3_book 8 = .ok (.ldc 55, 2) := by decide +kernel
theorem dX3_book_10 : decode cX3_book 10 = .ok (.invokevirtual 56, 3) := by decide +kernel
theorem dX3_book_13 : decode cX3_book 13 = .ok (.ireturn, 1) := by decide +kernel
theorem dX3_book_14 : decode cX3_book 14 = .ok (.aload_n 0, 1) := by decide +kernel
theorem dX3_book_15 : decode cX3_book 15 = .ok (.getfield 34, 3) := by decide +kernel
theorem dX3_book_18 : decode cX3_book 18 = .ok (.iload_n 1, 1) := by decide +kernel
theorem dX3_book_19 : decode cX3_book 19 = .ok (.aaload, 1) := by decide +kernel
theorem dX3_book_20 : decode cX3_book 20 = .ok (.astore_n 3, 1) := by decide +kernel
theorem dX3_book_21 : decode cX3_book 21 = .ok (.aload_n 3, 1) := by decide +kernel
theorem dX3_book_22 : decode cX3_book 22 = .ok (.invokevirtual 234, 3) := by decide +kernel
theorem dX3_book_25 : decode cX3_book 25 = .ok (.ifCond .eq 10, 3) := by decide +kernel
theorem dX3_book_28 : decode cX3_book 28 = .ok (.aload_n 0, 1) := by decide +kernel
theorem dX3_book_29 : decode cX3_book 29 = .ok (.ldc 237, 2) := by decide +kernel
theorem dX3_book_31 : decode cX3_book 31 = .ok (.invokevirtual 56, 3) := by decide +kernel
theorem dX3_book_34 : decode cX3_book 34 = .ok (.ireturn, 1) := by decide +kernel
theorem dX3_book_35 : decode cX3_book 35 = .ok (.iload_n 2, 1) := by decide +kernel
theorem dX3_book_36 : decode cX3_book 36 = .ok (.iconst 0, 1) := by decide +kernel
theorem dX3_book_37 : decode cX3_book 37 = .ok (.bipush 120, 2) := by decide +kernel
theorem dX3_book_39 : decode cX3_book 39 = .ok (.invokestatic 51, 3) := by decide +kernel
theorem dX3_book_42 : decode cX3_book 42 = .ok (.ifCond .ne 10, 3) := by decide +kernel
theorem dX3_book_45 : decode cX3_book 45 = .ok (.aload_n 0, 1) := by decide +kernel
theorem dX3_book_46 : decode cX3_book 46 = .ok (.ldc 55, 2) := by decide +kernel
theorem dX3_book_48 : decode cX3_book 48 = .ok (.invokevirtual 56, 3) := by decide +kernel
theorem dX3_book_51 : decode cX3_book 51 = .ok (.ireturn, 1) := by decide +kernel
theorem dX3_book_52 : decode cX3_book 52 = .ok (.aload_n 0, 1) := by decide +kernel
theorem dX3_book_53 : decode cX3_book 53 = .ok (.iload_n 2, 1) := by decide +kernel
theorem dX3_book_54 : decode cX3_book 54 = .ok (.invokevirtual 143, 3) := by decide +kernel
theorem dX3_book_57 : decode cX3_book 57 = .ok (.ifCond .eq 10, 3) := by decide +kernel
theorem dX3_book_60 : decode cX3_book 60 = .ok (.aload_n 0, 1) := by decide +kernel
theorem dX3_book_61 : decode cX3_book 61 = .ok (.ldc 123, 2) := by decide +kernel
theorem dX3_book_63 : decode cX3_book 63 = .ok (.invokevirtual 56, 3) := by decide +kernel
theorem dX3_book_66 : decode cX3_book 66 = .ok (.ireturn, 1) := by decide +kernel
theorem dX3_book_67 : decode cX3_book 67 = .ok (.aload_n 0, 1) := by decide +kernel
theorem dX3_book_68 : decode cX3_book 68 = .ok (.getfield 19, 3) := by decide +kernel
theorem dX3_book_71 : decode cX3_book 71 = .ok (.aload_n 0, 1) := by decide +kernel
theorem dX3_book_72 : decode cX3_book 72 = .ok (.getfield 10, 3) := by decide +kernel
theorem dX3_book_75 : decode cX3_book 75 = .ok (.invokevirtual 183, 3) := by decide +kernel
theorem dX3_book_78 : decode cX3_book 78 = .ok (.aload_n 0, 1) := by decide +kernel
theorem dX3_book_79 : decode cX3_book 79 = .ok (.getfield 19, 3) := by decide +kernel
theorem dX3_book_82 : decode cX3_book 82 = .ok (.iload_n 2, 1) := by decide +kernel
theorem dX3_book_83 : decode cX3_book 83 = .ok (.invokevirtual 187, 3) := by decide +kernel
theorem dX3_book_86 : decode cX3_book 86 = .ok (.aload_n 0, 1) := by decide +kernel
theorem dX3_book_87 : decode cX3_book 87 = .ok (.getfield 19, 3) := by decide +kernel
theorem dX3_book_90 : decode cX3_book 90 = .ok (.getfield 69, 3) := by decide +kernel
theorem dX3_book_93 : decode cX3_book 93 = .ok (.aload_n 3, 1) := by decide +kernel
theorem dX3_book_94 : decode cX3_book 94 = .ok (.getfield 238, 3) := by decide +kernel
theorem dX3_book_97 : decode cX3_book 97 = .ok (.invokestatic 261, 3) := by decide +kernel
theorem dX3_book_100 : decode cX3_book 100 = .ok (.istore 4, 2) := by decide +kernel
theorem dX3_book_102 : decode cX3_book 102 = .ok (.iconst 0, 1) := by decide +kernel
theorem dX3_book_103 : decode cX3_book 103 = .ok (.istore 5, 2) := by decide +kernel
theorem dX3_book_105 : decode cX3_book 105 = .ok (.iload 5, 2) := by decide +kernel
theorem dX3_book_107 : decode cX3_book 107 = .ok (.iload 4, 2) := by decide +kernel
theorem dX3_book_109 : decode cX3_book 109 = .ok (.if_icmp .ge 25, 3) := by decide +kernel
theorem dX3_book_112 : decode cX3_book 112 = .ok (.aload_n 3, 1) := by decide +kernel
theorem dX3_book_113 : decode cX3_book 113 = .ok (.iload 5, 2) := by decide +kernel
theorem dX3_book_115 : decode cX3_book 115 = .ok (.aload_n 0, 1) := by decide +kernel
theorem dX3_book_116 : decode cX3_book 116 = .ok (.getfield 19, 3) := by decide +kernel
theorem dX3_book_119 : decode cX3_book 119 = .ok (.iload 5, 2) := by decide +kernel
theorem dX3_book_121 : decode cX3_book 121 = .ok (.invokevirtual 93, 3) := by decide +kernel
theorem dX3_book_124 : decode cX3_book 124 = .ok (.i2l, 1) := by decide +kernel
theorem dX3_book_125 : decode cX3_book 125 = .ok (.invokevirtual 243, 3) := by decide +kernel
theorem dX3_book_128 : decode cX3_book 128 = .ok (.iinc 5 1, 3) := by decide +kernel
theorem dX3_book_131 : decode cX3_book 131 = .ok (.goto (-26), 3) := by decide +kernel
theorem dX3_book_134 : decode cX3_book 134 = .ok (.iload 4, 2) := by decide +kernel
theorem dX3_book_136 : decode cX3_book 136 = .ok (.ireturn, 1) := by decide +kernel
theorem dX3_read_0 : decode cX3_read 0 = .ok (.iload_n 1, 1) := by decide +kernel
theorem dX3_read_1 : decode cX3_read 1 = .ok (.invokestatic 228, 3) := by decide +kernel
theorem dX3_read_4 : decode cX3_read 4 = .ok (.ifCond .ne 10, 3) := by decide +kernel
theorem dX3_read_7 : decode cX3_read 7 = .ok (.aload_n 0, 1) := by decide +kernel
theorem dX3_read_8 : decode cX3_read 8 = .ok (.ldc 55, 2) := by decide +kernel
theorem dX3_read_10 : decode cX3_read 10 = .ok (.invokevirtual 56, 3) := by decide +kernel
theorem dX3_read_13 : decode cX3_read 13 = .ok (.ireturn, 1) := by decide +kernel
theorem dX3_read_14 : decode cX3_read 14 = .ok (.aload_n 0, 1) := by decide +kernel
theorem dX3_read_15 : decode cX3_read 15 = .ok (.getfield 34, 3) := by decide +kernel
theorem dX3_read_18 : decode cX3_read 18 = .ok (.iload_n 1, 1) := by decide +kernel
theorem dX3_read_19 : decode cX3_read 19 = .ok (.aaload, 1) := by decide +kernel
theorem dX3_read_20 : decode cX3_read 20 = .ok (.astore_n 3, 1) := by decide +kernel
theorem dX3_read_21 : decode cX3_read 21 = .ok (.aload_n 3, 1) := by decide +kernel
theorem dX3_read_22 : decode cX3_read 22 = .ok (.invokevirtual 234, 3) := by decide +kernel
theorem dX3_read_25 : decode cX3_read 25 = .ok (.ifCond .eq 10, 3) := by decide +kernel
theorem dX3_read_28 : decode cX3_read 28 = .ok (.aload_n 0, 1) := by decide +kernel
theorem dX3_read_29 : decode cX3_read 29 = .ok (.ldc 237, 2) := by decide +kernel
theorem dX3_read_31 : decode cX3_read 31 = .ok (.invokevirtual 56, 3) := by decide +kernel
theorem dX3_read_34 : decode cX3_read 34 = .ok (.ireturn, 1) := by decide +kernel
theorem dX3_read_35 : decode cX3_read 35 = .ok (.iload_n 2, 1) := by decide +kernel
theorem dX3_read_36 : decode cX3_read 36 = .ok (.invokestatic 47, 3) := by decide +kernel
theorem dX3_read_39 : decode cX3_read 39 = .ok (.ifCond .ne 10, 3) := by decide +kernel
theorem dX3_read_42 : decode cX3_read 42 = .ok (.aload_n 0, 1) := by decide +kernel
theorem dX3_read_43 : decode cX3_read 43 = .ok (.ldc 55, 2) := by decide +kernel
theorem dX3_read_45 : decode cX3_read 45 = .ok (.invokevirtual 56, 3) := by decide +kernel
theorem dX3_read_48 : decode cX3_read 48 = .ok (.ireturn, 1) := by decide +kernel
theorem dX3_read_49 : decode cX3_read 49 = .ok (.aload_n 0, 1) := by decide +kernel
theorem dX3_read_50 : decode cX3_read 50 = .ok (.bipush 40, 2) := by decide +kernel
theorem dX3_read_52 : decode cX3_read 52 = .ok (.invokevirtual 143, 3) := by decide +kernel
theorem dX3_read_55 : decode cX3_read 55 = .ok (.ifCond .eq 10, 3) := by decide +kernel
theorem dX3_read_58 : decode cX3_read 58 = .ok (.aload_n 0, 1) := by decide +kernel
theorem dX3_read_59 : decode cX3_read 59 = .ok (.ldc 123, 2) := by decide +kernel
theorem dX3_read_61 : decode cX3_read 61 = .ok (.invokevirtual 56, 3) := by decide +kernel
theorem dX3_read_64 : decode cX3_read 64 = .ok (.ireturn, 1) := by decide +kernel
theorem dX3_read_65 : decode cX3_read 65 = .ok (.aload_n 0, 1) := by decide +kernel
theorem dX3_read_66 : decode cX3_read 66 = .ok (.getfield 19, 3) := by decide +kernel
theorem dX3_read_69 : decode cX3_read 69 = .ok (.aload_n 0, 1) := by decide +kernel
theorem dX3_read_70 : decode cX3_read 70 = .ok (.getfield 10, 3) := by decide +kernel
theorem dX3_read_73 : decode cX3_read 73 = .ok (.invokevirtual 183, 3) := by decide +kernel
theorem dX3_read_76 : decode cX3_read 76 = .ok (.iconst 0, 1) := by decide +kernel
theorem dX3_read_77 : decode cX3_read 77 = .ok (.istore 4, 2) := by decide +kernel
theorem dX3_read_79 : decode cX3_read 79 = .ok (.iload 4, 2) := by decide +kernel
theorem dX3_read_81 : decode cX3_read 81 = .ok (.aload_n 3, 1) := by decide +kernel
theorem dX3_read_82 : decode cX3_read 82 = .ok (.getfield 238, 3) := by decide +kernel
theorem dX3_read_85 : decode cX3_read 85 = .ok (.if_icmp .ge 42, 3) := by decide +kernel
theorem dX3_read_88 : decode cX3_read 88 = .ok (.aload_n 3, 1) := by decide +kernel
theorem dX3_read_89 : decode cX3_read 89 = .ok (.getfield 239, 3) := by decide +kernel
theorem dX3_read_92 : decode cX3_read 92 = .ok (.iload 4, 2) := by decide +kernel
theorem dX3_read_94 : decode cX3_read 94 = .ok (.laload, 1) := by decide +kernel
theorem dX3_read_95 : decode cX3_read 95 = .ok (.aload_n 0, 1) := by decide +kernel
theorem dX3_read_96 : decode cX3_read 96 = .ok (.getfield 19, 3) := by decide +kernel
theorem dX3_read_99 : decode cX3_read 99 = .ok (.iload_n 2, 1) := by decide +kernel
theorem dX3_read_100 : decode cX3_read 100 = .ok (.invokevirtual 124, 3) := by decide +kernel
theorem dX3_read_103 : decode cX3_read 103 = .ok (.i2l, 1) := by decide +kernel
theorem dX3_read_104 : decode cX3_read 104 = .ok (.lcmp, 1) := by decide +kernel
theorem dX3_read_105 : decode cX3_read 105 = .ok (.ifCond .eq 8, 3) := by decide +kernel
theorem dX3_read_108 : decode cX3_read 108 = .ok (.iconst 1, 1) := by decide +kernel
theorem dX3_read_109 : decode cX3_read 109 = .ok (.iload 4, 2) := by decide +kernel
theorem dX3_read_111 : decode cX3_read 111 = .ok (.iadd, 1) := by decide +kernel
theorem dX3_read_112 : decode cX3_read 112 = .ok (.ireturn, 1) := by decide +kernel
theorem dX3_read_113 : decode cX3_read 113 = .ok (.aload_n 0, 1) := by decide +kernel
theorem dX3_read_114 : decode cX3_read 114 = .ok (.getfield 19, 3) := by decide +kernel
theorem dX3_read_117 : decode cX3_read 117 = .ok (.iconst 1, 1) := by decide +kernel
theorem dX3_read_118 : decode cX3_read 118 = .ok (.invokevirtual 173, 3) := by decide +kernel
theorem dX3_read_121 : decode cX3_read 121 = .ok (.iinc 4 1, 3) := by decide +kernel
theorem dX3_read_124 : decode cX3_read 124 = .ok (.goto (-45), 3) := by decide +kernel
theorem dX3_read_127 : decode cX3_read 127 = .ok (.iconst 0, 1) := by decide +kernel
theorem dX3_read_128 : decode cX3_read 128 = .ok (.ireturn, 1) := by decide +kernel
theorem dX3_image_0 : decode cX3_image 0 = .ok (.aload_n 0, 1) := by decide +kernel
theorem dX3_image_1 : decode cX3_image 1 = .ok (.getfield 16, 3) := by decide +kernel
theorem dX3_image_4 : decode cX3_image 4 = .ok (.aload_n 0, 1) := by decide +kernel
theorem dX3_image_5 : decode cX3_image 5 = .ok (.getfield 10, 3) := by decide +kernel
theorem dX3_image_8 : decode cX3_image 8 = .ok (.invokevirtual 183, 3) := by decide +kernel
theorem dX3_image_11 : decode cX3_image 11 = .ok (.aload_n 0, 1) := by decide +kernel
theorem dX3_image_12 : decode cX3_image 12 = .ok (.iconst 1, 1) := by decide +kernel
theorem dX3_image_13 : decode cX3_image 13 = .ok (.putfield 43, 3) := by decide +kernel
theorem dX3_image_16 : decode cX3_image 16 = .ok (.iconst 1, 1) := by decide +kernel
theorem dX3_image_17 : decode cX3_image 17 = .ok (.ireturn, 1) := by decide +kernel
theorem dX3_undo_0 : decode cX3_undo 0 = .ok (.aload_n 0, 1) := by decide +kernel
theorem dX3_undo_1 : decode cX3_undo 1 = .ok (.getfield 43, 3) := by decide +kernel
theorem dX3_undo_4 : decode cX3_undo 4 = .ok (.ifCond .ne 10, 3) := by decide +kernel
theorem dX3_undo_7 : decode cX3_undo 7 = .ok (.aload_n 0, 1) := by decide +kernel
theorem dX3_undo_8 : decode cX3_undo 8 = .ok (.ldc 193, 2) := by decide +kernel
theorem dX3_undo_10 : decode cX3_undo 10 = .ok (.invokevirtual 56, 3) := by decide +kernel
theorem dX3_undo_13 : decode cX3_undo 13 = .ok (.ireturn, 1) := by decide +kernel
theorem dX3_undo_14 : decode cX3_undo 14 = .ok (.aload_n 0, 1) := by decide +kernel
theorem dX3_undo_15 : decode cX3_undo 15 = .ok (.getfield 10, 3) := by decide +kernel
theorem dX3_undo_18 : decode cX3_undo 18 = .ok (.aload_n 0, 1) := by decide +kernel
theorem dX3_undo_19 : decode cX3_undo 19 = .ok (.getfield 16, 3) := by decide +kernel
theorem dX3_undo_22 : decode cX3_undo 22 = .ok (.invokevirtual 183, 3) := by decide +kernel
theorem dX3_undo_25 : decode cX3_undo 25 = .ok (.aload_n 0, 1) := by decide +kernel
theorem dX3_undo_26 : decode cX3_undo 26 = .ok (.getfield 10, 3) := by decide +kernel
theorem dX3_undo_29 : decode cX3_undo 29 = .ok (.getfield 69, 3) := by decide +kernel
theorem dX3_undo_32 : decode cX3_undo 32 = .ok (.ireturn, 1) := by decide +kernel
theorem dX3_tear_0 : decode cX3_tear 0 = .ok (.aload_n 0, 1) := by decide +kernel
theorem dX3_tear_1 : decode cX3_tear 1 = .ok (.getfield 43, 3) := by decide +kernel
theorem dX3_tear_4 : decode cX3_tear 4 = .ok (.ifCond .eq 7, 3) := by decide +kernel
theorem dX3_tear_7 : decode cX3_tear 7 = .ok (.iconst 1, 1) := by decide +kernel
theorem dX3_tear_8 : decode cX3_tear 8 = .ok (.goto 4, 3) := by decide +kernel
theorem dX3_tear_11 : decode cX3_tear 11 = .ok (.iconst 0, 1) := by decide +kernel
theorem dX3_tear_12 : decode cX3_tear 12 = .ok (.istore_n 1, 1) := by decide +kernel
theorem dX3_tear_13 : decode cX3_tear 13 = .ok (.aload_n 0, 1) := by decide +kernel
theorem dX3_tear_14 : decode cX3_tear 14 = .ok (.iconst 0, 1) := by decide +kernel
theorem dX3_tear_15 : decode cX3_tear 15 = .ok (.putfield 43, 3) := by decide +kernel
theorem dX3_tear_18 : decode cX3_tear 18 = .ok (.iload_n 1, 1) := by decide +kernel
theorem dX3_tear_19 : decode cX3_tear 19 = .ok (.ireturn, 1) := by decide +kernel
theorem dX3_count_0 : decode cX3_count 0 = .ok (.iload_n 1, 1) := by decide +kernel
theorem dX3_count_1 : decode cX3_count 1 = .ok (.tableswitch 75 0 4 #[35, 43, 51, 59, 67], 35) := by decide +kernel
theorem dX3_count_36 : decode cX3_count 36 = .ok (.aload_n 0, 1) := by decide +kernel
theorem dX3_count_37 : decode cX3_count 37 = .ok (.getfield 10, 3) := by decide +kernel
theorem dX3_count_40 : decode cX3_count 40 = .ok (.getfield 69, 3) := by decide +kernel
theorem dX3_count_43 : decode cX3_count 43 = .ok (.ireturn, 1) := by decide +kernel
theorem dX3_count_44 : decode cX3_count 44 = .ok (.aload_n 0, 1) := by decide +kernel
theorem dX3_count_45 : decode cX3_count 45 = .ok (.getfield 10, 3) := by decide +kernel
theorem dX3_count_48 : decode cX3_count 48 = .ok (.getfield 146, 3) := by decide +kernel
theorem dX3_count_51 : decode cX3_count 51 = .ok (.ireturn, 1) := by decide +kernel
theorem dX3_count_52 : decode cX3_count 52 = .ok (.aload_n 0, 1) := by decide +kernel
theorem dX3_count_53 : decode cX3_count 53 = .ok (.getfield 10, 3) := by decide +kernel
theorem dX3_count_56 : decode cX3_count 56 = .ok (.invokevirtual 266, 3) := by decide +kernel
theorem dX3_count_59 : decode cX3_count 59 = .ok (.ireturn, 1) := by decide +kernel
theorem dX3_count_60 : decode cX3_count 60 = .ok (.aload_n 0, 1) := by decide +kernel
theorem dX3_count_61 : decode cX3_count 61 = .ok (.getfield 28, 3) := by decide +kernel
theorem dX3_count_64 : decode cX3_count 64 = .ok (.getfield 218, 3) := by decide +kernel
theorem dX3_count_67 : decode cX3_count 67 = .ok (.ireturn, 1) := by decide +kernel
theorem dX3_count_68 : decode cX3_count 68 = .ok (.aload_n 0, 1) := by decide +kernel
theorem dX3_count_69 : decode cX3_count 69 = .ok (.getfield 10, 3) := by decide +kernel
theorem dX3_count_72 : decode cX3_count 72 = .ok (.invokevirtual 269, 3) := by decide +kernel
theorem dX3_count_75 : decode cX3_count 75 = .ok (.ireturn, 1) := by decide +kernel
theorem dX3_count_76 : decode cX3_count 76 = .ok (.aload_n 0, 1) := by decide +kernel
theorem dX3_count_77 : decode cX3_count 77 = .ok (.ldc 55, 2) := by decide +kernel
theorem dX3_count_79 : decode cX3_count 79 = .ok (.invokevirtual 56, 3) := by decide +kernel
theorem dX3_count_82 : decode cX3_count 82 = .ok (.ireturn, 1) := by decide +kernel
theorem dX3_status_0 : decode cX3_status 0 = .ok (.iload_n 1, 1) := by decide +kernel
theorem dX3_status_1 : decode cX3_status 1 = .ok (.iconst (-1), 1) := by decide +kernel
theorem dX3_status_2 : decode cX3_status 2 = .ok (.bipush 6, 2) := by decide +kernel
theorem dX3_status_4 : decode cX3_status 4 = .ok (.invokestatic 51, 3) := by decide +kernel
theorem dX3_status_7 : decode cX3_status 7 = .ok (.ifCond .ne 10, 3) := by decide +kernel
theorem dX3_status_10 : decode cX3_status 10 = .ok (.aload_n 0, 1) := by decide +kernel
theorem dX3_status_11 : decode cX3_status 11 = .ok (.ldc 55, 2) := by decide +kernel
theorem dX3_status_13 : decode cX3_status 13 = .ok (.invokevirtual 56, 3) := by decide +kernel
theorem dX3_status_16 : decode cX3_status 16 = .ok (.ireturn, 1) := by decide +kernel
theorem dX3_status_17 : decode cX3_status 17 = .ok (.iload_n 1, 1) := by decide +kernel
theorem dX3_status_18 : decode cX3_status 18 = .ok (.ifCond .lt 10, 3) := by decide +kernel
theorem dX3_status_21 : decode cX3_status 21 = .ok (.aload_n 0, 1) := by decide +kernel
theorem dX3_status_22 : decode cX3_status 22 = .ok (.getfield 39, 3) := by decide +kernel
theorem dX3_status_25 : decode cX3_status 25 = .ok (.iload_n 1, 1) := by decide +kernel
theorem dX3_status_26 : decode cX3_status 26 = .ok (.iaload, 1) := by decide +kernel
theorem dX3_status_27 : decode cX3_status 27 = .ok (.ireturn, 1) := by decide +kernel
theorem dX3_status_28 : decode cX3_status 28 = .ok (.iconst 0, 1) := by decide +kernel
theorem dX3_status_29 : decode cX3_status 29 = .ok (.istore_n 2, 1) := by decide +kernel
theorem dX3_status_30 : decode cX3_status 30 = .ok (.iconst 0, 1) := by decide +kernel
theorem dX3_status_31 : decode cX3_status 31 = .ok (.istore_n 3, 1) := by decide +kernel
theorem dX3_status_32 : decode cX3_status 32 = .ok (.iload_n 3, 1) := by decide +kernel
theorem dX3_status_33 : decode cX3_status 33 = .ok (.bipush 7, 2) := by decide +kernel
theorem dX3_status_35 : decode cX3_status 35 = .ok (.if_icmp .ge 18, 3) := by decide +kernel
theorem dX3_status_38 : decode cX3_status 38 = .ok (.iload_n 2, 1) := by decide +kernel
theorem dX3_status_39 : decode cX3_status 39 = .ok (.aload_n 0, 1) := by decide +kernel
theorem dX3_status_40 : decode cX3_status 40 = .ok (.getfield 39, 3) := by decide +kernel
theorem dX3_status_43 : decode cX3_status 43 = .ok (.iload_n 3, 1) := by decide +kernel
theorem dX3_status_44 : decode cX3_status 44 = .ok (.iaload, 1) := by decide +kernel
theorem dX3_status_45 : decode cX3_status 45 = .ok (.iadd, 1) := by decide +kernel
theorem dX3_status_46 : decode cX3_status 46 = .ok (.istore_n 2, 1) := by decide +kernel
theorem dX3_status_47 : decode cX3_status 47 = .ok (.iinc 3 1, 3) := by decide +kernel
theorem dX3_status_50 : decode cX3_status 50 = .ok (.goto (-18), 3) := by decide +kernel
theorem dX3_status_53 : decode cX3_status 53 = .ok (.iload_n 2, 1) := by decide +kernel
theorem dX3_status_54 : decode cX3_status 54 = .ok (.ireturn, 1) := by decide +kernel
theorem dX3_finding_0 : decode cX3_finding 0 = .ok (.ldc 55, 2) := by decide +kernel
theorem dX3_finding_2 : decode cX3_finding 2 = .ok (.iload_n 1, 1) := by decide +kernel
theorem dX3_finding_3 : decode cX3_finding 3 = .ok (.isub, 1) := by decide +kernel
theorem dX3_finding_4 : decode cX3_finding 4 = .ok (.istore_n 2, 1) := by decide +kernel
theorem dX3_finding_5 : decode cX3_finding 5 = .ok (.iload_n 2, 1) := by decide +kernel
theorem dX3_finding_6 : decode cX3_finding 6 = .ok (.ifCond .lt 19, 3) := by decide +kernel
theorem dX3_finding_9 : decode cX3_finding 9 = .ok (.iload_n 2, 1) := by decide +kernel
theorem dX3_finding_10 : decode cX3_finding 10 = .ok (.bipush 7, 2) := by decide +kernel
theorem dX3_finding_12 : decode cX3_finding 12 = .ok (.if_icmp .ge 13, 3) := by decide +kernel
theorem dX3_finding_15 : decode cX3_finding 15 = .ok (.aload_n 0, 1) := by decide +kernel
theorem dX3_finding_16 : decode cX3_finding 16 = .ok (.getfield 39, 3) := by decide +kernel
theorem dX3_finding_19 : decode cX3_finding 19 = .ok (.iload_n 2, 1) := by decide +kernel
theorem dX3_finding_20 : decode cX3_finding 20 = .ok (.dup2, 1) := by decide +kernel
theorem dX3_finding_21 : decode cX3_finding 21 = .ok (.iaload, 1) := by decide +kernel
theorem dX3_finding_22 : decode cX3_finding 22 = .ok (.iconst 1, 1) := by decide +kernel
theorem dX3_finding_23 : decode cX3_finding 23 = .ok (.iadd, 1) := by decide +kernel
theorem dX3_finding_24 : decode cX3_finding 24 = .ok (.iastore, 1) := by decide +kernel
theorem dX3_finding_25 : decode cX3_finding 25 = .ok (.iload_n 1, 1) := by decide +kernel
theorem dX3_finding_26 : decode cX3_finding 26 = .ok (.ireturn, 1) := by decide +kernel
theorem dX3_isWithin_0 : decode cX3_isWithin 0 = .ok (.iload_n 0, 1) := by decide +kernel
theorem dX3_isWithin_1 : decode cX3_isWithin 1 = .ok (.iload_n 1, 1) := by decide +kernel
theorem dX3_isWithin_2 : decode cX3_isWithin 2 = .ok (.if_icmp .lt 12, 3) := by decide +kernel
theorem dX3_isWithin_5 : decode cX3_isWithin 5 = .ok (.iload_n 0, 1) := by decide +kernel
theorem dX3_isWithin_6 : decode cX3_isWithin 6 = .ok (.iload_n 2, 1) := by decide +kernel
theorem dX3_isWithin_7 : decode cX3_isWithin 7 = .ok (.if_icmp .gt 7, 3) := by decide +kernel
theorem dX3_isWithin_10 : decode cX3_isWithin 10 = .ok (.iconst 1, 1) := by decide +kernel
theorem dX3_isWithin_11 : decode cX3_isWithin 11 = .ok (.goto 4, 3) := by decide +kernel
theorem dX3_isWithin_14 : decode cX3_isWithin 14 = .ok (.iconst 0, 1) := by decide +kernel
theorem dX3_isWithin_15 : decode cX3_isWithin 15 = .ok (.ireturn, 1) := by decide +kernel
theorem dX3_isOwner_0 : decode cX3_isOwner 0 = .ok (.iload_n 0, 1) := by decide +kernel
theorem dX3_isOwner_1 : decode cX3_isOwner 1 = .ok (.iconst 0, 1) := by decide +kernel
theorem dX3_isOwner_2 : decode cX3_isOwner 2 = .ok (.iconst 3, 1) := by decide +kernel
theorem dX3_isOwner_3 : decode cX3_isOwner 3 = .ok (.invokestatic 51, 3) := by decide +kernel
theorem dX3_isOwner_6 : decode cX3_isOwner 6 = .ok (.ireturn, 1) := by decide +kernel
theorem dX3_areTwoOwners_0 : decode cX3_areTwoOwners 0 = .ok (.iload_n 0, 1) := by decide +kernel
theorem dX3_areTwoOwners_1 : decode cX3_areTwoOwners 1 = .ok (.invokestatic 47, 3) := by decide +kernel
theorem dX3_areTwoOwners_4 : decode cX3_areTwoOwners 4 = .ok (.ifCond .eq 19, 3) := by decide +kernel
theorem dX3_areTwoOwners_7 : decode cX3_areTwoOwners 7 = .ok (.iload_n 1, 1) := by decide +kernel
theorem dX3_areTwoOwners_8 : decode cX3_areTwoOwners 8 = .ok (.invokestatic 47, 3) := by decide +kernel
theorem dX3_areTwoOwners_11 : decode cX3_areTwoOwners 11 = .ok (.ifCond .eq 12, 3) := by decide +kernel
theorem dX3_areTwoOwners_14 : decode cX3_areTwoOwners 14 = .ok (.iload_n 0, 1) := by decide +kernel
theorem dX3_areTwoOwners_15 : decode cX3_areTwoOwners 15 = .ok (.iload_n 1, 1) := by decide +kernel
theorem dX3_areTwoOwners_16 : decode cX3_areTwoOwners 16 = .ok (.if_icmp .eq 7, 3) := by decide +kernel
theorem dX3_areTwoOwners_19 : decode cX3_areTwoOwners 19 = .ok (.iconst 1, 1) := by decide +kernel
theorem dX3_areTwoOwners_20 : decode cX3_areTwoOwners 20 = .ok (.goto 4, 3) := by decide +kernel
theorem dX3_areTwoOwners_23 : decode cX3_areTwoOwners 23 = .ok (.iconst 0, 1) := by decide +kernel
theorem dX3_areTwoOwners_24 : decode cX3_areTwoOwners 24 = .ok (.ireturn, 1) := by decide +kernel
theorem dX3_isOwed_0 : decode cX3_isOwed 0 = .ok (.iload_n 0, 1) := by decide +kernel
theorem dX3_isOwed_1 : decode cX3_isOwed 1 = .ok (.iconst 1, 1) := by decide +kernel
theorem dX3_isOwed_2 : decode cX3_isOwed 2 = .ok (.sipush 9999, 3) := by decide +kernel
theorem dX3_isOwed_5 : decode cX3_isOwed 5 = .ok (.invokestatic 51, 3) := by decide +kernel
theorem dX3_isOwed_8 : decode cX3_isOwed 8 = .ok (.ireturn, 1) := by decide +kernel
theorem dX3_isKind_0 : decode cX3_isKind 0 = .ok (.iload_n 0, 1) := by decide +kernel
theorem dX3_isKind_1 : decode cX3_isKind 1 = .ok (.iconst 0, 1) := by decide +kernel
theorem dX3_isKind_2 : decode cX3_isKind 2 = .ok (.iconst 5, 1) := by decide +kernel
theorem dX3_isKind_3 : decode cX3_isKind 3 = .ok (.invokestatic 51, 3) := by decide +kernel
theorem dX3_isKind_6 : decode cX3_isKind 6 = .ok (.ireturn, 1) := by decide +kernel
theorem dX3_isSheet_0 : decode cX3_isSheet 0 = .ok (.iload_n 0, 1) := by decide +kernel
theorem dX3_isSheet_1 : decode cX3_isSheet 1 = .ok (.iconst 0, 1) := by decide +kernel
theorem dX3_isSheet_2 : decode cX3_isSheet 2 = .ok (.iconst 3, 1) := by decide +kernel
theorem dX3_isSheet_3 : decode cX3_isSheet 3 = .ok (.invokestatic 51, 3) := by decide +kernel
theorem dX3_isSheet_6 : decode cX3_isSheet 6 = .ok (.ireturn, 1) := by decide +kernel
theorem dX3_isCoin_0 : decode cX3_isCoin 0 = .ok (.iload_n 1, 1) := by decide +kernel
theorem dX3_isCoin_1 : decode cX3_isCoin 1 = .ok (.iconst 0, 1) := by decide +kernel
theorem dX3_isCoin_2 : decode cX3_isCoin 2 = .ok (.aload_n 0, 1) := by decide +kernel
theorem dX3_isCoin_3 : decode cX3_isCoin 3 = .ok (.getfield 10, 3) := by decide +kernel
theorem dX3_isCoin_6 : decode cX3_isCoin 6 = .ok (.getfield 69, 3) := by decide +kernel
theorem dX3_isCoin_9 : decode cX3_isCoin 9 = .ok (.iconst 1, 1) := by decide +kernel
theorem dX3_isCoin_10 : decode cX3_isCoin 10 = .ok (.isub, 1) := by decide +kernel
theorem dX3_isCoin_11 : decode cX3_isCoin 11 = .ok (.invokestatic 51, 3) := by decide +kernel
theorem dX3_isCoin_14 : decode cX3_isCoin 14 = .ok (.ireturn, 1) := by decide +kernel
theorem dX3_isPastTheEnd_0 : decode cX3_isPastTheEnd 0 = .ok (.aload_n 0, 1) := by decide +kernel
theorem dX3_isPastTheEnd_1 : decode cX3_isPastTheEnd 1 = .ok (.getfield 10, 3) := by decide +kernel
theorem dX3_isPastTheEnd_4 : decode cX3_isPastTheEnd 4 = .ok (.getfield 177, 3) := by decide +kernel
theorem dX3_isPastTheEnd_7 : decode cX3_isPastTheEnd 7 = .ok (.sipush 9999, 3) := by decide +kernel
theorem dX3_isPastTheEnd_10 : decode cX3_isPastTheEnd 10 = .ok (.iload_n 1, 1) := by decide +kernel
theorem dX3_isPastTheEnd_11 : decode cX3_isPastTheEnd 11 = .ok (.isub, 1) := by decide +kernel
theorem dX3_isPastTheEnd_12 : decode cX3_isPastTheEnd 12 = .ok (.if_icmp .le 7, 3) := by decide +kernel
theorem dX3_isPastTheEnd_15 : decode cX3_isPastTheEnd 15 = .ok (.iconst 1, 1) := by decide +kernel
theorem dX3_isPastTheEnd_16 : decode cX3_isPastTheEnd 16 = .ok (.goto 4, 3) := by decide +kernel
theorem dX3_isPastTheEnd_19 : decode cX3_isPastTheEnd 19 = .ok (.iconst 0, 1) := by decide +kernel
theorem dX3_isPastTheEnd_20 : decode cX3_isPastTheEnd 20 = .ok (.ireturn, 1) := by decide +kernel
theorem dX3_worthWith_0 : decode cX3_worthWith 0 = .ok (.aload_n 0, 1) := by decide +kernel
theorem dX3_worthWith_1 : decode cX3_worthWith 1 = .ok (.getfield 19, 3) := by decide +kernel
theorem dX3_worthWith_4 : decode cX3_worthWith 4 = .ok (.aload_n 0, 1) := by decide +kernel
theorem dX3_worthWith_5 : decode cX3_worthWith 5 = .ok (.getfield 10, 3) := by decide +kernel
theorem dX3_worthWith_8 : decode cX3_worthWith 8 = .ok (.invokevirtual 183, 3) := by decide +kernel
theorem dX3_worthWith_11 : decode cX3_worthWith 11 = .ok (.aload_n 0, 1) := by decide +kernel
theorem dX3_worthWith_12 : decode cX3_worthWith 12 = .ok (.getfield 19, 3) := by decide +kernel
theorem dX3_worthWith_15 : decode cX3_worthWith 15 = .ok (.getfield 90, 3) := by decide +kernel
theorem dX3_worthWith_18 : decode cX3_worthWith 18 = .ok (.iload_n 1, 1) := by decide +kernel
theorem dX3_worthWith_19 : decode cX3_worthWith 19 = .ok (.iload_n 2, 1) := by decide +kernel
theorem dX3_worthWith_20 : decode cX3_worthWith 20 = .ok (.iastore, 1) := by decide +kernel
theorem dX3_worthWith_21 : decode cX3_worthWith 21 = .ok (.aload_n 0, 1) := by decide +kernel
theorem dX3_worthWith_22 : decode cX3_worthWith 22 = .ok (.getfield 19, 3) := by decide +kernel
theorem dX3_worthWith_25 : decode cX3_worthWith 25 = .ok (.iload_n 3, 1) := by decide +kernel
theorem dX3_worthWith_26 : decode cX3_worthWith 26 = .ok (.invokevirtual 187, 3) := by decide +kernel
theorem dX3_worthWith_29 : decode cX3_worthWith 29 = .ok (.aload_n 0, 1) := by decide +kernel
theorem dX3_worthWith_30 : decode cX3_worthWith 30 = .ok (.getfield 19, 3) := by decide +kernel
theorem dX3_worthWith_33 : decode cX3_worthWith 33 = .ok (.iload_n 1, 1) := by decide +kernel
theorem dX3_worthWith_34 : decode cX3_worthWith 34 = .ok (.invokevirtual 93, 3) := by decide +kernel
theorem dX3_worthWith_37 : decode cX3_worthWith 37 = .ok (.ireturn, 1) := by decide +kernel
theorem dX3_rottenWith_0 : decode cX3_rottenWith 0 = .ok (.aload_n 0, 1) := by decide +kernel
theorem dX3_rottenWith_1 : decode cX3_rottenWith 1 = .ok (.getfield 19, 3) := by decide +kernel
theorem dX3_rottenWith_4 : decode cX3_rottenWith 4 = .ok (.aload_n 0, 1) := by decide +kernel
theorem dX3_rottenWith_5 : decode cX3_rottenWith 5 = .ok (.getfield 10, 3) := by decide +kernel
theorem dX3_rottenWith_8 : decode cX3_rottenWith 8 = .ok (.invokevirtual 183, 3) := by decide +kernel
theorem dX3_rottenWith_11 : decode cX3_rottenWith 11 = .ok (.aload_n 0, 1) := by decide +kernel
theorem dX3_rottenWith_12 : decode cX3_rottenWith 12 = .ok (.getfield 19, 3) := by decide +kernel
theorem dX3_rottenWith_15 : decode cX3_rottenWith 15 = .ok (.iload_n 1, 1) := by decide +kernel
theorem dX3_rottenWith_16 : decode cX3_rottenWith 16 = .ok (.iload_n 2, 1) := by decide +kernel
theorem dX3_rottenWith_17 : decode cX3_rottenWith 17 = .ok (.invokevirtual 115, 3) := by decide +kernel
theorem dX3_rottenWith_20 : decode cX3_rottenWith 20 = .ok (.aload_n 0, 1) := by decide +kernel
theorem dX3_rottenWith_21 : decode cX3_rottenWith 21 = .ok (.getfield 19, 3) := by decide +kernel
theorem dX3_rottenWith_24 : decode cX3_rottenWith 24 = .ok (.iconst 1, 1) := by decide +kernel
theorem dX3_rottenWith_25 : decode cX3_rottenWith 25 = .ok (.invokevirtual 170, 3) := by decide +kernel
theorem dX3_rottenWith_28 : decode cX3_rottenWith 28 = .ok (.istore 5, 2) := by decide +kernel
theorem dX3_rottenWith_30 : decode cX3_rottenWith 30 = .ok (.iconst 0, 1) := by decide +kernel
theorem dX3_rottenWith_31 : decode cX3_rottenWith 31 = .ok (.istore 6, 2) := by decide +kernel
theorem dX3_rottenWith_33 : decode cX3_rottenWith 33 = .ok (.iload 6, 2) := by decide +kernel
theorem dX3_rottenWith_35 : decode cX3_rottenWith 35 = .ok (.iload_n 3, 1) := by decide +kernel
theorem dX3_rottenWith_36 : decode cX3_rottenWith 36 = .ok (.if_icmp .ge 34, 3) := by decide +kernel
theorem dX3_rottenWith_39 : decode cX3_rottenWith 39 = .ok (.iload 5, 2) := by decide +kernel
theorem dX3_rottenWith_41 : decode cX3_rottenWith 41 = .ok (.iload 4, 2) := by decide +kernel
theorem dX3_rottenWith_43 : decode cX3_rottenWith 43 = .ok (.if_icmp .ge 27, 3) := by decide +kernel
theorem dX3_rottenWith_46 : decode cX3_rottenWith 46 = .ok (.aload_n 0, 1) := by decide +kernel
theorem dX3_rottenWith_47 : decode cX3_rottenWith 47 = .ok (.getfield 19, 3) := by decide +kernel
theorem dX3_rottenWith_50 : decode cX3_rottenWith 50 = .ok (.iconst 1, 1) := by decide +kernel
theorem dX3_rottenWith_51 : decode cX3_rottenWith 51 = .ok (.invokevirtual 187, 3) := by decide +kernel
theorem dX3_rottenWith_54 : decode cX3_rottenWith 54 = .ok (.aload_n 0, 1) := by decide +kernel
theorem dX3_rottenWith_55 : decode cX3_rottenWith 55 = .ok (.getfield 19, 3) := by decide +kernel
theorem dX3_rottenWith_58 : decode cX3_rottenWith 58 = .ok (.iconst 1, 1) := by decide +kernel
theorem dX3_rottenWith_59 : decode cX3_rottenWith 59 = .ok (.invokevirtual 170, 3) := by decide +kernel
theorem dX3_rottenWith_62 : decode cX3_rottenWith 62 = .ok (.istore 5, 2) := by decide +kernel
theorem dX3_rottenWith_64 : decode cX3_rottenWith 64 = .ok (.iinc 6 1, 3) := by decide +kernel
theorem dX3_rottenWith_67 : decode cX3_rottenWith 67 = .ok (.goto (-34), 3) := by decide +kernel
theorem dX3_rottenWith_70 : decode cX3_rottenWith 70 = .ok (.iload 5, 2) := by decide +kernel
theorem dX3_rottenWith_72 : decode cX3_rottenWith 72 = .ok (.ireturn, 1) := by decide +kernel
theorem dX3_purseWith_0 : decode cX3_purseWith 0 = .ok (.aload_n 0, 1) := by decide +kernel
theorem dX3_purseWith_1 : decode cX3_purseWith 1 = .ok (.getfield 19, 3) := by decide +kernel
theorem dX3_purseWith_4 : decode cX3_purseWith 4 = .ok (.aload_n 0, 1) := by decide +kernel
theorem dX3_purseWith_5 : decode cX3_purseWith 5 = .ok (.getfield 10, 3) := by decide +kernel
theorem dX3_purseWith_8 : decode cX3_purseWith 8 = .ok (.invokevirtual 183, 3) := by decide +kernel
theorem dX3_purseWith_11 : decode cX3_purseWith 11 = .ok (.aload_n 0, 1) := by decide +kernel
theorem dX3_purseWith_12 : decode cX3_purseWith 12 = .ok (.getfield 19, 3) := by decide +kernel
theorem dX3_purseWith_15 : decode cX3_purseWith 15 = .ok (.iload_n 1, 1) := by decide +kernel
theorem dX3_purseWith_16 : decode cX3_purseWith 16 = .ok (.invokevirtual 272, 3) := by decide +kernel
theorem dX3_purseWith_19 : decode cX3_purseWith 19 = .ok (.aload_n 0, 1) := by decide +kernel
theorem dX3_purseWith_20 : decode cX3_purseWith 20 = .ok (.getfield 19, 3) := by decide +kernel
theorem dX3_purseWith_23 : decode cX3_purseWith 23 = .ok (.iload_n 3, 1) := by decide +kernel
theorem dX3_purseWith_24 : decode cX3_purseWith 24 = .ok (.invokevirtual 173, 3) := by decide +kernel
theorem dX3_purseWith_27 : decode cX3_purseWith 27 = .ok (.aload_n 0, 1) := by decide +kernel
theorem dX3_purseWith_28 : decode cX3_purseWith 28 = .ok (.getfield 19, 3) := by decide +kernel
theorem dX3_purseWith_31 : decode cX3_purseWith 31 = .ok (.iload_n 2, 1) := by decide +kernel
theorem dX3_purseWith_32 : decode cX3_purseWith 32 = .ok (.invokevirtual 124, 3) := by decide +kernel
theorem dX3_purseWith_35 : decode cX3_purseWith 35 = .ok (.ireturn, 1) := by decide +kernel
