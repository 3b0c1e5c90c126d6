theorem dX0_init_0 : decode cX0_init 0 = .ok (.aload_n 0, 1) := by decide +kernel
theorem dX0_init_1 : decode cX0_init 1 = .ok (.invokespecial 3, 3) := by decide +kernel
theorem dX0_init_4 : decode cX0_init 4 = .ok (.aload_n 0, 1) := by decide +kernel
theorem dX0_init_5 : decode cX0_init 5 = .ok (.bipush 12, 2) := by decide +kernel
theorem dX0_init_7 : decode cX0_init 7 = .ok (.newarray .int, 2) := by decide +kernel
theorem dX0_init_9 : decode cX0_init 9 = .ok (.putfield 9, 3) := by decide +kernel
theorem dX0_init_12 : decode cX0_init 12 = .ok (.aload_n 0, 1) := by decide +kernel
theorem dX0_init_13 : decode cX0_init 13 = .ok (.bipush 12, 2) := by decide +kernel
theorem dX0_init_15 : decode cX0_init 15 = .ok (.newarray .int, 2) := by decide +kernel
theorem dX0_init_17 : decode cX0_init 17 = .ok (.putfield 15, 3) := by decide +kernel
theorem dX0_init_20 : decode cX0_init 20 = .ok (.aload_n 0, 1) := by decide +kernel
theorem dX0_init_21 : decode cX0_init 21 = .ok (.bipush 12, 2) := by decide +kernel
theorem dX0_init_23 : decode cX0_init 23 = .ok (.newarray .int, 2) := by decide +kernel
theorem dX0_init_25 : decode cX0_init 25 = .ok (.putfield 18, 3) := by decide +kernel
theorem dX0_init_28 : decode cX0_init 28 = .ok (.aload_n 0, 1) := by decide +kernel
theorem dX0_init_29 : decode cX0_init 29 = .ok (.bipush 12, 2) := by decide +kernel
theorem dX0_init_31 : decode cX0_init 31 = .ok (.newarray .int, 2) := by decide +kernel
theorem dX0_init_33 : decode cX0_init 33 = .ok (.putfield 21, 3) := by decide +kernel
theorem dX0_init_36 : decode cX0_init 36 = .ok (.aload_n 0, 1) := by decide +kernel
theorem dX0_init_37 : decode cX0_init 37 = .ok (.iconst 4, 1) := by decide +kernel
theorem dX0_init_38 : decode cX0_init 38 = .ok (.newarray .int, 2) := by decide +kernel
theorem dX0_init_40 : decode cX0_init 40 = .ok (.putfield 24, 3) := by decide +kernel
theorem dX0_init_43 : decode cX0_init 43 = .ok (.aload_n 0, 1) := by decide +kernel
theorem dX0_init_44 : decode cX0_init 44 = .ok (.bipush 12, 2) := by decide +kernel
theorem dX0_init_46 : decode cX0_init 46 = .ok (.newarray .int, 2) := by decide +kernel
theorem dX0_init_48 : decode cX0_init 48 = .ok (.putfield 27, 3) := by decide +kernel
theorem dX0_init_51 : decode cX0_init 51 = .ok (.aload_n 0, 1) := by decide +kernel
theorem dX0_init_52 : decode cX0_init 52 = .ok (.bipush 8, 2) := by decide +kernel
theorem dX0_init_54 : decode cX0_init 54 = .ok (.newarray .int, 2) := by decide +kernel
theorem dX0_init_56 : decode cX0_init 56 = .ok (.putfield 30, 3) := by decide +kernel
theorem dX0_init_59 : decode cX0_init 59 = .ok (.aload_n 0, 1) := by decide +kernel
theorem dX0_init_60 : decode cX0_init 60 = .ok (.bipush 8, 2) := by decide +kernel
theorem dX0_init_62 : decode cX0_init 62 = .ok (.newarray .int, 2) := by decide +kernel
theorem dX0_init_64 : decode cX0_init 64 = .ok (.putfield 33, 3) := by decide +kernel
theorem dX0_init_67 : decode cX0_init 67 = .ok (.aload_n 0, 1) := by decide +kernel
theorem dX0_init_68 : decode cX0_init 68 = .ok (.bipush 8, 2) := by decide +kernel
theorem dX0_init_70 : decode cX0_init 70 = .ok (.newarray .int, 2) := by decide +kernel
theorem dX0_init_72 : decode cX0_init 72 = .ok (.putfield 36, 3) := by decide +kernel
theorem dX0_init_75 : decode cX0_init 75 = .ok (.aload_n 0, 1) := by decide +kernel
theorem dX0_init_76 : decode cX0_init 76 = .ok (.bipush 8, 2) := by decide +kernel
theorem dX0_init_78 : decode cX0_init 78 = .ok (.newarray .int, 2) := by decide +kernel
theorem dX0_init_80 : decode cX0_init 80 = .ok (.putfield 39, 3) := by decide +kernel
theorem dX0_init_83 : decode cX0_init 83 = .ok (.aload_n 0, 1) := by decide +kernel
theorem dX0_init_84 : decode cX0_init 84 = .ok (.bipush 8, 2) := by decide +kernel
theorem dX0_init_86 : decode cX0_init 86 = .ok (.newarray .int, 2) := by decide +kernel
theorem dX0_init_88 : decode cX0_init 88 = .ok (.putfield 42, 3) := by decide +kernel
theorem dX0_init_91 : decode cX0_init 91 = .ok (.aload_n 0, 1) := by decide +kernel
theorem dX0_init_92 : decode cX0_init 92 = .ok (.bipush 12, 2) := by decide +kernel
theorem dX0_init_94 : decode cX0_init 94 = .ok (.newarray .int, 2) := by decide +kernel
theorem dX0_init_96 : decode cX0_init 96 = .ok (.putfield 45, 3) := by decide +kernel
theorem dX0_init_99 : decode cX0_init 99 = .ok (.aload_n 0, 1) := by decide +kernel
theorem dX0_init_100 : decode cX0_init 100 = .ok (.bipush 12, 2) := by decide +kernel
theorem dX0_init_102 : decode cX0_init 102 = .ok (.newarray .int, 2) := by decide +kernel
theorem dX0_init_104 : decode cX0_init 104 = .ok (.putfield 48, 3) := by decide +kernel
theorem dX0_init_107 : decode cX0_init 107 = .ok (.iconst 0, 1) := by decide +kernel
theorem dX0_init_108 : decode cX0_init 108 = .ok (.istore_n 1, 1) := by decide +kernel
theorem dX0_init_109 : decode cX0_init 109 = .ok (.iload_n 1, 1) := by decide +kernel
theorem dX0_init_110 : decode cX0_init 110 = .ok (.iconst 4, 1) := by decide +kernel
theorem dX0_init_111 : decode cX0_init 111 = .ok (.if_icmp .ge 16, 3) := by decide +kernel
theorem dX0_init_114 : decode cX0_init 114 = .ok (.aload_n 0, 1) := by decide +kernel
theorem dX0_init_115 : decode cX0_init 115 = .ok (.getfield 24, 3) := by decide +kernel
theorem dX0_init_118 : decode cX0_init 118 = .ok (.iload_n 1, 1) := by decide +kernel
theorem dX0_init_119 : decode cX0_init 119 = .ok (.iconst 5, 1) := by decide +kernel
theorem dX0_init_120 : decode cX0_init 120 = .ok (.iastore, 1) := by decide +kernel
theorem dX0_init_121 : decode cX0_init 121 = .ok (.iinc 1 1, 3) := by decide +kernel
theorem dX0_init_124 : decode cX0_init 124 = .ok (.goto (-15), 3) := by decide +kernel
theorem dX0_init_127 : decode cX0_init 127 = .ok (.iconst 0, 1) := by decide +kernel
theorem dX0_init_128 : decode cX0_init 128 = .ok (.istore_n 1, 1) := by decide +kernel
theorem dX0_init_129 : decode cX0_init 129 = .ok (.iload_n 1, 1) := by decide +kernel
theorem dX0_init_130 : decode cX0_init 130 = .ok (.bipush 12, 2) := by decide +kernel
theorem dX0_init_132 : decode cX0_init 132 = .ok (.if_icmp .ge 17, 3) := by decide +kernel
theorem dX0_init_135 : decode cX0_init 135 = .ok (.aload_n 0, 1) := by decide +kernel
theorem dX0_init_136 : decode cX0_init 136 = .ok (.getfield 27, 3) := by decide +kernel
theorem dX0_init_139 : decode cX0_init 139 = .ok (.iload_n 1, 1) := by decide +kernel
theorem dX0_init_140 : decode cX0_init 140 = .ok (.bipush 10, 2) := by decide +kernel
theorem dX0_init_142 : decode cX0_init 142 = .ok (.iastore, 1) := by decide +kernel
theorem dX0_init_143 : decode cX0_init 143 = .ok (.iinc 1 1, 3) := by decide +kernel
theorem dX0_init_146 : decode cX0_init 146 = .ok (.goto (-17), 3) := by decide +kernel
theorem dX0_init_149 : decode cX0_init 149 = .ok (.return_, 1) := by decide +kernel
theorem dX0_become_0 : decode cX0_become 0 = .ok (.aload_n 0, 1) := by decide +kernel
theorem dX0_become_1 : decode cX0_become 1 = .ok (.aload_n 1, 1) := by decide +kernel
theorem dX0_become_2 : decode cX0_become 2 = .ok (.getfield 51, 3) := by decide +kernel
theorem dX0_become_5 : decode cX0_become 5 = .ok (.putfield 51, 3) := by decide +kernel
theorem dX0_become_8 : decode cX0_become 8 = .ok (.aload_n 0, 1) := by decide +kernel
theorem dX0_become_9 : decode cX0_become 9 = .ok (.aload_n 1, 1) := by decide +kernel
theorem dX0_become_10 : decode cX0_become 10 = .ok (.getfield 55, 3) := by decide +kernel
theorem dX0_become_13 : decode cX0_become 13 = .ok (.putfield 55, 3) := by decide +kernel
theorem dX0_become_16 : decode cX0_become 16 = .ok (.aload_n 0, 1) := by decide +kernel
theorem dX0_become_17 : decode cX0_become 17 = .ok (.aload_n 1, 1) := by decide +kernel
theorem dX0_become_18 : decode cX0_become 18 = .ok (.getfield 58, 3) := by decide +kernel
theorem dX0_become_21 : decode cX0_become 21 = .ok (.putfield 58, 3) := by decide +kernel
theorem dX0_become_24 : decode cX0_become 24 = .ok (.aload_n 0, 1) := by decide +kernel
theorem dX0_become_25 : decode cX0_become 25 = .ok (.aload_n 1, 1) := by decide +kernel
theorem dX0_become_26 : decode cX0_become 26 = .ok (.getfield 61, 3) := by decide +kernel
theorem dX0_become_29 : decode cX0_become 29 = .ok (.putfield 61, 3) := by decide +kernel
theorem dX0_become_32 : decode cX0_become 32 = .ok (.aload_n 1, 1) := by decide +kernel
theorem dX0_become_33 : decode cX0_become 33 = .ok (.getfield 9, 3) := by decide +kernel
theorem dX0_become_36 : decode cX0_become 36 = .ok (.iconst 0, 1) := by decide +kernel
theorem dX0_become_37 : decode cX0_become 37 = .ok (.aload_n 0, 1) := by decide +kernel
theorem dX0_become_38 : decode cX0_become 38 = .ok (.getfield 9, 3) := by decide +kernel
theorem dX0_become_41 : decode cX0_become 41 = .ok (.iconst 0, 1) := by decide +kernel
theorem dX0_become_42 : decode cX0_become 42 = .ok (.bipush 12, 2) := by decide +kernel
theorem dX0_become_44 : decode cX0_become 44 = .ok (.invokestatic 64, 3) := by decide +kernel
theorem dX0_become_47 : decode cX0_become 47 = .ok (.aload_n 1, 1) := by decide +kernel
theorem dX0_become_48 : decode cX0_become 48 = .ok (.getfield 15, 3) := by decide +kernel
theorem dX0_become_51 : decode cX0_become 51 = .ok (.iconst 0, 1) := by decide +kernel
theorem dX0_become_52 : decode cX0_become 52 = .ok (.aload_n 0, 1) := by decide +kernel
theorem dX0_become_53 : decode cX0_become 53 = .ok (.getfield 15, 3) := by decide +kernel
theorem dX0_become_56 : decode cX0_become 56 = .ok (.iconst 0, 1) := by decide +kernel
theorem dX0_become_57 : decode cX0_become 57 = .ok (.bipush 12, 2) := by decide +kernel
theorem dX0_become_59 : decode cX0_become 59 = .ok (.invokestatic 64, 3) := by decide +kernel
theorem dX0_become_62 : decode cX0_become 62 = .ok (.aload_n 1, 1) := by decide +kernel
theorem dX0_become_63 : decode cX0_become 63 = .ok (.getfield 18, 3) := by decide +kernel
theorem dX0_become_66 : decode cX0_become 66 = .ok (.iconst 0, 1) := by decide +kernel
theorem dX0_become_67 : decode cX0_become 67 = .ok (.aload_n 0, 1) := by decide +kernel
theorem dX0_become_68 : decode cX0_become 68 = .ok (.getfield 18, 3) := by decide +kernel
theorem dX0_become_71 : decode cX0_become 71 = .ok (.iconst 0, 1) := by decide +kernel
theorem dX0_become_72 : decode cX0_become 72 = .ok (.bipush 12, 2) := by decide +kernel
theorem dX0_become_74 : decode cX0_become 74 = .ok (.invokestatic 64, 3) := by decide +kernel
theorem dX0_become_77 : decode cX0_become 77 = .ok (.aload_n 1, 1) := by decide +kernel
theorem dX0_become_78 : decode cX0_become 78 = .ok (.getfield 21, 3) := by decide +kernel
theorem dX0_become_81 : decode cX0_become 81 = .ok (.iconst 0, 1) := by decide +kernel
theorem dX0_become_82 : decode cX0_become 82 = .ok (.aload_n 0, 1) := by decide +kernel
theorem dX0_become_83 : decode cX0_become 83 = .ok (.getfield 21, 3) := by decide +kernel
theorem dX0_become_86 : decode cX0_become 86 = .ok (.iconst 0, 1) := by decide +kernel
theorem dX0_become_87 : decode cX0_become 87 = .ok (.bipush 12, 2) := by decide +kernel
theorem dX0_become_89 : decode cX0_become 89 = .ok (.invokestatic 64, 3) := by decide +kernel
theorem dX0_become_92 : decode cX0_become 92 = .ok (.aload_n 1, 1) := by decide +kernel
theorem dX0_become_93 : decode cX0_become 93 = .ok (.getfield 24, 3) := by decide +kernel
theorem dX0_become_96 : decode cX0_become 96 = .ok (.iconst 0, 1) := by decide +kernel
theorem dX0_become_97 : decode cX0_become 97 = .ok (.aload_n 0, 1) := by decide +kernel
theorem dX0_become_98 : decode cX0_become 98 = .ok (.getfield 24, 3) := by decide +kernel
theorem dX0_become_101 : decode cX0_become 101 = .ok (.iconst 0, 1) := by decide +kernel
theorem dX0_become_102 : decode cX0_become 102 = .ok (.iconst 4, 1) := by decide +kernel
theorem dX0_become_103 : decode cX0_become 103 = .ok (.invokestatic 64, 3) := by decide +kernel
theorem dX0_become_106 : decode cX0_become 106 = .ok (.aload_n 1, 1) := by decide +kernel
theorem dX0_become_107 : decode cX0_become 107 = .ok (.getfield 27, 3) := by decide +kernel
theorem dX0_become_110 : decode cX0_become 110 = .ok (.iconst 0, 1) := by decide +kernel
theorem dX0_become_111 : decode cX0_become 111 = .ok (.aload_n 0, 1) := by decide +kernel
theorem dX0_become_112 : decode cX0_become 112 = .ok (.getfield 27, 3) := by decide +kernel
theorem dX0_become_115 : decode cX0_become 115 = .ok (.iconst 0, 1) := by decide +kernel
theorem dX0_become_116 : decode cX0_become 116 = .ok (.bipush 12, 2) := by decide +kernel
theorem dX0_become_118 : decode cX0_become 118 = .ok (.invokestatic 64, 3) := by decide +kernel
theorem dX0_become_121 : decode cX0_become 121 = .ok (.aload_n 1, 1) := by decide +kernel
theorem dX0_become_122 : decode cX0_become 122 = .ok (.getfield 30, 3) := by decide +kernel
theorem dX0_become_125 : decode cX0_become 125 = .ok (.iconst 0, 1) := by decide +kernel
theorem dX0_become_126 : decode cX0_become 126 = .ok (.aload_n 0, 1) := by decide +kernel
theorem dX0_become_127 : decode cX0_become 127 = .ok (.getfield 30, 3) := by decide +kernel
theorem dX0_become_130 : decode cX0_become 130 = .ok (.iconst 0, 1) := by decide +kernel
theorem dX0_become_131 : decode cX0_become 131 = .ok (.bipush 8, 2) := by decide +kernel
theorem dX0_become_133 : decode cX0_become 133 = .ok (.invokestatic 64, 3) := by decide +kernel
theorem dX0_become_136 : decode cX0_become 136 = .ok (.aload_n 1, 1) := by decide +kernel
theorem dX0_become_137 : decode cX0_become 137 = .ok (.getfield 33, 3) := by decide +kernel
theorem dX0_become_140 : decode cX0_become 140 = .ok (.iconst 0, 1) := by decide +kernel
theorem dX0_become_141 : decode cX0_become 141 = .ok (.aload_n 0, 1) := by decide +kernel
theorem dX0_become_142 : decode cX0_become 142 = .ok (.getfield 33, 3) := by decide +kernel
theorem dX0_become_145 : decode cX0_become 145 = .ok (.iconst 0, 1) := by decide +kernel
theorem dX0_become_146 : decode cX0_become 146 = .ok (.bipush 8, 2) := by decide +kernel
theorem dX0_become_148 : decode cX0_become 148 = .ok (.invokestatic 64, 3) := by decide +kernel
theorem dX0_become_151 : decode cX0_become 151 = .ok (.aload_n 1, 1) := by decide +kernel
theorem dX0_become_152 : decode cX0_become 152 = .ok (.getfield 36, 3) := by decide +kernel
theorem dX0_become_155 : decode cX0_become 155 = .ok (.iconst 0, 1) := by decide +kernel
theorem dX0_become_156 : decode cX0_become 156 = .ok (.aload_n 0, 1) := by decide +kernel
theorem dX0_become_157 : decode cX0_become 157 = .ok (.getfield 36, 3) := by decide +kernel
theorem dX0_become_160 : decode cX0_become 160 = .ok (.iconst 0, 1) := by decide +kernel
theorem dX0_become_161 : decode cX0_become 161 = .ok (.bipush 8, 2) := by decide +kernel
theorem dX0_become_163 : decode cX0_become 163 = .ok (.invokestatic 64, 3) := by decide +kernel
theorem dX0_become_166 : decode cX0_become 166 = .ok (.aload_n 1, 1) := by decide +kernel
theorem dX0_become_167 : decode cX0_become 167 = .ok (.getfield 39, 3) := by decide +kernel
theorem dX0_become_170 : decode cX0_become 170 = .ok (.iconst 0, 1) := by decide +kernel
theorem dX0_become_171 : decode cX0_become 171 = .ok (.aload_n 0, 1) := by decide +kernel
theorem dX0_become_172 : decode cX0_become 172 = .ok (.getfield 39, 3) := by decide +kernel
theorem dX0_become_175 : decode cX0_become 175 = .ok (.iconst 0, 1) := by decide +kernel
theorem dX0_become_176 : decode cX0_become 176 = .ok (.bipush 8, 2) := by decide +kernel
theorem dX0_become_178 : decode cX0_become 178 = .ok (.invokestatic 64, 3) := by decide +kernel
theorem dX0_become_181 : decode cX0_become 181 = .ok (.aload_n 1, 1) := by decide +kernel
theorem dX0_become_182 : decode cX0_become 182 = .ok (.getfield 42, 3) := by decide +kernel
theorem dX0_become_185 : decode cX0_become 185 = .ok (.iconst 0, 1) := by decide +kernel
theorem dX0_become_186 : decode cX0_become 186 = .ok (.aload_n 0, 1) := by decide +kernel
theorem dX0_become_187 : decode cX0_become 187 = .ok (.getfield 42, 3) := by decide +kernel
theorem dX0_become_190 : decode cX0_become 190 = .ok (.iconst 0, 1) := by decide +kernel
theorem dX0_become_191 : decode cX0_become 191 = .ok (.bipush 8, 2) := by decide +kernel
theorem dX0_become_193 : decode cX0_become 193 = .ok (.invokestatic 64, 3) := by decide +kernel
theorem dX0_become_196 : decode cX0_become 196 = .ok (.return_, 1) := by decide +kernel
theorem dX0_isUnder_0 : decode cX0_isUnder 0 = .ok (.iload_n 0, 1) := by decide +kernel
theorem dX0_isUnder_1 : decode cX0_isUnder 1 = .ok (.iload_n 1, 1) := by decide +kernel
theorem dX0_isUnder_2 : decode cX0_isUnder 2 = .ok (.if_icmp .eq 27, 3) := by decide +kernel
theorem dX0_isUnder_5 : decode cX0_isUnder 5 = .ok (.iload_n 1, 1) := by decide +kernel
theorem dX0_isUnder_6 : decode cX0_isUnder 6 = .ok (.ifCond .eq 23, 3) := by decide +kernel
theorem dX0_isUnder_9 : decode cX0_isUnder 9 = .ok (.iload_n 0, 1) := by decide +kernel
theorem dX0_isUnder_10 : decode cX0_isUnder 10 = .ok (.iconst 4, 1) := by decide +kernel
theorem dX0_isUnder_11 : decode cX0_isUnder 11 = .ok (.if_icmp .ne 8, 3) := by decide +kernel
theorem dX0_isUnder_14 : decode cX0_isUnder 14 = .ok (.iload_n 1, 1) := by decide +kernel
theorem dX0_isUnder_15 : decode cX0_isUnder 15 = .ok (.iconst 2, 1) := by decide +kernel
theorem dX0_isUnder_16 : decode cX0_isUnder 16 = .ok (.if_icmp .eq 13, 3) := by decide +kernel
theorem dX0_isUnder_19 : decode cX0_isUnder 19 = .ok (.iload_n 0, 1) := by decide +kernel
theorem dX0_isUnder_20 : decode cX0_isUnder 20 = .ok (.iconst 5, 1) := by decide +kernel
theorem dX0_isUnder_21 : decode cX0_isUnder 21 = .ok (.if_icmp .ne 12, 3) := by decide +kernel
theorem dX0_isUnder_24 : decode cX0_isUnder 24 = .ok (.iload_n 1, 1) := by decide +kernel
theorem dX0_isUnder_25 : decode cX0_isUnder 25 = .ok (.iconst 1, 1) := by decide +kernel
theorem dX0_isUnder_26 : decode cX0_isUnder 26 = .ok (.if_icmp .ne 7, 3) := by decide +kernel
theorem dX0_isUnder_29 : decode cX0_isUnder 29 = .ok (.iconst 1, 1) := by decide +kernel
theorem dX0_isUnder_30 : decode cX0_isUnder 30 = .ok (.goto 4, 3) := by decide +kernel
theorem dX0_isUnder_33 : decode cX0_isUnder 33 = .ok (.iconst 0, 1) := by decide +kernel
theorem dX0_isUnder_34 : decode cX0_isUnder 34 = .ok (.ireturn, 1) := by decide +kernel
theorem dX0_shrinks_0 : decode cX0_shrinks 0 = .ok (.iload_n 1, 1) := by decide +kernel
theorem dX0_shrinks_1 : decode cX0_shrinks 1 = .ok (.iconst 2, 1) := by decide +kernel
theorem dX0_shrinks_2 : decode cX0_shrinks 2 = .ok (.if_icmp .lt 12, 3) := by decide +kernel
theorem dX0_shrinks_5 : decode cX0_shrinks 5 = .ok (.iload_n 1, 1) := by decide +kernel
theorem dX0_shrinks_6 : decode cX0_shrinks 6 = .ok (.iconst 4, 1) := by decide +kernel
theorem dX0_shrinks_7 : decode cX0_shrinks 7 = .ok (.if_icmp .gt 7, 3) := by decide +kernel
theorem dX0_shrinks_10 : decode cX0_shrinks 10 = .ok (.iconst 3, 1) := by decide +kernel
theorem dX0_shrinks_11 : decode cX0_shrinks 11 = .ok (.goto 4, 3) := by decide +kernel
theorem dX0_shrinks_14 : decode cX0_shrinks 14 = .ok (.iconst 1, 1) := by decide +kernel
theorem dX0_shrinks_15 : decode cX0_shrinks 15 = .ok (.istore_n 2, 1) := by decide +kernel
theorem dX0_shrinks_16 : decode cX0_shrinks 16 = .ok (.iload_n 0, 1) := by decide +kernel
theorem dX0_shrinks_17 : decode cX0_shrinks 17 = .ok (.tableswitch 63 1 5 #[35, 39, 63, 43, 49], 35) := by decide +kernel
theorem dX0_shrinks_52 : decode cX0_shrinks 52 = .ok (.iload_n 2, 1) := by decide +kernel
theorem dX0_shrinks_53 : decode cX0_shrinks 53 = .ok (.iconst 3, 1) := by decide +kernel
theorem dX0_shrinks_54 : decode cX0_shrinks 54 = .ok (.idiv, 1) := by decide +kernel
theorem dX0_shrinks_55 : decode cX0_shrinks 55 = .ok (.ireturn, 1) := by decide +kernel
theorem dX0_shrinks_56 : decode cX0_shrinks 56 = .ok (.iconst 2, 1) := by decide +kernel
theorem dX0_shrinks_57 : decode cX0_shrinks 57 = .ok (.iload_n 2, 1) := by decide +kernel
theorem dX0_shrinks_58 : decode cX0_shrinks 58 = .ok (.imul, 1) := by decide +kernel
theorem dX0_shrinks_59 : decode cX0_shrinks 59 = .ok (.ireturn, 1) := by decide +kernel
theorem dX0_shrinks_60 : decode cX0_shrinks 60 = .ok (.iconst 2, 1) := by decide +kernel
theorem dX0_shrinks_61 : decode cX0_shrinks 61 = .ok (.iload_n 2, 1) := by decide +kernel
theorem dX0_shrinks_62 : decode cX0_shrinks 62 = .ok (.imul, 1) := by decide +kernel
theorem dX0_shrinks_63 : decode cX0_shrinks 63 = .ok (.iconst 1, 1) := by decide +kernel
theorem dX0_shrinks_64 : decode cX0_shrinks 64 = .ok (.iadd, 1) := by decide +kernel
theorem dX0_shrinks_65 : decode cX0_shrinks 65 = .ok (.ireturn, 1) := by decide +kernel
theorem dX0_shrinks_66 : decode cX0_shrinks 66 = .ok (.iload_n 1, 1) := by decide +kernel
theorem dX0_shrinks_67 : decode cX0_shrinks 67 = .ok (.bipush 9, 2) := by decide +kernel
theorem dX0_shrinks_69 : decode cX0_shrinks 69 = .ok (.if_icmp .lt 7, 3) := by decide +kernel
theorem dX0_shrinks_72 : decode cX0_shrinks 72 = .ok (.iconst 0, 1) := by decide +kernel
theorem dX0_shrinks_73 : decode cX0_shrinks 73 = .ok (.goto 6, 3) := by decide +kernel
theorem dX0_shrinks_76 : decode cX0_shrinks 76 = .ok (.iload_n 2, 1) := by decide +kernel
theorem dX0_shrinks_77 : decode cX0_shrinks 77 = .ok (.iconst 3, 1) := by decide +kernel
theorem dX0_shrinks_78 : decode cX0_shrinks 78 = .ok (.idiv, 1) := by decide +kernel
theorem dX0_shrinks_79 : decode cX0_shrinks 79 = .ok (.ireturn, 1) := by decide +kernel
theorem dX0_shrinks_80 : decode cX0_shrinks 80 = .ok (.iload_n 2, 1) := by decide +kernel
theorem dX0_shrinks_81 : decode cX0_shrinks 81 = .ok (.ireturn, 1) := by decide +kernel
theorem dX0_yields_0 : decode cX0_yields 0 = .ok (.iload_n 1, 1) := by decide +kernel
theorem dX0_yields_1 : decode cX0_yields 1 = .ok (.iconst 5, 1) := by decide +kernel
theorem dX0_yields_2 : decode cX0_yields 2 = .ok (.iadd, 1) := by decide +kernel
theorem dX0_yields_3 : decode cX0_yields 3 = .ok (.istore_n 2, 1) := by decide +kernel
theorem dX0_yields_4 : decode cX0_yields 4 = .ok (.iload_n 0, 1) := by decide +kernel
theorem dX0_yields_5 : decode cX0_yields 5 = .ok (.tableswitch 49 1 5 #[39, 49, 35, 47, 39], 35) := by decide +kernel
theorem dX0_yields_40 : decode cX0_yields 40 = .ok (.iload_n 2, 1) := by decide +kernel
theorem dX0_yields_41 : decode cX0_yields 41 = .ok (.iconst 3, 1) := by decide +kernel
theorem dX0_yields_42 : decode cX0_yields 42 = .ok (.iadd, 1) := by decide +kernel
theorem dX0_yields_43 : decode cX0_yields 43 = .ok (.ireturn, 1) := by decide +kernel
theorem dX0_yields_44 : decode cX0_yields 44 = .ok (.iconst 0, 1) := by decide +kernel
theorem dX0_yields_45 : decode cX0_yields 45 = .ok (.iload_n 2, 1) := by decide +kernel
theorem dX0_yields_46 : decode cX0_yields 46 = .ok (.iconst 4, 1) := by decide +kernel
theorem dX0_yields_47 : decode cX0_yields 47 = .ok (.isub, 1) := by decide +kernel
theorem dX0_yields_48 : decode cX0_yields 48 = .ok (.invokestatic 70, 3) := by decide +kernel
theorem dX0_yields_51 : decode cX0_yields 51 = .ok (.ireturn, 1) := by decide +kernel
theorem dX0_yields_52 : decode cX0_yields 52 = .ok (.iconst 0, 1) := by decide +kernel
theorem dX0_yields_53 : decode cX0_yields 53 = .ok (.ireturn, 1) := by decide +kernel
theorem dX0_yields_54 : decode cX0_yields 54 = .ok (.iload_n 2, 1) := by decide +kernel
theorem dX0_yields_55 : decode cX0_yields 55 = .ok (.ireturn, 1) := by decide +kernel
theorem dX0_turns_0 : decode cX0_turns 0 = .ok (.iload_n 0, 1) := by decide +kernel
theorem dX0_turns_1 : decode cX0_turns 1 = .ok (.iconst 1, 1) := by decide +kernel
theorem dX0_turns_2 : decode cX0_turns 2 = .ok (.invokestatic 76, 3) := by decide +kernel
theorem dX0_turns_5 : decode cX0_turns 5 = .ok (.ifCond .ne 7, 3) := by decide +kernel
theorem dX0_turns_8 : decode cX0_turns 8 = .ok (.iconst 1, 1) := by decide +kernel
theorem dX0_turns_9 : decode cX0_turns 9 = .ok (.goto 4, 3) := by decide +kernel
theorem dX0_turns_12 : decode cX0_turns 12 = .ok (.iconst 0, 1) := by decide +kernel
theorem dX0_turns_13 : decode cX0_turns 13 = .ok (.ireturn, 1) := by decide +kernel
theorem dX0_addCoin_0 : decode cX0_addCoin 0 = .ok (.aload_n 0, 1) := by decide +kernel
theorem dX0_addCoin_1 : decode cX0_addCoin 1 = .ok (.getfield 51, 3) := by decide +kernel
theorem dX0_addCoin_4 : decode cX0_addCoin 4 = .ok (.istore 5, 2) := by decide +kernel
theorem dX0_addCoin_6 : decode cX0_addCoin 6 = .ok (.iload 5, 2) := by decide +kernel
theorem dX0_addCoin_8 : decode cX0_addCoin 8 = .ok (.bipush 12, 2) := by decide +kernel
theorem dX0_addCoin_10 : decode cX0_addCoin 10 = .ok (.if_icmp .lt 5, 3) := by decide +kernel
theorem dX0_addCoin_13 : decode cX0_addCoin 13 = .ok (.iconst (-1), 1) := by decide +kernel
theorem dX0_addCoin_14 : decode cX0_addCoin 14 = .ok (.ireturn, 1) := by decide +kernel
theorem dX0_addCoin_15 : decode cX0_addCoin 15 = .ok (.aload_n 0, 1) := by decide +kernel
theorem dX0_addCoin_16 : decode cX0_addCoin 16 = .ok (.getfield 9, 3) := by decide +kernel
theorem dX0_addCoin_19 : decode cX0_addCoin 19 = .ok (.iload 5, 2) := by decide +kernel
theorem dX0_addCoin_21 : decode cX0_addCoin 21 = .ok (.iload_n 1, 1) := by decide +kernel
theorem dX0_addCoin_22 : decode cX0_addCoin 22 = .ok (.iastore, 1) := by decide +kernel
theorem dX0_addCoin_23 : decode cX0_addCoin 23 = .ok (.aload_n 0, 1) := by decide +kernel
theorem dX0_addCoin_24 : decode cX0_addCoin 24 = .ok (.getfield 15, 3) := by decide +kernel
theorem dX0_addCoin_27 : decode cX0_addCoin 27 = .ok (.iload 5, 2) := by decide +kernel
theorem dX0_addCoin_29 : decode cX0_addCoin 29 = .ok (.iload_n 2, 1) := by decide +kernel
theorem dX0_addCoin_30 : decode cX0_addCoin 30 = .ok (.iastore, 1) := by decide +kernel
theorem dX0_addCoin_31 : decode cX0_addCoin 31 = .ok (.aload_n 0, 1) := by decide +kernel
theorem dX0_addCoin_32 : decode cX0_addCoin 32 = .ok (.getfield 18, 3) := by decide +kernel
theorem dX0_addCoin_35 : decode cX0_addCoin 35 = .ok (.iload 5, 2) := by decide +kernel
theorem dX0_addCoin_37 : decode cX0_addCoin 37 = .ok (.iload_n 3, 1) := by decide +kernel
theorem dX0_addCoin_38 : decode cX0_addCoin 38 = .ok (.iastore, 1) := by decide +kernel
theorem dX0_addCoin_39 : decode cX0_addCoin 39 = .ok (.aload_n 0, 1) := by decide +kernel
theorem dX0_addCoin_40 : decode cX0_addCoin 40 = .ok (.getfield 21, 3) := by decide +kernel
theorem dX0_addCoin_43 : decode cX0_addCoin 43 = .ok (.iload 5, 2) := by decide +kernel
theorem dX0_addCoin_45 : decode cX0_addCoin 45 = .ok (.iload 4, 2) := by decide +kernel
theorem dX0_addCoin_47 : decode cX0_addCoin 47 = .ok (.iastore, 1) := by decide +kernel
theorem dX0_addCoin_48 : decode cX0_addCoin 48 = .ok (.aload_n 0, 1) := by decide +kernel
theorem dX0_addCoin_49 : decode cX0_addCoin 49 = .ok (.dup, 1) := by decide +kernel
theorem dX0_addCoin_50 : decode cX0_addCoin 50 = .ok (.getfield 51, 3) := by decide +kernel
theorem dX0_addCoin_53 : decode cX0_addCoin 53 = .ok (.iconst 1, 1) := by decide +kernel
theorem dX0_addCoin_54 : decode cX0_addCoin 54 = .ok (.iadd, 1) := by decide +kernel
theorem dX0_addCoin_55 : decode cX0_addCoin 55 = .ok (.putfield 51, 3) := by decide +kernel
theorem dX0_addCoin_58 : decode cX0_addCoin 58 = .ok (.iload 5, 2) := by decide +kernel
theorem dX0_addCoin_60 : decode cX0_addCoin 60 = .ok (.ireturn, 1) := by decide +kernel
theorem dX0_exchange_0 : decode cX0_exchange 0 = .ok (.aload_n 0, 1) := by decide +kernel
theorem dX0_exchange_1 : decode cX0_exchange 1 = .ok (.getfield 9, 3) := by decide +kernel
theorem dX0_exchange_4 : decode cX0_exchange 4 = .ok (.iload_n 1, 1) := by decide +kernel
theorem dX0_exchange_5 : decode cX0_exchange 5 = .ok (.iload_n 2, 1) := by decide +kernel
theorem dX0_exchange_6 : decode cX0_exchange 6 = .ok (.invokestatic 80, 3) := by decide +kernel
theorem dX0_exchange_9 : decode cX0_exchange 9 = .ok (.aload_n 0, 1) := by decide +kernel
theorem dX0_exchange_10 : decode cX0_exchange 10 = .ok (.getfield 15, 3) := by decide +kernel
theorem dX0_exchange_13 : decode cX0_exchange 13 = .ok (.iload_n 1, 1) := by decide +kernel
theorem dX0_exchange_14 : decode cX0_exchange 14 = .ok (.iload_n 2, 1) := by decide +kernel
theorem dX0_exchange_15 : decode cX0_exchange 15 = .ok (.invokestatic 80, 3) := by decide +kernel
theorem dX0_exchange_18 : decode cX0_exchange 18 = .ok (.aload_n 0, 1) := by decide +kernel
theorem dX0_exchange_19 : decode cX0_exchange 19 = .ok (.getfield 18, 3) := by decide +kernel
theorem dX0_exchange_22 : decode cX0_exchange 22 = .ok (.iload_n 1, 1) := by decide +kernel
theorem dX0_exchange_23 : decode cX0_exchange 23 = .ok (.iload_n 2, 1) := by decide +kernel
theorem dX0_exchange_24 : decode cX0_exchange 24 = .ok (.invokestatic 80, 3) := by decide +kernel
theorem dX0_exchange_27 : decode cX0_exchange 27 = .ok (.aload_n 0, 1) := by decide +kernel
theorem dX0_exchange_28 : decode cX0_exchange 28 = .ok (.getfield 21, 3) := by decide +kernel
theorem dX0_exchange_31 : decode cX0_exchange 31 = .ok (.iload_n 1, 1) := by decide +kernel
theorem dX0_exchange_32 : decode cX0_exchange 32 = .ok (.iload_n 2, 1) := by decide +kernel
theorem dX0_exchange_33 : decode cX0_exchange 33 = .ok (.invokestatic 80, 3) := by decide +kernel
theorem dX0_exchange_36 : decode cX0_exchange 36 = .ok (.return_, 1) := by decide +kernel
theorem dX0_exchangeIn_0 : decode cX0_exchangeIn 0 = .ok (.aload_n 0, 1) := by decide +kernel
theorem dX0_exchangeIn_1 : decode cX0_exchangeIn 1 = .ok (.iload_n 1, 1) := by decide +kernel
theorem dX0_exchangeIn_2 : decode cX0_exchangeIn 2 = .ok (.iaload, 1) := by decide +kernel
theorem dX0_exchangeIn_3 : decode cX0_exchangeIn 3 = .ok (.istore_n 3, 1) := by decide +kernel
theorem dX0_exchangeIn_4 : decode cX0_exchangeIn 4 = .ok (.aload_n 0, 1) := by decide +kernel
theorem dX0_exchangeIn_5 : decode cX0_exchangeIn 5 = .ok (.iload_n 1, 1) := by decide +kernel
theorem dX0_exchangeIn_6 : decode cX0_exchangeIn 6 = .ok (.aload_n 0, 1) := by decide +kernel
theorem dX0_exchangeIn_7 : decode cX0_exchangeIn 7 = .ok (.iload_n 2, 1) := by decide +kernel
theorem dX0_exchangeIn_8 : decode cX0_exchangeIn 8 = .ok (.iaload, 1) := by decide +kernel
theorem dX0_exchangeIn_9 : decode cX0_exchangeIn 9 = .ok (.iastore, 1) := by decide +kernel
theorem dX0_exchangeIn_10 : decode cX0_exchangeIn 10 = .ok (.aload_n 0, 1) := by decide +kernel
theorem dX0_exchangeIn_11 : decode cX0_exchangeIn 11 = .ok (.iload_n 2, 1) := by decide +kernel
theorem dX0_exchangeIn_12 : decode cX0_exchangeIn 12 = .ok (.iload_n 3, 1) := by decide +kernel
theorem dX0_exchangeIn_13 : decode cX0_exchangeIn 13 = .ok (.iastore, 1) := by decide +kernel
theorem dX0_exchangeIn_14 : decode cX0_exchangeIn 14 = .ok (.return_, 1) := by decide +kernel
theorem dX0_plantSet_0 : decode cX0_plantSet 0 = .ok (.iconst 0, 1) := by decide +kernel
theorem dX0_plantSet_1 : decode cX0_plantSet 1 = .ok (.istore_n 2, 1) := by decide +kernel
theorem dX0_plantSet_2 : decode cX0_plantSet 2 = .ok (.iload_n 2, 1) := by decide +kernel
theorem dX0_plantSet_3 : decode cX0_plantSet 3 = .ok (.aload_n 0, 1) := by decide +kernel
theorem dX0_plantSet_4 : decode cX0_plantSet 4 = .ok (.getfield 51, 3) := by decide +kernel
theorem dX0_plantSet_7 : decode cX0_plantSet 7 = .ok (.if_icmp .ge 25, 3) := by decide +kernel
theorem dX0_plantSet_10 : decode cX0_plantSet 10 = .ok (.iload_n 1, 1) := by decide +kernel
theorem dX0_plantSet_11 : decode cX0_plantSet 11 = .ok (.iload_n 2, 1) := by decide +kernel
theorem dX0_plantSet_12 : decode cX0_plantSet 12 = .ok (.ishr, 1) := by decide +kernel
theorem dX0_plantSet_13 : decode cX0_plantSet 13 = .ok (.iconst 1, 1) := by decide +kernel
theorem dX0_plantSet_14 : decode cX0_plantSet 14 = .ok (.iand, 1) := by decide +kernel
theorem dX0_plantSet_15 : decode cX0_plantSet 15 = .ok (.iconst 1, 1) := by decide +kernel
theorem dX0_plantSet_16 : decode cX0_plantSet 16 = .ok (.if_icmp .ne 10, 3) := by decide +kernel
theorem dX0_plantSet_19 : decode cX0_plantSet 19 = .ok (.aload_n 0, 1) := by decide +kernel
theorem dX0_plantSet_20 : decode cX0_plantSet 20 = .ok (.getfield 21, 3) := by decide +kernel
theorem dX0_plantSet_23 : decode cX0_plantSet 23 = .ok (.iload_n 2, 1) := by decide +kernel
theorem dX0_plantSet_24 : decode cX0_plantSet 24 = .ok (.iconst 2, 1) := by decide +kernel
theorem dX0_plantSet_25 : decode cX0_plantSet 25 = .ok (.iastore, 1) := by decide +kernel
theorem dX0_plantSet_26 : decode cX0_plantSet 26 = .ok (.iinc 2 1, 3) := by decide +kernel
theorem dX0_plantSet_29 : decode cX0_plantSet 29 = .ok (.goto (-27), 3) := by decide +kernel
theorem dX0_plantSet_32 : decode cX0_plantSet 32 = .ok (.return_, 1) := by decide +kernel
theorem dX0_season_0 : decode cX0_season 0 = .ok (.aload_n 0, 1) := by decide +kernel
theorem dX0_season_1 : decode cX0_season 1 = .ok (.getfield 58, 3) := by decide +kernel
theorem dX0_season_4 : decode cX0_season 4 = .ok (.bipush 12, 2) := by decide +kernel
theorem dX0_season_6 : decode cX0_season 6 = .ok (.irem, 1) := by decide +kernel
theorem dX0_season_7 : decode cX0_season 7 = .ok (.ireturn, 1) := by decide +kernel
theorem dX0_isPlantingTime_0 : decode cX0_isPlantingTime 0 = .ok (.aload_n 0, 1) := by decide +kernel
theorem dX0_isPlantingTime_1 : decode cX0_isPlantingTime 1 = .ok (.invokevirtual 84, 3) := by decide +kernel
theorem dX0_isPlantingTime_4 : decode cX0_isPlantingTime 4 = .ok (.iconst 2, 1) := by decide +kernel
theorem dX0_isPlantingTime_5 : decode cX0_isPlantingTime 5 = .ok (.if_icmp .lt 15, 3) := by decide +kernel
theorem dX0_isPlantingTime_8 : decode cX0_isPlantingTime 8 = .ok (.aload_n 0, 1) := by decide +kernel
theorem dX0_isPlantingTime_9 : decode cX0_isPlantingTime 9 = .ok (.invokevirtual 84, 3) := by decide +kernel
theorem dX0_isPlantingTime_12 : decode cX0_isPlantingTime 12 = .ok (.iconst 5, 1) := by decide +kernel
theorem dX0_isPlantingTime_13 : decode cX0_isPlantingTime 13 = .ok (.if_icmp .gt 7, 3) := by decide +kernel
theorem dX0_isPlantingTime_16 : decode cX0_isPlantingTime 16 = .ok (.iconst 1, 1) := by decide +kernel
theorem dX0_isPlantingTime_17 : decode cX0_isPlantingTime 17 = .ok (.goto 4, 3) := by decide +kernel
theorem dX0_isPlantingTime_20 : decode cX0_isPlantingTime 20 = .ok (.iconst 0, 1) := by decide +kernel
theorem dX0_isPlantingTime_21 : decode cX0_isPlantingTime 21 = .ok (.ireturn, 1) := by decide +kernel
theorem dX0_yieldOf_0 : decode cX0_yieldOf 0 = .ok (.aload_n 0, 1) := by decide +kernel
theorem dX0_yieldOf_1 : decode cX0_yieldOf 1 = .ok (.getfield 9, 3) := by decide +kernel
theorem dX0_yieldOf_4 : decode cX0_yieldOf 4 = .ok (.iload_n 1, 1) := by decide +kernel
theorem dX0_yieldOf_5 : decode cX0_yieldOf 5 = .ok (.iaload, 1) := by decide +kernel
theorem dX0_yieldOf_6 : decode cX0_yieldOf 6 = .ok (.aload_n 0, 1) := by decide +kernel
theorem dX0_yieldOf_7 : decode cX0_yieldOf 7 = .ok (.getfield 24, 3) := by decide +kernel
theorem dX0_yieldOf_10 : decode cX0_yieldOf 10 = .ok (.aload_n 0, 1) := by decide +kernel
theorem dX0_yieldOf_11 : decode cX0_yieldOf 11 = .ok (.getfield 15, 3) := by decide +kernel
theorem dX0_yieldOf_14 : decode cX0_yieldOf 14 = .ok (.iload_n 1, 1) := by decide +kernel
theorem dX0_yieldOf_15 : decode cX0_yieldOf 15 = .ok (.iaload, 1) := by decide +kernel
theorem dX0_yieldOf_16 : decode cX0_yieldOf 16 = .ok (.iaload, 1) := by decide +kernel
theorem dX0_yieldOf_17 : decode cX0_yieldOf 17 = .ok (.invokestatic 88, 3) := by decide +kernel
theorem dX0_yieldOf_20 : decode cX0_yieldOf 20 = .ok (.ireturn, 1) := by decide +kernel
theorem dX0_worthOf_0 : decode cX0_worthOf 0 = .ok (.aload_n 0, 1) := by decide +kernel
theorem dX0_worthOf_1 : decode cX0_worthOf 1 = .ok (.getfield 21, 3) := by decide +kernel
theorem dX0_worthOf_4 : decode cX0_worthOf 4 = .ok (.iload_n 1, 1) := by decide +kernel
theorem dX0_worthOf_5 : decode cX0_worthOf 5 = .ok (.iaload, 1) := by decide +kernel
theorem dX0_worthOf_6 : decode cX0_worthOf 6 = .ok (.ifCond .ne 25, 3) := by decide +kernel
theorem dX0_worthOf_9 : decode cX0_worthOf 9 = .ok (.aload_n 0, 1) := by decide +kernel
theorem dX0_worthOf_10 : decode cX0_worthOf 10 = .ok (.getfield 18, 3) := by decide +kernel
theorem dX0_worthOf_13 : decode cX0_worthOf 13 = .ok (.iload_n 1, 1) := by decide +kernel
theorem dX0_worthOf_14 : decode cX0_worthOf 14 = .ok (.iaload, 1) := by decide +kernel
theorem dX0_worthOf_15 : decode cX0_worthOf 15 = .ok (.aload_n 0, 1) := by decide +kernel
theorem dX0_worthOf_16 : decode cX0_worthOf 16 = .ok (.getfield 27, 3) := by decide +kernel
theorem dX0_worthOf_19 : decode cX0_worthOf 19 = .ok (.aload_n 0, 1) := by decide +kernel
theorem dX0_worthOf_20 : decode cX0_worthOf 20 = .ok (.invokevirtual 84, 3) := by decide +kernel
theorem dX0_worthOf_23 : decode cX0_worthOf 23 = .ok (.iaload, 1) := by decide +kernel
theorem dX0_worthOf_24 : decode cX0_worthOf 24 = .ok (.imul, 1) := by decide +kernel
theorem dX0_worthOf_25 : decode cX0_worthOf 25 = .ok (.bipush 10, 2) := by decide +kernel
theorem dX0_worthOf_27 : decode cX0_worthOf 27 = .ok (.idiv, 1) := by decide +kernel
theorem dX0_worthOf_28 : decode cX0_worthOf 28 = .ok (.goto 4, 3) := by decide +kernel
theorem dX0_worthOf_31 : decode cX0_worthOf 31 = .ok (.iconst 0, 1) := by decide +kernel
theorem dX0_worthOf_32 : decode cX0_worthOf 32 = .ok (.ireturn, 1) := by decide +kernel
theorem dX0_howMany_0 : decode cX0_howMany 0 = .ok (.iconst 0, 1) := by decide +kernel
theorem dX0_howMany_1 : decode cX0_howMany 1 = .ok (.istore_n 2, 1) := by decide +kernel
theorem dX0_howMany_2 : decode cX0_howMany 2 = .ok (.iconst 0, 1) := by decide +kernel
theorem dX0_howMany_3 : decode cX0_howMany 3 = .ok (.istore_n 3, 1) := by decide +kernel
theorem dX0_howMany_4 : decode cX0_howMany 4 = .ok (.iload_n 3, 1) := by decide +kernel
theorem dX0_howMany_5 : decode cX0_howMany 5 = .ok (.aload_n 0, 1) := by decide +kernel
theorem dX0_howMany_6 : decode cX0_howMany 6 = .ok (.getfield 51, 3) := by decide +kernel
theorem dX0_howMany_9 : decode cX0_howMany 9 = .ok (.if_icmp .ge 22, 3) := by decide +kernel
theorem dX0_howMany_12 : decode cX0_howMany 12 = .ok (.aload_n 0, 1) := by decide +kernel
theorem dX0_howMany_13 : decode cX0_howMany 13 = .ok (.getfield 21, 3) := by decide +kernel
theorem dX0_howMany_16 : decode cX0_howMany 16 = .ok (.iload_n 3, 1) := by decide +kernel
theorem dX0_howMany_17 : decode cX0_howMany 17 = .ok (.iaload, 1) := by decide +kernel
theorem dX0_howMany_18 : decode cX0_howMany 18 = .ok (.iload_n 1, 1) := by decide +kernel
theorem dX0_howMany_19 : decode cX0_howMany 19 = .ok (.if_icmp .ne 6, 3) := by decide +kernel
theorem dX0_howMany_22 : decode cX0_howMany 22 = .ok (.iinc 2 1, 3) := by decide +kernel
theorem dX0_howMany_25 : decode cX0_howMany 25 = .ok (.iinc 3 1, 3) := by decide +kernel
theorem dX0_howMany_28 : decode cX0_howMany 28 = .ok (.goto (-24), 3) := by decide +kernel
theorem dX0_howMany_31 : decode cX0_howMany 31 = .ok (.iload_n 2, 1) := by decide +kernel
theorem dX0_howMany_32 : decode cX0_howMany 32 = .ok (.ireturn, 1) := by decide +kernel
theorem dX0_sizeOfAll_0 : decode cX0_sizeOfAll 0 = .ok (.iconst 0, 1) := by decide +kernel
theorem dX0_sizeOfAll_1 : decode cX0_sizeOfAll 1 = .ok (.istore_n 1, 1) := by decide +kernel
theorem dX0_sizeOfAll_2 : decode cX0_sizeOfAll 2 = .ok (.iconst 0, 1) := by decide +kernel
theorem dX0_sizeOfAll_3 : decode cX0_sizeOfAll 3 = .ok (.istore_n 2, 1) := by decide +kernel
theorem dX0_sizeOfAll_4 : decode cX0_sizeOfAll 4 = .ok (.iload_n 2, 1) := by decide +kernel
theorem dX0_sizeOfAll_5 : decode cX0_sizeOfAll 5 = .ok (.aload_n 0, 1) := by decide +kernel
theorem dX0_sizeOfAll_6 : decode cX0_sizeOfAll 6 = .ok (.getfield 51, 3) := by decide +kernel
theorem dX0_sizeOfAll_9 : decode cX0_sizeOfAll 9 = .ok (.if_icmp .ge 18, 3) := by decide +kernel
theorem dX0_sizeOfAll_12 : decode cX0_sizeOfAll 12 = .ok (.iload_n 1, 1) := by decide +kernel
theorem dX0_sizeOfAll_13 : decode cX0_sizeOfAll 13 = .ok (.aload_n 0, 1) := by decide +kernel
theorem dX0_sizeOfAll_14 : decode cX0_sizeOfAll 14 = .ok (.getfield 18, 3) := by decide +kernel
theorem dX0_sizeOfAll_17 : decode cX0_sizeOfAll 17 = .ok (.iload_n 2, 1) := by decide +kernel
theorem dX0_sizeOfAll_18 : decode cX0_sizeOfAll 18 = .ok (.iaload, 1) := by decide +kernel
theorem dX0_sizeOfAll_19 : decode cX0_sizeOfAll 19 = .ok (.iadd, 1) := by decide +kernel
theorem dX0_sizeOfAll_20 : decode cX0_sizeOfAll 20 = .ok (.istore_n 1, 1) := by decide +kernel
theorem dX0_sizeOfAll_21 : decode cX0_sizeOfAll 21 = .ok (.iinc 2 1, 3) := by decide +kernel
theorem dX0_sizeOfAll_24 : decode cX0_sizeOfAll 24 = .ok (.goto (-20), 3) := by decide +kernel
theorem dX0_sizeOfAll_27 : decode cX0_sizeOfAll 27 = .ok (.iload_n 1, 1) := by decide +kernel
theorem dX0_sizeOfAll_28 : decode cX0_sizeOfAll 28 = .ok (.ireturn, 1) := by decide +kernel
theorem dX0_isSoundOf_0 : decode cX0_isSoundOf 0 = .ok (.aload_n 0, 1) := by decide +kernel
theorem dX0_isSoundOf_1 : decode cX0_isSoundOf 1 = .ok (.getfield 21, 3) := by decide +kernel
theorem dX0_isSoundOf_4 : decode cX0_isSoundOf 4 = .ok (.iload_n 1, 1) := by decide +kernel
theorem dX0_isSoundOf_5 : decode cX0_isSoundOf 5 = .ok (.iaload, 1) := by decide +kernel
theorem dX0_isSoundOf_6 : decode cX0_isSoundOf 6 = .ok (.ifCond .ne 17, 3) := by decide +kernel
theorem dX0_isSoundOf_9 : decode cX0_isSoundOf 9 = .ok (.aload_n 0, 1) := by decide +kernel
theorem dX0_isSoundOf_10 : decode cX0_isSoundOf 10 = .ok (.getfield 15, 3) := by decide +kernel
theorem dX0_isSoundOf_13 : decode cX0_isSoundOf 13 = .ok (.iload_n 1, 1) := by decide +kernel
theorem dX0_isSoundOf_14 : decode cX0_isSoundOf 14 = .ok (.iaload, 1) := by decide +kernel
theorem dX0_isSoundOf_15 : decode cX0_isSoundOf 15 = .ok (.iload_n 2, 1) := by decide +kernel
theorem dX0_isSoundOf_16 : decode cX0_isSoundOf 16 = .ok (.if_icmp .ne 7, 3) := by decide +kernel
theorem dX0_isSoundOf_19 : decode cX0_isSoundOf 19 = .ok (.iconst 1, 1) := by decide +kernel
theorem dX0_isSoundOf_20 : decode cX0_isSoundOf 20 = .ok (.goto 4, 3) := by decide +kernel
theorem dX0_isSoundOf_23 : decode cX0_isSoundOf 23 = .ok (.iconst 0, 1) := by decide +kernel
theorem dX0_isSoundOf_24 : decode cX0_isSoundOf 24 = .ok (.ireturn, 1) := by decide +kernel
theorem dX0_soundOf_0 : decode cX0_soundOf 0 = .ok (.iconst 0, 1) := by decide +kernel
theorem dX0_soundOf_1 : decode cX0_soundOf 1 = .ok (.istore_n 2, 1) := by decide +kernel
theorem dX0_soundOf_2 : decode cX0_soundOf 2 = .ok (.iconst 0, 1) := by decide +kernel
theorem dX0_soundOf_3 : decode cX0_soundOf 3 = .ok (.istore_n 3, 1) := by decide +kernel
theorem dX0_soundOf_4 : decode cX0_soundOf 4 = .ok (.iload_n 3, 1) := by decide +kernel
theorem dX0_soundOf_5 : decode cX0_soundOf 5 = .ok (.aload_n 0, 1) := by decide +kernel
theorem dX0_soundOf_6 : decode cX0_soundOf 6 = .ok (.getfield 51, 3) := by decide +kernel
theorem dX0_soundOf_9 : decode cX0_soundOf 9 = .ok (.if_icmp .ge 24, 3) := by decide +kernel
theorem dX0_soundOf_12 : decode cX0_soundOf 12 = .ok (.aload_n 0, 1) := by decide +kernel
theorem dX0_soundOf_13 : decode cX0_soundOf 13 = .ok (.iload_n 3, 1) := by decide +kernel
theorem dX0_soundOf_14 : decode cX0_soundOf 14 = .ok (.iload_n 1, 1) := by decide +kernel
theorem dX0_soundOf_15 : decode cX0_soundOf 15 = .ok (.invokevirtual 91, 3) := by decide +kernel
theorem dX0_soundOf_18 : decode cX0_soundOf 18 = .ok (.ifCond .eq 9, 3) := by decide +kernel
theorem dX0_soundOf_21 : decode cX0_soundOf 21 = .ok (.iload_n 2, 1) := by decide +kernel
theorem dX0_soundOf_22 : decode cX0_soundOf 22 = .ok (.iconst 1, 1) := by decide +kernel
theorem dX0_soundOf_23 : decode cX0_soundOf 23 = .ok (.iload_n 3, 1) := by decide +kernel
theorem dX0_soundOf_24 : decode cX0_soundOf 24 = .ok (.ishl, 1) := by decide +kernel
theorem dX0_soundOf_25 : decode cX0_soundOf 25 = .ok (.ior, 1) := by decide +kernel
theorem dX0_soundOf_26 : decode cX0_soundOf 26 = .ok (.istore_n 2, 1) := by decide +kernel
theorem dX0_soundOf_27 : decode cX0_soundOf 27 = .ok (.iinc 3 1, 3) := by decide +kernel
theorem dX0_soundOf_30 : decode cX0_soundOf 30 = .ok (.goto (-26), 3) := by decide +kernel
theorem dX0_soundOf_33 : decode cX0_soundOf 33 = .ok (.iload_n 2, 1) := by decide +kernel
theorem dX0_soundOf_34 : decode cX0_soundOf 34 = .ok (.ireturn, 1) := by decide +kernel
theorem dX0_worthOfSet_0 : decode cX0_worthOfSet 0 = .ok (.iconst 0, 1) := by decide +kernel
theorem dX0_worthOfSet_1 : decode cX0_worthOfSet 1 = .ok (.istore_n 2, 1) := by decide +kernel
theorem dX0_worthOfSet_2 : decode cX0_worthOfSet 2 = .ok (.iconst 0, 1) := by decide +kernel
theorem dX0_worthOfSet_3 : decode cX0_worthOfSet 3 = .ok (.istore_n 3, 1) := by decide +kernel
theorem dX0_worthOfSet_4 : decode cX0_worthOfSet 4 = .ok (.iload_n 3, 1) := by decide +kernel
theorem dX0_worthOfSet_5 : decode cX0_worthOfSet 5 = .ok (.aload_n 0, 1) := by decide +kernel
theorem dX0_worthOfSet_6 : decode cX0_worthOfSet 6 = .ok (.getfield 51, 3) := by decide +kernel
theorem dX0_worthOfSet_9 : decode cX0_worthOfSet 9 = .ok (.if_icmp .ge 26, 3) := by decide +kernel
theorem dX0_worthOfSet_12 : decode cX0_worthOfSet 12 = .ok (.iload_n 1, 1) := by decide +kernel
theorem dX0_worthOfSet_13 : decode cX0_worthOfSet 13 = .ok (.iload_n 3, 1) := by decide +kernel
theorem dX0_worthOfSet_14 : decode cX0_worthOfSet 14 = .ok (.ishr, 1) := by decide +kernel
theorem dX0_worthOfSet_15 : decode cX0_worthOfSet 15 = .ok (.iconst 1, 1) := by decide +kernel
theorem dX0_worthOfSet_16 : decode cX0_worthOfSet 16 = .ok (.iand, 1) := by decide +kernel
theorem dX0_worthOfSet_17 : decode cX0_worthOfSet 17 = .ok (.iconst 1, 1) := by decide +kernel
theorem dX0_worthOfSet_18 : decode cX0_worthOfSet 18 = .ok (.if_icmp .ne 11, 3) := by decide +kernel
theorem dX0_worthOfSet_21 : decode cX0_worthOfSet 21 = .ok (.iload_n 2, 1) := by decide +kernel
theorem dX0_worthOfSet_22 : decode cX0_worthOfSet 22 = .ok (.aload_n 0, 1) := by decide +kernel
theorem dX0_worthOfSet_23 : decode cX0_worthOfSet 23 = .ok (.iload_n 3, 1) := by decide +kernel
theorem dX0_worthOfSet_24 : decode cX0_worthOfSet 24 = .ok (.invokevirtual 94, 3) := by decide +kernel
theorem dX0_worthOfSet_27 : decode cX0_worthOfSet 27 = .ok (.iadd, 1) := by decide +kernel
theorem dX0_worthOfSet_28 : decode cX0_worthOfSet 28 = .ok (.istore_n 2, 1) := by decide +kernel
theorem dX0_worthOfSet_29 : decode cX0_worthOfSet 29 = .ok (.iinc 3 1, 3) := by decide +kernel
theorem dX0_worthOfSet_32 : decode cX0_worthOfSet 32 = .ok (.goto (-28), 3) := by decide +kernel
theorem dX0_worthOfSet_35 : decode cX0_worthOfSet 35 = .ok (.iload_n 2, 1) := by decide +kernel
theorem dX0_worthOfSet_36 : decode cX0_worthOfSet 36 = .ok (.ireturn, 1) := by decide +kernel
theorem dX0_purseOf_0 : decode cX0_purseOf 0 = .ok (.aload_n 0, 1) := by decide +kernel
theorem dX0_purseOf_1 : decode cX0_purseOf 1 = .ok (.aload_n 0, 1) := by decide +kernel
theorem dX0_purseOf_2 : decode cX0_purseOf 2 = .ok (.iload_n 1, 1) := by decide +kernel
theorem dX0_purseOf_3 : decode cX0_purseOf 3 = .ok (.invokevirtual 98, 3) := by decide +kernel
theorem dX0_purseOf_6 : decode cX0_purseOf 6 = .ok (.invokevirtual 101, 3) := by decide +kernel
theorem dX0_purseOf_9 : decode cX0_purseOf 9 = .ok (.ireturn, 1) := by decide +kernel
theorem dX0_worthOfAll_0 : decode cX0_worthOfAll 0 = .ok (.aload_n 0, 1) := by decide +kernel
theorem dX0_worthOfAll_1 : decode cX0_worthOfAll 1 = .ok (.sipush 4095, 3) := by decide +kernel
theorem dX0_worthOfAll_4 : decode cX0_worthOfAll 4 = .ok (.invokevirtual 101, 3) := by decide +kernel
theorem dX0_worthOfAll_7 : decode cX0_worthOfAll 7 = .ok (.ireturn, 1) := by decide +kernel
theorem dX0_richest_0 : decode cX0_richest 0 = .ok (.aload_n 0, 1) := by decide +kernel
theorem dX0_richest_1 : decode cX0_richest 1 = .ok (.iconst 0, 1) := by decide +kernel
theorem dX0_richest_2 : decode cX0_richest 2 = .ok (.invokevirtual 104, 3) := by decide +kernel
theorem dX0_richest_5 : decode cX0_richest 5 = .ok (.istore_n 1, 1) := by decide +kernel
theorem dX0_richest_6 : decode cX0_richest 6 = .ok (.iconst 0, 1) := by decide +kernel
theorem dX0_richest_7 : decode cX0_richest 7 = .ok (.istore_n 2, 1) := by decide +kernel
theorem dX0_richest_8 : decode cX0_richest 8 = .ok (.iconst 1, 1) := by decide +kernel
theorem dX0_richest_9 : decode cX0_richest 9 = .ok (.istore_n 3, 1) := by decide +kernel
theorem dX0_richest_10 : decode cX0_richest 10 = .ok (.iload_n 3, 1) := by decide +kernel
theorem dX0_richest_11 : decode cX0_richest 11 = .ok (.iconst 4, 1) := by decide +kernel
theorem dX0_richest_12 : decode cX0_richest 12 = .ok (.if_icmp .ge 27, 3) := by decide +kernel
theorem dX0_richest_15 : decode cX0_richest 15 = .ok (.aload_n 0, 1) := by decide +kernel
theorem dX0_richest_16 : decode cX0_richest 16 = .ok (.iload_n 3, 1) := by decide +kernel
theorem dX0_richest_17 : decode cX0_richest 17 = .ok (.invokevirtual 104, 3) := by decide +kernel
theorem dX0_richest_20 : decode cX0_richest 20 = .ok (.istore 4, 2) := by decide +kernel
theorem dX0_richest_22 : decode cX0_richest 22 = .ok (.iload 4, 2) := by decide +kernel
theorem dX0_richest_24 : decode cX0_richest 24 = .ok (.iload_n 1, 1) := by decide +kernel
theorem dX0_richest_25 : decode cX0_richest 25 = .ok (.if_icmp .le 8, 3) := by decide +kernel
theorem dX0_richest_28 : decode cX0_richest 28 = .ok (.iload 4, 2) := by decide +kernel
theorem dX0_richest_30 : decode cX0_richest 30 = .ok (.istore_n 1, 1) := by decide +kernel
theorem dX0_richest_31 : decode cX0_richest 31 = .ok (.iload_n 3, 1) := by decide +kernel
theorem dX0_richest_32 : decode cX0_richest 32 = .ok (.istore_n 2, 1) := by decide +kernel
theorem dX0_richest_33 : decode cX0_richest 33 = .ok (.iinc 3 1, 3) := by decide +kernel
theorem dX0_richest_36 : decode cX0_richest 36 = .ok (.goto (-26), 3) := by decide +kernel
theorem dX0_richest_39 : decode cX0_richest 39 = .ok (.iload_n 2, 1) := by decide +kernel
theorem dX0_richest_40 : decode cX0_richest 40 = .ok (.ireturn, 1) := by decide +kernel
theorem dX0_ownerOfMostBlue_0 : decode cX0_ownerOfMostBlue 0 = .ok (.iconst 0, 1) := by decide +kernel
theorem dX0_ownerOfMostBlue_1 : decode cX0_ownerOfMostBlue 1 = .ok (.istore_n 1, 1) := by decide +kernel
theorem dX0_ownerOfMostBlue_2 : decode cX0_ownerOfMostBlue 2 = .ok (.iconst (-1), 1) := by decide +kernel
theorem dX0_ownerOfMostBlue_3 : decode cX0_ownerOfMostBlue 3 = .ok (.istore_n 2, 1) := by decide +kernel
theorem dX0_ownerOfMostBlue_4 : decode cX0_ownerOfMostBlue 4 = .ok (.iconst 0, 1) := by decide +kernel
theorem dX0_ownerOfMostBlue_5 : decode cX0_ownerOfMostBlue 5 = .ok (.istore_n 3, 1) := by decide +kernel
theorem dX0_ownerOfMostBlue_6 : decode cX0_ownerOfMostBlue 6 = .ok (.iload_n 3, 1) := by decide +kernel
theorem dX0_ownerOfMostBlue_7 : decode cX0_ownerOfMostBlue 7 = .ok (.iconst 4, 1) := by decide +kernel
theorem dX0_ownerOfMostBlue_8 : decode cX0_ownerOfMostBlue 8 = .ok (.if_icmp .ge 68, 3) := by decide +kernel
theorem dX0_ownerOfMostBlue_11 : decode cX0_ownerOfMostBlue 11 = .ok (.iconst 0, 1) := by decide +kernel
theorem dX0_ownerOfMostBlue_12 : decode cX0_ownerOfMostBlue 12 = .ok (.istore 4, 2) := by decide +kernel
theorem dX0_ownerOfMostBlue_14 : decode cX0_ownerOfMostBlue 14 = .ok (.iconst 0, 1) := by decide +kernel
theorem dX0_ownerOfMostBlue_15 : decode cX0_ownerOfMostBlue 15 = .ok (.istore 5, 2) := by decide +kernel
theorem dX0_ownerOfMostBlue_17 : decode cX0_ownerOfMostBlue 17 = .ok (.iload 5, 2) := by decide +kernel
theorem dX0_ownerOfMostBlue_19 : decode cX0_ownerOfMostBlue 19 = .ok (.aload_n 0, 1) := by decide +kernel
theorem dX0_ownerOfMostBlue_20 : decode cX0_ownerOfMostBlue 20 = .ok (.getfield 51, 3) := by decide +kernel
theorem dX0_ownerOfMostBlue_23 : decode cX0_ownerOfMostBlue 23 = .ok (.if_icmp .ge 36, 3) := by decide +kernel
theorem dX0_ownerOfMostBlue_26 : decode cX0_ownerOfMostBlue 26 = .ok (.aload_n 0, 1) := by decide +kernel
theorem dX0_ownerOfMostBlue_27 : decode cX0_ownerOfMostBlue 27 = .ok (.iload 5, 2) := by decide +kernel
theorem dX0_ownerOfMostBlue_29 : decode cX0_ownerOfMostBlue 29 = .ok (.iload_n 3, 1) := by decide +kernel
theorem dX0_ownerOfMostBlue_30 : decode cX0_ownerOfMostBlue 30 = .ok (.invokevirtual 91, 3) := by decide +kernel
theorem dX0_ownerOfMostBlue_33 : decode cX0_ownerOfMostBlue 33 = .ok (.ifCond .eq 20, 3) := by decide +kernel
theorem dX0_ownerOfMostBlue_36 : decode cX0_ownerOfMostBlue 36 = .ok (.aload_n 0, 1) := by decide +kernel
theorem dX0_ownerOfMostBlue_37 : decode cX0_ownerOfMostBlue 37 = .ok (.getfield 9, 3) := by decide +kernel
theorem dX0_ownerOfMostBlue_40 : decode cX0_ownerOfMostBlue 40 = .ok (.iload 5, 2) := by decide +kernel
theorem dX0_ownerOfMostBlue_42 : decode cX0_ownerOfMostBlue 42 = .ok (.iaload, 1) := by decide +kernel
theorem dX0_ownerOfMostBlue_43 : decode cX0_ownerOfMostBlue 43 = .ok (.iconst 1, 1) := by decide +kernel
theorem dX0_ownerOfMostBlue_44 : decode cX0_ownerOfMostBlue 44 = .ok (.invokestatic 76, 3) := by decide +kernel
theorem dX0_ownerOfMostBlue_47 : decode cX0_ownerOfMostBlue 47 = .ok (.ifCond .eq 6, 3) := by decide +kernel
theorem dX0_ownerOfMostBlue_50 : decode cX0_ownerOfMostBlue 50 = .ok (.iinc 4 1, 3) := by decide +kernel
theorem dX0_ownerOfMostBlue_53 : decode cX0_ownerOfMostBlue 53 = .ok (.iinc 5 1, 3) := by decide +kernel
theorem dX0_ownerOfMostBlue_56 : decode cX0_ownerOfMostBlue 56 = .ok (.goto (-39), 3) := by decide +kernel
theorem dX0_ownerOfMostBlue_59 : decode cX0_ownerOfMostBlue 59 = .ok (.iload 4, 2) := by decide +kernel
theorem dX0_ownerOfMostBlue_61 : decode cX0_ownerOfMostBlue 61 = .ok (.iload_n 1, 1) := by decide +kernel
theorem dX0_ownerOfMostBlue_62 : decode cX0_ownerOfMostBlue 62 = .ok (.if_icmp .le 8, 3) := by decide +kernel
theorem dX0_ownerOfMostBlue_65 : decode cX0_ownerOfMostBlue 65 = .ok (.iload 4, 2) := by decide +kernel
theorem dX0_ownerOfMostBlue_67 : decode cX0_ownerOfMostBlue 67 = .ok (.istore_n 1, 1) := by decide +kernel
theorem dX0_ownerOfMostBlue_68 : decode cX0_ownerOfMostBlue 68 = .ok (.iload_n 3, 1) := by decide +kernel
theorem dX0_ownerOfMostBlue_69 : decode cX0_ownerOfMostBlue 69 = .ok (.istore_n 2, 1) := by decide +kernel
theorem dX0_ownerOfMostBlue_70 : decode cX0_ownerOfMostBlue 70 = .ok (.iinc 3 1, 3) := by decide +kernel
theorem dX0_ownerOfMostBlue_73 : decode cX0_ownerOfMostBlue 73 = .ok (.goto (-67), 3) := by decide +kernel
theorem dX0_ownerOfMostBlue_76 : decode cX0_ownerOfMostBlue 76 = .ok (.iload_n 2, 1) := by decide +kernel
theorem dX0_ownerOfMostBlue_77 : decode cX0_ownerOfMostBlue 77 = .ok (.ireturn, 1) := by decide +kernel
theorem dX0_boilGreatest_0 : decode cX0_boilGreatest 0 = .ok (.iconst 0, 1) := by decide +kernel
theorem dX0_boilGreatest_1 : decode cX0_boilGreatest 1 = .ok (.istore_n 1, 1) := by decide +kernel
theorem dX0_boilGreatest_2 : decode cX0_boilGreatest 2 = .ok (.iconst 0, 1) := by decide +kernel
theorem dX0_boilGreatest_3 : decode cX0_boilGreatest 3 = .ok (.istore_n 2, 1) := by decide +kernel
theorem dX0_boilGreatest_4 : decode cX0_boilGreatest 4 = .ok (.iload_n 2, 1) := by decide +kernel
theorem dX0_boilGreatest_5 : decode cX0_boilGreatest 5 = .ok (.iconst 4, 1) := by decide +kernel
theorem dX0_boilGreatest_6 : decode cX0_boilGreatest 6 = .ok (.if_icmp .ge 29, 3) := by decide +kernel
theorem dX0_boilGreatest_9 : decode cX0_boilGreatest 9 = .ok (.aload_n 0, 1) := by decide +kernel
theorem dX0_boilGreatest_10 : decode cX0_boilGreatest 10 = .ok (.iload_n 2, 1) := by decide +kernel
theorem dX0_boilGreatest_11 : decode cX0_boilGreatest 11 = .ok (.invokevirtual 107, 3) := by decide +kernel
theorem dX0_boilGreatest_14 : decode cX0_boilGreatest 14 = .ok (.istore_n 3, 1) := by decide +kernel
theorem dX0_boilGreatest_15 : decode cX0_boilGreatest 15 = .ok (.iload_n 3, 1) := by decide +kernel
theorem dX0_boilGreatest_16 : decode cX0_boilGreatest 16 = .ok (.ifCond .lt 13, 3) := by decide +kernel
theorem dX0_boilGreatest_19 : decode cX0_boilGreatest 19 = .ok (.aload_n 0, 1) := by decide +kernel
theorem dX0_boilGreatest_20 : decode cX0_boilGreatest 20 = .ok (.getfield 9, 3) := by decide +kernel
theorem dX0_boilGreatest_23 : decode cX0_boilGreatest 23 = .ok (.iload_n 3, 1) := by decide +kernel
theorem dX0_boilGreatest_24 : decode cX0_boilGreatest 24 = .ok (.iconst 4, 1) := by decide +kernel
theorem dX0_boilGreatest_25 : decode cX0_boilGreatest 25 = .ok (.iastore, 1) := by decide +kernel
theorem dX0_boilGreatest_26 : decode cX0_boilGreatest 26 = .ok (.iinc 1 1, 3) := by decide +kernel
theorem dX0_boilGreatest_29 : decode cX0_boilGreatest 29 = .ok (.iinc 2 1, 3) := by decide +kernel
theorem dX0_boilGreatest_32 : decode cX0_boilGreatest 32 = .ok (.goto (-28), 3) := by decide +kernel
theorem dX0_boilGreatest_35 : decode cX0_boilGreatest 35 = .ok (.iload_n 1, 1) := by decide +kernel
theorem dX0_boilGreatest_36 : decode cX0_boilGreatest 36 = .ok (.ireturn, 1) := by decide +kernel
theorem dX0_greatestOf_0 : decode cX0_greatestOf 0 = .ok (.iconst (-1), 1) := by decide +kernel
theorem dX0_greatestOf_1 : decode cX0_greatestOf 1 = .ok (.istore_n 2, 1) := by decide +kernel
theorem dX0_greatestOf_2 : decode cX0_greatestOf 2 = .ok (.iconst (-1), 1) := by decide +kernel
theorem dX0_greatestOf_3 : decode cX0_greatestOf 3 = .ok (.istore_n 3, 1) := by decide +kernel
theorem dX0_greatestOf_4 : decode cX0_greatestOf 4 = .ok (.iconst 0, 1) := by decide +kernel
theorem dX0_greatestOf_5 : decode cX0_greatestOf 5 = .ok (.istore 4, 2) := by decide +kernel
theorem dX0_greatestOf_7 : decode cX0_greatestOf 7 = .ok (.iload 4, 2) := by decide +kernel
theorem dX0_greatestOf_9 : decode cX0_greatestOf 9 = .ok (.aload_n 0, 1) := by decide +kernel
theorem dX0_greatestOf_10 : decode cX0_greatestOf 10 = .ok (.getfield 51, 3) := by decide +kernel
theorem dX0_greatestOf_13 : decode cX0_greatestOf 13 = .ok (.if_icmp .ge 39, 3) := by decide +kernel
theorem dX0_greatestOf_16 : decode cX0_greatestOf 16 = .ok (.aload_n 0, 1) := by decide +kernel
theorem dX0_greatestOf_17 : decode cX0_greatestOf 17 = .ok (.iload 4, 2) := by decide +kernel
theorem dX0_greatestOf_19 : decode cX0_greatestOf 19 = .ok (.iload_n 1, 1) := by decide +kernel
theorem dX0_greatestOf_20 : decode cX0_greatestOf 20 = .ok (.invokevirtual 91, 3) := by decide +kernel
theorem dX0_greatestOf_23 : decode cX0_greatestOf 23 = .ok (.ifCond .eq 23, 3) := by decide +kernel
theorem dX0_greatestOf_26 : decode cX0_greatestOf 26 = .ok (.aload_n 0, 1) := by decide +kernel
theorem dX0_greatestOf_27 : decode cX0_greatestOf 27 = .ok (.iload 4, 2) := by decide +kernel
theorem dX0_greatestOf_29 : decode cX0_greatestOf 29 = .ok (.invokevirtual 94, 3) := by decide +kernel
theorem dX0_greatestOf_32 : decode cX0_greatestOf 32 = .ok (.iload_n 2, 1) := by decide +kernel
theorem dX0_greatestOf_33 : decode cX0_greatestOf 33 = .ok (.if_icmp .le 13, 3) := by decide +kernel
theorem dX0_greatestOf_36 : decode cX0_greatestOf 36 = .ok (.aload_n 0, 1) := by decide +kernel
theorem dX0_greatestOf_37 : decode cX0_greatestOf 37 = .ok (.iload 4, 2) := by decide +kernel
theorem dX0_greatestOf_39 : decode cX0_greatestOf 39 = .ok (.invokevirtual 94, 3) := by decide +kernel
theorem dX0_greatestOf_42 : decode cX0_greatestOf 42 = .ok (.istore_n 2, 1) := by decide +kernel
theorem dX0_greatestOf_43 : decode cX0_greatestOf 43 = .ok (.iload 4, 2) := by decide +kernel
theorem dX0_greatestOf_45 : decode cX0_greatestOf 45 = .ok (.istore_n 3, 1) := by decide +kernel
theorem dX0_greatestOf_46 : decode cX0_greatestOf 46 = .ok (.iinc 4 1, 3) := by decide +kernel
theorem dX0_greatestOf_49 : decode cX0_greatestOf 49 = .ok (.goto (-42), 3) := by decide +kernel
theorem dX0_greatestOf_52 : decode cX0_greatestOf 52 = .ok (.iload_n 3, 1) := by decide +kernel
theorem dX0_greatestOf_53 : decode cX0_greatestOf 53 = .ok (.ireturn, 1) := by decide +kernel
theorem dX0_handOver_0 : decode cX0_handOver 0 = .ok (.aload_n 0, 1) := by decide +kernel
theorem dX0_handOver_1 : decode cX0_handOver 1 = .ok (.iload_n 1, 1) := by decide +kernel
theorem dX0_handOver_2 : decode cX0_handOver 2 = .ok (.iload_n 3, 1) := by decide +kernel
theorem dX0_handOver_3 : decode cX0_handOver 3 = .ok (.invokevirtual 110, 3) := by decide +kernel
theorem dX0_handOver_6 : decode cX0_handOver 6 = .ok (.istore 4, 2) := by decide +kernel
theorem dX0_handOver_8 : decode cX0_handOver 8 = .ok (.aload_n 0, 1) := by decide +kernel
theorem dX0_handOver_9 : decode cX0_handOver 9 = .ok (.dup, 1) := by decide +kernel
theorem dX0_handOver_10 : decode cX0_handOver 10 = .ok (.getfield 61, 3) := by decide +kernel
theorem dX0_handOver_13 : decode cX0_handOver 13 = .ok (.iconst 0, 1) := by decide +kernel
theorem dX0_handOver_14 : decode cX0_handOver 14 = .ok (.iload_n 3, 1) := by decide +kernel
theorem dX0_handOver_15 : decode cX0_handOver 15 = .ok (.aload_n 0, 1) := by decide +kernel
theorem dX0_handOver_16 : decode cX0_handOver 16 = .ok (.iload 4, 2) := by decide +kernel
theorem dX0_handOver_18 : decode cX0_handOver 18 = .ok (.invokevirtual 101, 3) := by decide +kernel
theorem dX0_handOver_21 : decode cX0_handOver 21 = .ok (.isub, 1) := by decide +kernel
theorem dX0_handOver_22 : decode cX0_handOver 22 = .ok (.invokestatic 70, 3) := by decide +kernel
theorem dX0_handOver_25 : decode cX0_handOver 25 = .ok (.iadd, 1) := by decide +kernel
theorem dX0_handOver_26 : decode cX0_handOver 26 = .ok (.putfield 61, 3) := by decide +kernel
theorem dX0_handOver_29 : decode cX0_handOver 29 = .ok (.iconst 0, 1) := by decide +kernel
theorem dX0_handOver_30 : decode cX0_handOver 30 = .ok (.istore 5, 2) := by decide +kernel
theorem dX0_handOver_32 : decode cX0_handOver 32 = .ok (.iload 5, 2) := by decide +kernel
theorem dX0_handOver_34 : decode cX0_handOver 34 = .ok (.aload_n 0, 1) := by decide +kernel
theorem dX0_handOver_35 : decode cX0_handOver 35 = .ok (.getfield 51, 3) := by decide +kernel
theorem dX0_handOver_38 : decode cX0_handOver 38 = .ok (.if_icmp .ge 28, 3) := by decide +kernel
theorem dX0_handOver_41 : decode cX0_handOver 41 = .ok (.iload 4, 2) := by decide +kernel
theorem dX0_handOver_43 : decode cX0_handOver 43 = .ok (.iload 5, 2) := by decide +kernel
theorem dX0_handOver_45 : decode cX0_handOver 45 = .ok (.ishr, 1) := by decide +kernel
theorem dX0_handOver_46 : decode cX0_handOver 46 = .ok (.iconst 1, 1) := by decide +kernel
theorem dX0_handOver_47 : decode cX0_handOver 47 = .ok (.iand, 1) := by decide +kernel
theorem dX0_handOver_48 : decode cX0_handOver 48 = .ok (.iconst 1, 1) := by decide +kernel
theorem dX0_handOver_49 : decode cX0_handOver 49 = .ok (.if_icmp .ne 11, 3) := by decide +kernel
theorem dX0_handOver_52 : decode cX0_handOver 52 = .ok (.aload_n 0, 1) := by decide +kernel
theorem dX0_handOver_53 : decode cX0_handOver 53 = .ok (.getfield 15, 3) := by decide +kernel
theorem dX0_handOver_56 : decode cX0_handOver 56 = .ok (.iload 5, 2) := by decide +kernel
theorem dX0_handOver_58 : decode cX0_handOver 58 = .ok (.iload_n 2, 1) := by decide +kernel
theorem dX0_handOver_59 : decode cX0_handOver 59 = .ok (.iastore, 1) := by decide +kernel
theorem dX0_handOver_60 : decode cX0_handOver 60 = .ok (.iinc 5 1, 3) := by decide +kernel
theorem dX0_handOver_63 : decode cX0_handOver 63 = .ok (.goto (-31), 3) := by decide +kernel
theorem dX0_handOver_66 : decode cX0_handOver 66 = .ok (.iload 4, 2) := by decide +kernel
theorem dX0_handOver_68 : decode cX0_handOver 68 = .ok (.ireturn, 1) := by decide +kernel
theorem dX0_coinsFor_0 : decode cX0_coinsFor 0 = .ok (.iconst 0, 1) := by decide +kernel
theorem dX0_coinsFor_1 : decode cX0_coinsFor 1 = .ok (.istore_n 3, 1) := by decide +kernel
theorem dX0_coinsFor_2 : decode cX0_coinsFor 2 = .ok (.iconst 0, 1) := by decide +kernel
theorem dX0_coinsFor_3 : decode cX0_coinsFor 3 = .ok (.istore 4, 2) := by decide +kernel
theorem dX0_coinsFor_5 : decode cX0_coinsFor 5 = .ok (.iload 4, 2) := by decide +kernel
theorem dX0_coinsFor_7 : decode cX0_coinsFor 7 = .ok (.aload_n 0, 1) := by decide +kernel
theorem dX0_coinsFor_8 : decode cX0_coinsFor 8 = .ok (.getfield 51, 3) := by decide +kernel
theorem dX0_coinsFor_11 : decode cX0_coinsFor 11 = .ok (.if_icmp .ge 54, 3) := by decide +kernel
theorem dX0_coinsFor_14 : decode cX0_coinsFor 14 = .ok (.aload_n 0, 1) := by decide +kernel
theorem dX0_coinsFor_15 : decode cX0_coinsFor 15 = .ok (.getfield 45, 3) := by decide +kernel
theorem dX0_coinsFor_18 : decode cX0_coinsFor 18 = .ok (.iload 4, 2) := by decide +kernel
theorem dX0_coinsFor_20 : decode cX0_coinsFor 20 = .ok (.aload_n 0, 1) := by decide +kernel
theorem dX0_coinsFor_21 : decode cX0_coinsFor 21 = .ok (.iload 4, 2) := by decide +kernel
theorem dX0_coinsFor_23 : decode cX0_coinsFor 23 = .ok (.iload_n 1, 1) := by decide +kernel
theorem dX0_coinsFor_24 : decode cX0_coinsFor 24 = .ok (.invokevirtual 91, 3) := by decide +kernel
theorem dX0_coinsFor_27 : decode cX0_coinsFor 27 = .ok (.ifCond .eq 12, 3) := by decide +kernel
theorem dX0_coinsFor_30 : decode cX0_coinsFor 30 = .ok (.aload_n 0, 1) := by decide +kernel
theorem dX0_coinsFor_31 : decode cX0_coinsFor 31 = .ok (.iload 4, 2) := by decide +kernel
theorem dX0_coinsFor_33 : decode cX0_coinsFor 33 = .ok (.invokevirtual 94, 3) := by decide +kernel
theorem dX0_coinsFor_36 : decode cX0_coinsFor 36 = .ok (.goto 4, 3) := by decide +kernel
theorem dX0_coinsFor_39 : decode cX0_coinsFor 39 = .ok (.iconst 0, 1) := by decide +kernel
theorem dX0_coinsFor_40 : decode cX0_coinsFor 40 = .ok (.iastore, 1) := by decide +kernel
theorem dX0_coinsFor_41 : decode cX0_coinsFor 41 = .ok (.iload_n 3, 1) := by decide +kernel
theorem dX0_coinsFor_42 : decode cX0_coinsFor 42 = .ok (.aload_n 0, 1) := by decide +kernel
theorem dX0_coinsFor_43 : decode cX0_coinsFor 43 = .ok (.getfield 45, 3) := by decide +kernel
theorem dX0_coinsFor_46 : decode cX0_coinsFor 46 = .ok (.iload 4, 2) := by decide +kernel
theorem dX0_coinsFor_48 : decode cX0_coinsFor 48 = .ok (.iaload, 1) := by decide +kernel
theorem dX0_coinsFor_49 : decode cX0_coinsFor 49 = .ok (.iadd, 1) := by decide +kernel
theorem dX0_coinsFor_50 : decode cX0_coinsFor 50 = .ok (.istore_n 3, 1) := by decide +kernel
theorem dX0_coinsFor_51 : decode cX0_coinsFor 51 = .ok (.aload_n 0, 1) := by decide +kernel
theorem dX0_coinsFor_52 : decode cX0_coinsFor 52 = .ok (.getfield 48, 3) := by decide +kernel
theorem dX0_coinsFor_55 : decode cX0_coinsFor 55 = .ok (.iload 4, 2) := by decide +kernel
theorem dX0_coinsFor_57 : decode cX0_coinsFor 57 = .ok (.iload_n 3, 1) := by decide +kernel
theorem dX0_coinsFor_58 : decode cX0_coinsFor 58 = .ok (.iastore, 1) := by decide +kernel
theorem dX0_coinsFor_59 : decode cX0_coinsFor 59 = .ok (.iinc 4 1, 3) := by decide +kernel
theorem dX0_coinsFor_62 : decode cX0_coinsFor 62 = .ok (.goto (-57), 3) := by decide +kernel
theorem dX0_coinsFor_65 : decode cX0_coinsFor 65 = .ok (.iload_n 3, 1) := by decide +kernel
theorem dX0_coinsFor_66 : decode cX0_coinsFor 66 = .ok (.iload_n 2, 1) := by decide +kernel
theorem dX0_coinsFor_67 : decode cX0_coinsFor 67 = .ok (.if_icmp .ge 9, 3) := by decide +kernel
theorem dX0_coinsFor_70 : decode cX0_coinsFor 70 = .ok (.aload_n 0, 1) := by decide +kernel
theorem dX0_coinsFor_71 : decode cX0_coinsFor 71 = .ok (.iload_n 1, 1) := by decide +kernel
theorem dX0_coinsFor_72 : decode cX0_coinsFor 72 = .ok (.invokevirtual 98, 3) := by decide +kernel
theorem dX0_coinsFor_75 : decode cX0_coinsFor 75 = .ok (.ireturn, 1) := by decide +kernel
theorem dX0_coinsFor_76 : decode cX0_coinsFor 76 = .ok (.aload_n 0, 1) := by decide +kernel
theorem dX0_coinsFor_77 : decode cX0_coinsFor 77 = .ok (.getfield 45, 3) := by decide +kernel
theorem dX0_coinsFor_80 : decode cX0_coinsFor 80 = .ok (.aload_n 0, 1) := by decide +kernel
theorem dX0_coinsFor_81 : decode cX0_coinsFor 81 = .ok (.getfield 48, 3) := by decide +kernel
theorem dX0_coinsFor_84 : decode cX0_coinsFor 84 = .ok (.aload_n 0, 1) := by decide +kernel
theorem dX0_coinsFor_85 : decode cX0_coinsFor 85 = .ok (.getfield 51, 3) := by decide +kernel
theorem dX0_coinsFor_88 : decode cX0_coinsFor 88 = .ok (.iconst 1, 1) := by decide +kernel
theorem dX0_coinsFor_89 : decode cX0_coinsFor 89 = .ok (.isub, 1) := by decide +kernel
theorem dX0_coinsFor_90 : decode cX0_coinsFor 90 = .ok (.iconst 0, 1) := by decide +kernel
theorem dX0_coinsFor_91 : decode cX0_coinsFor 91 = .ok (.iload_n 2, 1) := by decide +kernel
theorem dX0_coinsFor_92 : decode cX0_coinsFor 92 = .ok (.ldc 113, 2) := by decide +kernel
theorem dX0_coinsFor_94 : decode cX0_coinsFor 94 = .ok (.invokestatic 114, 3) := by decide +kernel
theorem dX0_coinsFor_97 : decode cX0_coinsFor 97 = .ok (.sipush 4095, 3) := by decide +kernel
theorem dX0_coinsFor_100 : decode cX0_coinsFor 100 = .ok (.iand, 1) := by decide +kernel
theorem dX0_coinsFor_101 : decode cX0_coinsFor 101 = .ok (.ireturn, 1) := by decide +kernel
theorem dX0_cheapest_0 : decode cX0_cheapest 0 = .ok (.iload_n 3, 1) := by decide +kernel
theorem dX0_cheapest_1 : decode cX0_cheapest 1 = .ok (.bipush 12, 2) := by decide +kernel
theorem dX0_cheapest_3 : decode cX0_cheapest 3 = .ok (.ishr, 1) := by decide +kernel
theorem dX0_cheapest_4 : decode cX0_cheapest 4 = .ok (.istore 6, 2) := by decide +kernel
theorem dX0_cheapest_6 : decode cX0_cheapest 6 = .ok (.iload 6, 2) := by decide +kernel
theorem dX0_cheapest_8 : decode cX0_cheapest 8 = .ok (.iload 4, 2) := by decide +kernel
theorem dX0_cheapest_10 : decode cX0_cheapest 10 = .ok (.if_icmp .lt 10, 3) := by decide +kernel
theorem dX0_cheapest_13 : decode cX0_cheapest 13 = .ok (.iload_n 3, 1) := by decide +kernel
theorem dX0_cheapest_14 : decode cX0_cheapest 14 = .ok (.iload 5, 2) := by decide +kernel
theorem dX0_cheapest_16 : decode cX0_cheapest 16 = .ok (.invokestatic 118, 3) := by decide +kernel
theorem dX0_cheapest_19 : decode cX0_cheapest 19 = .ok (.ireturn, 1) := by decide +kernel
theorem dX0_cheapest_20 : decode cX0_cheapest 20 = .ok (.iload_n 2, 1) := by decide +kernel
theorem dX0_cheapest_21 : decode cX0_cheapest 21 = .ok (.ifCond .lt 30, 3) := by decide +kernel
theorem dX0_cheapest_24 : decode cX0_cheapest 24 = .ok (.iload_n 2, 1) := by decide +kernel
theorem dX0_cheapest_25 : decode cX0_cheapest 25 = .ok (.bipush 12, 2) := by decide +kernel
theorem dX0_cheapest_27 : decode cX0_cheapest 27 = .ok (.if_icmp .ge 24, 3) := by decide +kernel
theorem dX0_cheapest_30 : decode cX0_cheapest 30 = .ok (.iload 6, 2) := by decide +kernel
theorem dX0_cheapest_32 : decode cX0_cheapest 32 = .ok (.aload_n 1, 1) := by decide +kernel
theorem dX0_cheapest_33 : decode cX0_cheapest 33 = .ok (.iload_n 2, 1) := by decide +kernel
theorem dX0_cheapest_34 : decode cX0_cheapest 34 = .ok (.iaload, 1) := by decide +kernel
theorem dX0_cheapest_35 : decode cX0_cheapest 35 = .ok (.iadd, 1) := by decide +kernel
theorem dX0_cheapest_36 : decode cX0_cheapest 36 = .ok (.iload 4, 2) := by decide +kernel
theorem dX0_cheapest_38 : decode cX0_cheapest 38 = .ok (.if_icmp .lt 13, 3) := by decide +kernel
theorem dX0_cheapest_41 : decode cX0_cheapest 41 = .ok (.iload 5, 2) := by decide +kernel
theorem dX0_cheapest_43 : decode cX0_cheapest 43 = .ok (.bipush 12, 2) := by decide +kernel
theorem dX0_cheapest_45 : decode cX0_cheapest 45 = .ok (.ishr, 1) := by decide +kernel
theorem dX0_cheapest_46 : decode cX0_cheapest 46 = .ok (.iload 4, 2) := by decide +kernel
theorem dX0_cheapest_48 : decode cX0_cheapest 48 = .ok (.if_icmp .ne 6, 3) := by decide +kernel
theorem dX0_cheapest_51 : decode cX0_cheapest 51 = .ok (.iload 5, 2) := by decide +kernel
theorem dX0_cheapest_53 : decode cX0_cheapest 53 = .ok (.ireturn, 1) := by decide +kernel
theorem dX0_cheapest_54 : decode cX0_cheapest 54 = .ok (.aload_n 0, 1) := by decide +kernel
theorem dX0_cheapest_55 : decode cX0_cheapest 55 = .ok (.aload_n 1, 1) := by decide +kernel
theorem dX0_cheapest_56 : decode cX0_cheapest 56 = .ok (.iload_n 2, 1) := by decide +kernel
theorem dX0_cheapest_57 : decode cX0_cheapest 57 = .ok (.iconst 1, 1) := by decide +kernel
theorem dX0_cheapest_58 : decode cX0_cheapest 58 = .ok (.isub, 1) := by decide +kernel
theorem dX0_cheapest_59 : decode cX0_cheapest 59 = .ok (.iload_n 3, 1) := by decide +kernel
theorem dX0_cheapest_60 : decode cX0_cheapest 60 = .ok (.iload 4, 2) := by decide +kernel
theorem dX0_cheapest_62 : decode cX0_cheapest 62 = .ok (.iload 5, 2) := by decide +kernel
theorem dX0_cheapest_64 : decode cX0_cheapest 64 = .ok (.invokestatic 114, 3) := by decide +kernel
theorem dX0_cheapest_67 : decode cX0_cheapest 67 = .ok (.istore 7, 2) := by decide +kernel
theorem dX0_cheapest_69 : decode cX0_cheapest 69 = .ok (.aload_n 0, 1) := by decide +kernel
theorem dX0_cheapest_70 : decode cX0_cheapest 70 = .ok (.iload_n 2, 1) := by decide +kernel
theorem dX0_cheapest_71 : decode cX0_cheapest 71 = .ok (.iaload, 1) := by decide +kernel
theorem dX0_cheapest_72 : decode cX0_cheapest 72 = .ok (.ifCond .ne 6, 3) := by decide +kernel
theorem dX0_cheapest_75 : decode cX0_cheapest 75 = .ok (.iload 7, 2) := by decide +kernel
theorem dX0_cheapest_77 : decode cX0_cheapest 77 = .ok (.ireturn, 1) := by decide +kernel
theorem dX0_cheapest_78 : decode cX0_cheapest 78 = .ok (.iload_n 3, 1) := by decide +kernel
theorem dX0_cheapest_79 : decode cX0_cheapest 79 = .ok (.aload_n 0, 1) := by decide +kernel
theorem dX0_cheapest_80 : decode cX0_cheapest 80 = .ok (.iload_n 2, 1) := by decide +kernel
theorem dX0_cheapest_81 : decode cX0_cheapest 81 = .ok (.iaload, 1) := by decide +kernel
theorem dX0_cheapest_82 : decode cX0_cheapest 82 = .ok (.bipush 12, 2) := by decide +kernel
theorem dX0_cheapest_84 : decode cX0_cheapest 84 = .ok (.ishl, 1) := by decide +kernel
theorem dX0_cheapest_85 : decode cX0_cheapest 85 = .ok (.iadd, 1) := by decide +kernel
theorem dX0_cheapest_86 : decode cX0_cheapest 86 = .ok (.iconst 1, 1) := by decide +kernel
theorem dX0_cheapest_87 : decode cX0_cheapest 87 = .ok (.iload_n 2, 1) := by decide +kernel
theorem dX0_cheapest_88 : decode cX0_cheapest 88 = .ok (.ishl, 1) := by decide +kernel
theorem dX0_cheapest_89 : decode cX0_cheapest 89 = .ok (.iadd, 1) := by decide +kernel
theorem dX0_cheapest_90 : decode cX0_cheapest 90 = .ok (.istore 8, 2) := by decide +kernel
theorem dX0_cheapest_92 : decode cX0_cheapest 92 = .ok (.aload_n 0, 1) := by decide +kernel
theorem dX0_cheapest_93 : decode cX0_cheapest 93 = .ok (.aload_n 1, 1) := by decide +kernel
theorem dX0_cheapest_94 : decode cX0_cheapest 94 = .ok (.iload_n 2, 1) := by decide +kernel
theorem dX0_cheapest_95 : decode cX0_cheapest 95 = .ok (.iconst 1, 1) := by decide +kernel
theorem dX0_cheapest_96 : decode cX0_cheapest 96 = .ok (.isub, 1) := by decide +kernel
theorem dX0_cheapest_97 : decode cX0_cheapest 97 = .ok (.iload 8, 2) := by decide +kernel
theorem dX0_cheapest_99 : decode cX0_cheapest 99 = .ok (.iload 4, 2) := by decide +kernel
theorem dX0_cheapest_101 : decode cX0_cheapest 101 = .ok (.iload 7, 2) := by decide +kernel
theorem dX0_cheapest_103 : decode cX0_cheapest 103 = .ok (.invokestatic 114, 3) := by decide +kernel
theorem dX0_cheapest_106 : decode cX0_cheapest 106 = .ok (.ireturn, 1) := by decide +kernel
theorem dX0_addLoan_0 : decode cX0_addLoan 0 = .ok (.aload_n 0, 1) := by decide +kernel
theorem dX0_addLoan_1 : decode cX0_addLoan 1 = .ok (.getfield 55, 3) := by decide +kernel
theorem dX0_addLoan_4 : decode cX0_addLoan 4 = .ok (.istore 5, 2) := by decide +kernel
theorem dX0_addLoan_6 : decode cX0_addLoan 6 = .ok (.iload 5, 2) := by decide +kernel
theorem dX0_addLoan_8 : decode cX0_addLoan 8 = .ok (.bipush 8, 2) := by decide +kernel
theorem dX0_addLoan_10 : decode cX0_addLoan 10 = .ok (.if_icmp .lt 5, 3) := by decide +kernel
theorem dX0_addLoan_13 : decode cX0_addLoan 13 = .ok (.iconst (-1), 1) := by decide +kernel
theorem dX0_addLoan_14 : decode cX0_addLoan 14 = .ok (.ireturn, 1) := by decide +kernel
theorem dX0_addLoan_15 : decode cX0_addLoan 15 = .ok (.aload_n 0, 1) := by decide +kernel
theorem dX0_addLoan_16 : decode cX0_addLoan 16 = .ok (.getfield 30, 3) := by decide +kernel
theorem dX0_addLoan_19 : decode cX0_addLoan 19 = .ok (.iload 5, 2) := by decide +kernel
theorem dX0_addLoan_21 : decode cX0_addLoan 21 = .ok (.iload_n 1, 1) := by decide +kernel
theorem dX0_addLoan_22 : decode cX0_addLoan 22 = .ok (.iastore, 1) := by decide +kernel
theorem dX0_addLoan_23 : decode cX0_addLoan 23 = .ok (.aload_n 0, 1) := by decide +kernel
theorem dX0_addLoan_24 : decode cX0_addLoan 24 = .ok (.getfield 33, 3) := by decide +kernel
theorem dX0_addLoan_27 : decode cX0_addLoan 27 = .ok (.iload 5, 2) := by decide +kernel
theorem dX0_addLoan_29 : decode cX0_addLoan 29 = .ok (.iload_n 2, 1) := by decide +kernel
theorem dX0_addLoan_30 : decode cX0_addLoan 30 = .ok (.iastore, 1) := by decide +kernel
theorem dX0_addLoan_31 : decode cX0_addLoan 31 = .ok (.aload_n 0, 1) := by decide +kernel
theorem dX0_addLoan_32 : decode cX0_addLoan 32 = .ok (.getfield 36, 3) := by decide +kernel
theorem dX0_addLoan_35 : decode cX0_addLoan 35 = .ok (.iload 5, 2) := by decide +kernel
theorem dX0_addLoan_37 : decode cX0_addLoan 37 = .ok (.iload_n 3, 1) := by decide +kernel
theorem dX0_addLoan_38 : decode cX0_addLoan 38 = .ok (.iastore, 1) := by decide +kernel
theorem dX0_addLoan_39 : decode cX0_addLoan 39 = .ok (.aload_n 0, 1) := by decide +kernel
theorem dX0_addLoan_40 : decode cX0_addLoan 40 = .ok (.getfield 39, 3) := by decide +kernel
theorem dX0_addLoan_43 : decode cX0_addLoan 43 = .ok (.iload 5, 2) := by decide +kernel
theorem dX0_addLoan_45 : decode cX0_addLoan 45 = .ok (.aload_n 0, 1) := by decide +kernel
theorem dX0_addLoan_46 : decode cX0_addLoan 46 = .ok (.getfield 58, 3) := by decide +kernel
theorem dX0_addLoan_49 : decode cX0_addLoan 49 = .ok (.iload 4, 2) := by decide +kernel
theorem dX0_addLoan_51 : decode cX0_addLoan 51 = .ok (.iadd, 1) := by decide +kernel
theorem dX0_addLoan_52 : decode cX0_addLoan 52 = .ok (.iastore, 1) := by decide +kernel
theorem dX0_addLoan_53 : decode cX0_addLoan 53 = .ok (.aload_n 0, 1) := by decide +kernel
theorem dX0_addLoan_54 : decode cX0_addLoan 54 = .ok (.getfield 42, 3) := by decide +kernel
theorem dX0_addLoan_57 : decode cX0_addLoan 57 = .ok (.iload 5, 2) := by decide +kernel
theorem dX0_addLoan_59 : decode cX0_addLoan 59 = .ok (.iconst 0, 1) := by decide +kernel
theorem dX0_addLoan_60 : decode cX0_addLoan 60 = .ok (.iastore, 1) := by decide +kernel
theorem dX0_addLoan_61 : decode cX0_addLoan 61 = .ok (.aload_n 0, 1) := by decide +kernel
theorem dX0_addLoan_62 : decode cX0_addLoan 62 = .ok (.dup, 1) := by decide +kernel
theorem dX0_addLoan_63 : decode cX0_addLoan 63 = .ok (.getfield 55, 3) := by decide +kernel
theorem dX0_addLoan_66 : decode cX0_addLoan 66 = .ok (.iconst 1, 1) := by decide +kernel
theorem dX0_addLoan_67 : decode cX0_addLoan 67 = .ok (.iadd, 1) := by decide +kernel
theorem dX0_addLoan_68 : decode cX0_addLoan 68 = .ok (.putfield 55, 3) := by decide +kernel
theorem dX0_addLoan_71 : decode cX0_addLoan 71 = .ok (.iload 5, 2) := by decide +kernel
theorem dX0_addLoan_73 : decode cX0_addLoan 73 = .ok (.ireturn, 1) := by decide +kernel
theorem dX0_unpaid_0 : decode cX0_unpaid 0 = .ok (.iconst 0, 1) := by decide +kernel
theorem dX0_unpaid_1 : decode cX0_unpaid 1 = .ok (.istore_n 1, 1) := by decide +kernel
theorem dX0_unpaid_2 : decode cX0_unpaid 2 = .ok (.iconst 0, 1) := by decide +kernel
theorem dX0_unpaid_3 : decode cX0_unpaid 3 = .ok (.istore_n 2, 1) := by decide +kernel
theorem dX0_unpaid_4 : decode cX0_unpaid 4 = .ok (.iload_n 2, 1) := by decide +kernel
theorem dX0_unpaid_5 : decode cX0_unpaid 5 = .ok (.aload_n 0, 1) := by decide +kernel
theorem dX0_unpaid_6 : decode cX0_unpaid 6 = .ok (.getfield 55, 3) := by decide +kernel
theorem dX0_unpaid_9 : decode cX0_unpaid 9 = .ok (.if_icmp .ge 20, 3) := by decide +kernel
theorem dX0_unpaid_12 : decode cX0_unpaid 12 = .ok (.iload_n 1, 1) := by decide +kernel
theorem dX0_unpaid_13 : decode cX0_unpaid 13 = .ok (.iconst 1, 1) := by decide +kernel
theorem dX0_unpaid_14 : decode cX0_unpaid 14 = .ok (.aload_n 0, 1) := by decide +kernel
theorem dX0_unpaid_15 : decode cX0_unpaid 15 = .ok (.getfield 42, 3) := by decide +kernel
theorem dX0_unpaid_18 : decode cX0_unpaid 18 = .ok (.iload_n 2, 1) := by decide +kernel
theorem dX0_unpaid_19 : decode cX0_unpaid 19 = .ok (.iaload, 1) := by decide +kernel
theorem dX0_unpaid_20 : decode cX0_unpaid 20 = .ok (.isub, 1) := by decide +kernel
theorem dX0_unpaid_21 : decode cX0_unpaid 21 = .ok (.iadd, 1) := by decide +kernel
theorem dX0_unpaid_22 : decode cX0_unpaid 22 = .ok (.istore_n 1, 1) := by decide +kernel
theorem dX0_unpaid_23 : decode cX0_unpaid 23 = .ok (.iinc 2 1, 3) := by decide +kernel
theorem dX0_unpaid_26 : decode cX0_unpaid 26 = .ok (.goto (-22), 3) := by decide +kernel
theorem dX0_unpaid_29 : decode cX0_unpaid 29 = .ok (.iload_n 1, 1) := by decide +kernel
theorem dX0_unpaid_30 : decode cX0_unpaid 30 = .ok (.ireturn, 1) := by decide +kernel
theorem dX0_payDue_0 : decode cX0_payDue 0 = .ok (.iconst 0, 1) := by decide +kernel
theorem dX0_payDue_1 : decode cX0_payDue 1 = .ok (.istore_n 1, 1) := by decide +kernel
theorem dX0_payDue_2 : decode cX0_payDue 2 = .ok (.iload_n 1, 1) := by decide +kernel
theorem dX0_payDue_3 : decode cX0_payDue 3 = .ok (.aload_n 0, 1) := by decide +kernel
theorem dX0_payDue_4 : decode cX0_payDue 4 = .ok (.getfield 55, 3) := by decide +kernel
theorem dX0_payDue_7 : decode cX0_payDue 7 = .ok (.if_icmp .ge 61, 3) := by decide +kernel
theorem dX0_payDue_10 : decode cX0_payDue 10 = .ok (.aload_n 0, 1) := by decide +kernel
theorem dX0_payDue_11 : decode cX0_payDue 11 = .ok (.getfield 39, 3) := by decide +kernel
theorem dX0_payDue_14 : decode cX0_payDue 14 = .ok (.iload_n 1, 1) := by decide +kernel
theorem dX0_payDue_15 : decode cX0_payDue 15 = .ok (.iaload, 1) := by decide +kernel
theorem dX0_payDue_16 : decode cX0_payDue 16 = .ok (.aload_n 0, 1) := by decide +kernel
theorem dX0_payDue_17 : decode cX0_payDue 17 = .ok (.getfield 58, 3) := by decide +kernel
theorem dX0_payDue_20 : decode cX0_payDue 20 = .ok (.if_icmp .ne 42, 3) := by decide +kernel
theorem dX0_payDue_23 : decode cX0_payDue 23 = .ok (.aload_n 0, 1) := by decide +kernel
theorem dX0_payDue_24 : decode cX0_payDue 24 = .ok (.getfield 42, 3) := by decide +kernel
theorem dX0_payDue_27 : decode cX0_payDue 27 = .ok (.iload_n 1, 1) := by decide +kernel
theorem dX0_payDue_28 : decode cX0_payDue 28 = .ok (.iaload, 1) := by decide +kernel
theorem dX0_payDue_29 : decode cX0_payDue 29 = .ok (.ifCond .ne 33, 3) := by decide +kernel
theorem dX0_payDue_32 : decode cX0_payDue 32 = .ok (.aload_n 0, 1) := by decide +kernel
theorem dX0_payDue_33 : decode cX0_payDue 33 = .ok (.aload_n 0, 1) := by decide +kernel
theorem dX0_payDue_34 : decode cX0_payDue 34 = .ok (.getfield 30, 3) := by decide +kernel
theorem dX0_payDue_37 : decode cX0_payDue 37 = .ok (.iload_n 1, 1) := by decide +kernel
theorem dX0_payDue_38 : decode cX0_payDue 38 = .ok (.iaload, 1) := by decide +kernel
theorem dX0_payDue_39 : decode cX0_payDue 39 = .ok (.aload_n 0, 1) := by decide +kernel
theorem dX0_payDue_40 : decode cX0_payDue 40 = .ok (.getfield 33, 3) := by decide +kernel
theorem dX0_payDue_43 : decode cX0_payDue 43 = .ok (.iload_n 1, 1) := by decide +kernel
theorem dX0_payDue_44 : decode cX0_payDue 44 = .ok (.iaload, 1) := by decide +kernel
theorem dX0_payDue_45 : decode cX0_payDue 45 = .ok (.aload_n 0, 1) := by decide +kernel
theorem dX0_payDue_46 : decode cX0_payDue 46 = .ok (.getfield 36, 3) := by decide +kernel
theorem dX0_payDue_49 : decode cX0_payDue 49 = .ok (.iload_n 1, 1) := by decide +kernel
theorem dX0_payDue_50 : decode cX0_payDue 50 = .ok (.iaload, 1) := by decide +kernel
theorem dX0_payDue_51 : decode cX0_payDue 51 = .ok (.invokevirtual 121, 3) := by decide +kernel
theorem dX0_payDue_54 : decode cX0_payDue 54 = .ok (.pop, 1) := by decide +kernel
theorem dX0_payDue_55 : decode cX0_payDue 55 = .ok (.aload_n 0, 1) := by decide +kernel
theorem dX0_payDue_56 : decode cX0_payDue 56 = .ok (.getfield 42, 3) := by decide +kernel
theorem dX0_payDue_59 : decode cX0_payDue 59 = .ok (.iload_n 1, 1) := by decide +kernel
theorem dX0_payDue_60 : decode cX0_payDue 60 = .ok (.iconst 1, 1) := by decide +kernel
theorem dX0_payDue_61 : decode cX0_payDue 61 = .ok (.iastore, 1) := by decide +kernel
theorem dX0_payDue_62 : decode cX0_payDue 62 = .ok (.iinc 1 1, 3) := by decide +kernel
theorem dX0_payDue_65 : decode cX0_payDue 65 = .ok (.goto (-63), 3) := by decide +kernel
theorem dX0_payDue_68 : decode cX0_payDue 68 = .ok (.return_, 1) := by decide +kernel
theorem dX0_goOn_0 : decode cX0_goOn 0 = .ok (.iconst 0, 1) := by decide +kernel
theorem dX0_goOn_1 : decode cX0_goOn 1 = .ok (.istore_n 2, 1) := by decide +kernel
theorem dX0_goOn_2 : decode cX0_goOn 2 = .ok (.iload_n 2, 1) := by decide +kernel
theorem dX0_goOn_3 : decode cX0_goOn 3 = .ok (.iload_n 1, 1) := by decide +kernel
theorem dX0_goOn_4 : decode cX0_goOn 4 = .ok (.if_icmp .ge 17, 3) := by decide +kernel
theorem dX0_goOn_7 : decode cX0_goOn 7 = .ok (.aload_n 0, 1) := by decide +kernel
theorem dX0_goOn_8 : decode cX0_goOn 8 = .ok (.invokevirtual 125, 3) := by decide +kernel
theorem dX0_goOn_11 : decode cX0_goOn 11 = .ok (.aload_n 0, 1) := by decide +kernel
theorem dX0_goOn_12 : decode cX0_goOn 12 = .ok (.invokevirtual 128, 3) := by decide +kernel
theorem dX0_goOn_15 : decode cX0_goOn 15 = .ok (.iinc 2 1, 3) := by decide +kernel
theorem dX0_goOn_18 : decode cX0_goOn 18 = .ok (.goto (-16), 3) := by decide +kernel
theorem dX0_goOn_21 : decode cX0_goOn 21 = .ok (.return_, 1) := by decide +kernel
theorem dX0_age_0 : decode cX0_age 0 = .ok (.iconst 0, 1) := by decide +kernel
theorem dX0_age_1 : decode cX0_age 1 = .ok (.istore_n 2, 1) := by decide +kernel
theorem dX0_age_2 : decode cX0_age 2 = .ok (.iload_n 2, 1) := by decide +kernel
theorem dX0_age_3 : decode cX0_age 3 = .ok (.iload_n 1, 1) := by decide +kernel
theorem dX0_age_4 : decode cX0_age 4 = .ok (.if_icmp .ge 13, 3) := by decide +kernel
theorem dX0_age_7 : decode cX0_age 7 = .ok (.aload_n 0, 1) := by decide +kernel
theorem dX0_age_8 : decode cX0_age 8 = .ok (.invokevirtual 125, 3) := by decide +kernel
theorem dX0_age_11 : decode cX0_age 11 = .ok (.iinc 2 1, 3) := by decide +kernel
theorem dX0_age_14 : decode cX0_age 14 = .ok (.goto (-12), 3) := by decide +kernel
theorem dX0_age_17 : decode cX0_age 17 = .ok (.return_, 1) := by decide +kernel
theorem dX0_ageOnce_0 : decode cX0_ageOnce 0 = .ok (.aload_n 0, 1) := by decide +kernel
theorem dX0_ageOnce_1 : decode cX0_ageOnce 1 = .ok (.invokevirtual 84, 3) := by decide +kernel
theorem dX0_ageOnce_4 : decode cX0_ageOnce 4 = .ok (.istore_n 1, 1) := by decide +kernel
theorem dX0_ageOnce_5 : decode cX0_ageOnce 5 = .ok (.aload_n 0, 1) := by decide +kernel
theorem dX0_ageOnce_6 : decode cX0_ageOnce 6 = .ok (.invokevirtual 131, 3) := by decide +kernel
theorem dX0_ageOnce_9 : decode cX0_ageOnce 9 = .ok (.istore_n 2, 1) := by decide +kernel
theorem dX0_ageOnce_10 : decode cX0_ageOnce 10 = .ok (.iload_n 2, 1) := by decide +kernel
theorem dX0_ageOnce_11 : decode cX0_ageOnce 11 = .ok (.iconst 1, 1) := by decide +kernel
theorem dX0_ageOnce_12 : decode cX0_ageOnce 12 = .ok (.ishl, 1) := by decide +kernel
theorem dX0_ageOnce_13 : decode cX0_ageOnce 13 = .ok (.iload_n 2, 1) := by decide +kernel
theorem dX0_ageOnce_14 : decode cX0_ageOnce 14 = .ok (.iconst 1, 1) := by decide +kernel
theorem dX0_ageOnce_15 : decode cX0_ageOnce 15 = .ok (.ishr, 1) := by decide +kernel
theorem dX0_ageOnce_16 : decode cX0_ageOnce 16 = .ok (.ior, 1) := by decide +kernel
theorem dX0_ageOnce_17 : decode cX0_ageOnce 17 = .ok (.istore_n 3, 1) := by decide +kernel
theorem dX0_ageOnce_18 : decode cX0_ageOnce 18 = .ok (.iconst 0, 1) := by decide +kernel
theorem dX0_ageOnce_19 : decode cX0_ageOnce 19 = .ok (.istore 4, 2) := by decide +kernel
theorem dX0_ageOnce_21 : decode cX0_ageOnce 21 = .ok (.iload 4, 2) := by decide +kernel
theorem dX0_ageOnce_23 : decode cX0_ageOnce 23 = .ok (.aload_n 0, 1) := by decide +kernel
theorem dX0_ageOnce_24 : decode cX0_ageOnce 24 = .ok (.getfield 51, 3) := by decide +kernel
theorem dX0_ageOnce_27 : decode cX0_ageOnce 27 = .ok (.if_icmp .ge 67, 3) := by decide +kernel
theorem dX0_ageOnce_30 : decode cX0_ageOnce 30 = .ok (.aload_n 0, 1) := by decide +kernel
theorem dX0_ageOnce_31 : decode cX0_ageOnce 31 = .ok (.getfield 21, 3) := by decide +kernel
theorem dX0_ageOnce_34 : decode cX0_ageOnce 34 = .ok (.iload 4, 2) := by decide +kernel
theorem dX0_ageOnce_36 : decode cX0_ageOnce 36 = .ok (.iaload, 1) := by decide +kernel
theorem dX0_ageOnce_37 : decode cX0_ageOnce 37 = .ok (.ifCond .ne 28, 3) := by decide +kernel
theorem dX0_ageOnce_40 : decode cX0_ageOnce 40 = .ok (.aload_n 0, 1) := by decide +kernel
theorem dX0_ageOnce_41 : decode cX0_ageOnce 41 = .ok (.iload 4, 2) := by decide +kernel
theorem dX0_ageOnce_43 : decode cX0_ageOnce 43 = .ok (.iload_n 1, 1) := by decide +kernel
theorem dX0_ageOnce_44 : decode cX0_ageOnce 44 = .ok (.iload_n 3, 1) := by decide +kernel
theorem dX0_ageOnce_45 : decode cX0_ageOnce 45 = .ok (.iload 4, 2) := by decide +kernel
theorem dX0_ageOnce_47 : decode cX0_ageOnce 47 = .ok (.ishr, 1) := by decide +kernel
theorem dX0_ageOnce_48 : decode cX0_ageOnce 48 = .ok (.iconst 1, 1) := by decide +kernel
theorem dX0_ageOnce_49 : decode cX0_ageOnce 49 = .ok (.iand, 1) := by decide +kernel
theorem dX0_ageOnce_50 : decode cX0_ageOnce 50 = .ok (.iconst 1, 1) := by decide +kernel
theorem dX0_ageOnce_51 : decode cX0_ageOnce 51 = .ok (.if_icmp .ne 7, 3) := by decide +kernel
theorem dX0_ageOnce_54 : decode cX0_ageOnce 54 = .ok (.iconst 1, 1) := by decide +kernel
theorem dX0_ageOnce_55 : decode cX0_ageOnce 55 = .ok (.goto 4, 3) := by decide +kernel
theorem dX0_ageOnce_58 : decode cX0_ageOnce 58 = .ok (.iconst 0, 1) := by decide +kernel
theorem dX0_ageOnce_59 : decode cX0_ageOnce 59 = .ok (.invokevirtual 134, 3) := by decide +kernel
theorem dX0_ageOnce_62 : decode cX0_ageOnce 62 = .ok (.goto 26, 3) := by decide +kernel
theorem dX0_ageOnce_65 : decode cX0_ageOnce 65 = .ok (.aload_n 0, 1) := by decide +kernel
theorem dX0_ageOnce_66 : decode cX0_ageOnce 66 = .ok (.getfield 21, 3) := by decide +kernel
theorem dX0_ageOnce_69 : decode cX0_ageOnce 69 = .ok (.iload 4, 2) := by decide +kernel
theorem dX0_ageOnce_71 : decode cX0_ageOnce 71 = .ok (.iaload, 1) := by decide +kernel
theorem dX0_ageOnce_72 : decode cX0_ageOnce 72 = .ok (.iconst 2, 1) := by decide +kernel
theorem dX0_ageOnce_73 : decode cX0_ageOnce 73 = .ok (.if_icmp .ne 15, 3) := by decide +kernel
theorem dX0_ageOnce_76 : decode cX0_ageOnce 76 = .ok (.iload_n 1, 1) := by decide +kernel
theorem dX0_ageOnce_77 : decode cX0_ageOnce 77 = .ok (.bipush 8, 2) := by decide +kernel
theorem dX0_ageOnce_79 : decode cX0_ageOnce 79 = .ok (.if_icmp .ne 9, 3) := by decide +kernel
theorem dX0_ageOnce_82 : decode cX0_ageOnce 82 = .ok (.aload_n 0, 1) := by decide +kernel
theorem dX0_ageOnce_83 : decode cX0_ageOnce 83 = .ok (.iload 4, 2) := by decide +kernel
theorem dX0_ageOnce_85 : decode cX0_ageOnce 85 = .ok (.invokevirtual 138, 3) := by decide +kernel
theorem dX0_ageOnce_88 : decode cX0_ageOnce 88 = .ok (.iinc 4 1, 3) := by decide +kernel
theorem dX0_ageOnce_91 : decode cX0_ageOnce 91 = .ok (.goto (-70), 3) := by decide +kernel
theorem dX0_ageOnce_94 : decode cX0_ageOnce 94 = .ok (.aload_n 0, 1) := by decide +kernel
theorem dX0_ageOnce_95 : decode cX0_ageOnce 95 = .ok (.dup, 1) := by decide +kernel
theorem dX0_ageOnce_96 : decode cX0_ageOnce 96 = .ok (.getfield 58, 3) := by decide +kernel
theorem dX0_ageOnce_99 : decode cX0_ageOnce 99 = .ok (.iconst 1, 1) := by decide +kernel
theorem dX0_ageOnce_100 : decode cX0_ageOnce 100 = .ok (.iadd, 1) := by decide +kernel
theorem dX0_ageOnce_101 : decode cX0_ageOnce 101 = .ok (.putfield 58, 3) := by decide +kernel
theorem dX0_ageOnce_104 : decode cX0_ageOnce 104 = .ok (.return_, 1) := by decide +kernel
theorem dX0_rottenSet_0 : decode cX0_rottenSet 0 = .ok (.iconst 0, 1) := by decide +kernel
theorem dX0_rottenSet_1 : decode cX0_rottenSet 1 = .ok (.istore_n 1, 1) := by decide +kernel
theorem dX0_rottenSet_2 : decode cX0_rottenSet 2 = .ok (.iconst 0, 1) := by decide +kernel
theorem dX0_rottenSet_3 : decode cX0_rottenSet 3 = .ok (.istore_n 2, 1) := by decide +kernel
theorem dX0_rottenSet_4 : decode cX0_rottenSet 4 = .ok (.iload_n 2, 1) := by decide +kernel
theorem dX0_rottenSet_5 : decode cX0_rottenSet 5 = .ok (.aload_n 0, 1) := by decide +kernel
theorem dX0_rottenSet_6 : decode cX0_rottenSet 6 = .ok (.getfield 51, 3) := by decide +kernel
theorem dX0_rottenSet_9 : decode cX0_rottenSet 9 = .ok (.if_icmp .ge 25, 3) := by decide +kernel
theorem dX0_rottenSet_12 : decode cX0_rottenSet 12 = .ok (.aload_n 0, 1) := by decide +kernel
theorem dX0_rottenSet_13 : decode cX0_rottenSet 13 = .ok (.getfield 21, 3) := by decide +kernel
theorem dX0_rottenSet_16 : decode cX0_rottenSet 16 = .ok (.iload_n 2, 1) := by decide +kernel
theorem dX0_rottenSet_17 : decode cX0_rottenSet 17 = .ok (.iaload, 1) := by decide +kernel
theorem dX0_rottenSet_18 : decode cX0_rottenSet 18 = .ok (.iconst 1, 1) := by decide +kernel
theorem dX0_rottenSet_19 : decode cX0_rottenSet 19 = .ok (.if_icmp .ne 9, 3) := by decide +kernel
theorem dX0_rottenSet_22 : decode cX0_rottenSet 22 = .ok (.iload_n 1, 1) := by decide +kernel
theorem dX0_rottenSet_23 : decode cX0_rottenSet 23 = .ok (.iconst 1, 1) := by decide +kernel
theorem dX0_rottenSet_24 : decode cX0_rottenSet 24 = .ok (.iload_n 2, 1) := by decide +kernel
theorem dX0_rottenSet_25 : decode cX0_rottenSet 25 = .ok (.ishl, 1) := by decide +kernel
theorem dX0_rottenSet_26 : decode cX0_rottenSet 26 = .ok (.ior, 1) := by decide +kernel
theorem dX0_rottenSet_27 : decode cX0_rottenSet 27 = .ok (.istore_n 1, 1) := by decide +kernel
theorem dX0_rottenSet_28 : decode cX0_rottenSet 28 = .ok (.iinc 2 1, 3) := by decide +kernel
theorem dX0_rottenSet_31 : decode cX0_rottenSet 31 = .ok (.goto (-27), 3) := by decide +kernel
theorem dX0_rottenSet_34 : decode cX0_rottenSet 34 = .ok (.iload_n 1, 1) := by decide +kernel
theorem dX0_rottenSet_35 : decode cX0_rottenSet 35 = .ok (.ireturn, 1) := by decide +kernel
theorem dX0_shrinkOne_0 : decode cX0_shrinkOne 0 = .ok (.aload_n 0, 1) := by decide +kernel
theorem dX0_shrinkOne_1 : decode cX0_shrinkOne 1 = .ok (.getfield 9, 3) := by decide +kernel
theorem dX0_shrinkOne_4 : decode cX0_shrinkOne 4 = .ok (.iload_n 1, 1) := by decide +kernel
theorem dX0_shrinkOne_5 : decode cX0_shrinkOne 5 = .ok (.iaload, 1) := by decide +kernel
theorem dX0_shrinkOne_6 : decode cX0_shrinkOne 6 = .ok (.istore 4, 2) := by decide +kernel
theorem dX0_shrinkOne_8 : decode cX0_shrinkOne 8 = .ok (.iconst 0, 1) := by decide +kernel
theorem dX0_shrinkOne_9 : decode cX0_shrinkOne 9 = .ok (.aload_n 0, 1) := by decide +kernel
theorem dX0_shrinkOne_10 : decode cX0_shrinkOne 10 = .ok (.getfield 18, 3) := by decide +kernel
theorem dX0_shrinkOne_13 : decode cX0_shrinkOne 13 = .ok (.iload_n 1, 1) := by decide +kernel
theorem dX0_shrinkOne_14 : decode cX0_shrinkOne 14 = .ok (.iaload, 1) := by decide +kernel
theorem dX0_shrinkOne_15 : decode cX0_shrinkOne 15 = .ok (.iload 4, 2) := by decide +kernel
theorem dX0_shrinkOne_17 : decode cX0_shrinkOne 17 = .ok (.iload_n 2, 1) := by decide +kernel
theorem dX0_shrinkOne_18 : decode cX0_shrinkOne 18 = .ok (.invokestatic 142, 3) := by decide +kernel
theorem dX0_shrinkOne_21 : decode cX0_shrinkOne 21 = .ok (.isub, 1) := by decide +kernel
theorem dX0_shrinkOne_22 : decode cX0_shrinkOne 22 = .ok (.invokestatic 70, 3) := by decide +kernel
theorem dX0_shrinkOne_25 : decode cX0_shrinkOne 25 = .ok (.istore 5, 2) := by decide +kernel
theorem dX0_shrinkOne_27 : decode cX0_shrinkOne 27 = .ok (.aload_n 0, 1) := by decide +kernel
theorem dX0_shrinkOne_28 : decode cX0_shrinkOne 28 = .ok (.getfield 18, 3) := by decide +kernel
theorem dX0_shrinkOne_31 : decode cX0_shrinkOne 31 = .ok (.iload_n 1, 1) := by decide +kernel
theorem dX0_shrinkOne_32 : decode cX0_shrinkOne 32 = .ok (.iload 5, 2) := by decide +kernel
theorem dX0_shrinkOne_34 : decode cX0_shrinkOne 34 = .ok (.iastore, 1) := by decide +kernel
theorem dX0_shrinkOne_35 : decode cX0_shrinkOne 35 = .ok (.iload 5, 2) := by decide +kernel
theorem dX0_shrinkOne_37 : decode cX0_shrinkOne 37 = .ok (.ifCond .eq 15, 3) := by decide +kernel
theorem dX0_shrinkOne_40 : decode cX0_shrinkOne 40 = .ok (.iload_n 3, 1) := by decide +kernel
theorem dX0_shrinkOne_41 : decode cX0_shrinkOne 41 = .ok (.ifCond .eq 18, 3) := by decide +kernel
theorem dX0_shrinkOne_44 : decode cX0_shrinkOne 44 = .ok (.iload 4, 2) := by decide +kernel
theorem dX0_shrinkOne_46 : decode cX0_shrinkOne 46 = .ok (.invokestatic 145, 3) := by decide +kernel
theorem dX0_shrinkOne_49 : decode cX0_shrinkOne 49 = .ok (.ifCond .eq 10, 3) := by decide +kernel
theorem dX0_shrinkOne_52 : decode cX0_shrinkOne 52 = .ok (.aload_n 0, 1) := by decide +kernel
theorem dX0_shrinkOne_53 : decode cX0_shrinkOne 53 = .ok (.getfield 21, 3) := by decide +kernel
theorem dX0_shrinkOne_56 : decode cX0_shrinkOne 56 = .ok (.iload_n 1, 1) := by decide +kernel
theorem dX0_shrinkOne_57 : decode cX0_shrinkOne 57 = .ok (.iconst 1, 1) := by decide +kernel
theorem dX0_shrinkOne_58 : decode cX0_shrinkOne 58 = .ok (.iastore, 1) := by decide +kernel
theorem dX0_shrinkOne_59 : decode cX0_shrinkOne 59 = .ok (.return_, 1) := by decide +kernel
theorem dX0_harvestOne_0 : decode cX0_harvestOne 0 = .ok (.bipush 99, 2) := by decide +kernel
theorem dX0_harvestOne_2 : decode cX0_harvestOne 2 = .ok (.aload_n 0, 1) := by decide +kernel
theorem dX0_harvestOne_3 : decode cX0_harvestOne 3 = .ok (.getfield 18, 3) := by decide +kernel
theorem dX0_harvestOne_6 : decode cX0_harvestOne 6 = .ok (.iload_n 1, 1) := by decide +kernel
theorem dX0_harvestOne_7 : decode cX0_harvestOne 7 = .ok (.iaload, 1) := by decide +kernel
theorem dX0_harvestOne_8 : decode cX0_harvestOne 8 = .ok (.aload_n 0, 1) := by decide +kernel
theorem dX0_harvestOne_9 : decode cX0_harvestOne 9 = .ok (.iload_n 1, 1) := by decide +kernel
theorem dX0_harvestOne_10 : decode cX0_harvestOne 10 = .ok (.invokevirtual 149, 3) := by decide +kernel
theorem dX0_harvestOne_13 : decode cX0_harvestOne 13 = .ok (.imul, 1) := by decide +kernel
theorem dX0_harvestOne_14 : decode cX0_harvestOne 14 = .ok (.invokestatic 118, 3) := by decide +kernel
theorem dX0_harvestOne_17 : decode cX0_harvestOne 17 = .ok (.istore_n 2, 1) := by decide +kernel
theorem dX0_harvestOne_18 : decode cX0_harvestOne 18 = .ok (.aload_n 0, 1) := by decide +kernel
theorem dX0_harvestOne_19 : decode cX0_harvestOne 19 = .ok (.getfield 18, 3) := by decide +kernel
theorem dX0_harvestOne_22 : decode cX0_harvestOne 22 = .ok (.iload_n 1, 1) := by decide +kernel
theorem dX0_harvestOne_23 : decode cX0_harvestOne 23 = .ok (.iload_n 2, 1) := by decide +kernel
theorem dX0_harvestOne_24 : decode cX0_harvestOne 24 = .ok (.iastore, 1) := by decide +kernel
theorem dX0_harvestOne_25 : decode cX0_harvestOne 25 = .ok (.aload_n 0, 1) := by decide +kernel
theorem dX0_harvestOne_26 : decode cX0_harvestOne 26 = .ok (.getfield 21, 3) := by decide +kernel
theorem dX0_harvestOne_29 : decode cX0_harvestOne 29 = .ok (.iload_n 1, 1) := by decide +kernel
theorem dX0_harvestOne_30 : decode cX0_harvestOne 30 = .ok (.iload_n 2, 1) := by decide +kernel
theorem dX0_harvestOne_31 : decode cX0_harvestOne 31 = .ok (.ifCond .ne 7, 3) := by decide +kernel
theorem dX0_harvestOne_34 : decode cX0_harvestOne 34 = .ok (.iconst 1, 1) := by decide +kernel
theorem dX0_harvestOne_35 : decode cX0_harvestOne 35 = .ok (.goto 4, 3) := by decide +kernel
theorem dX0_harvestOne_38 : decode cX0_harvestOne 38 = .ok (.iconst 0, 1) := by decide +kernel
theorem dX0_harvestOne_39 : decode cX0_harvestOne 39 = .ok (.iastore, 1) := by decide +kernel
theorem dX0_harvestOne_40 : decode cX0_harvestOne 40 = .ok (.return_, 1) := by decide +kernel
theorem dX1_init_0 : decode cX1_init 0 = .ok (.aload_n 0, 1) := by decide +kernel
theorem dX1_init_1 : decode cX1_init 1 = .ok (.invokespecial 3, 3) := by decide +kernel
theorem dX1_init_4 : decode cX1_init 4 = .ok (.aload_n 0, 1) := by decide +kernel
theorem dX1_init_5 : decode cX1_init 5 = .ok (.bipush 40, 2) := by decide +kernel
theorem dX1_init_7 : decode cX1_init 7 = .ok (.newarray .long, 2) := by decide +kernel
theorem dX1_init_9 : decode cX1_init 9 = .ok (.putfield 9, 3) := by decide +kernel
theorem dX1_init_12 : decode cX1_init 12 = .ok (.return_, 1) := by decide +kernel
theorem dX1_isMissing_0 : decode cX1_isMissing 0 = .ok (.aload_n 0, 1) := by decide +kernel
theorem dX1_isMissing_1 : decode cX1_isMissing 1 = .ok (.getfield 15, 3) := by decide +kernel
theorem dX1_isMissing_4 : decode cX1_isMissing 4 = .ok (.ifCond .ne 7, 3) := by decide +kernel
theorem dX1_isMissing_7 : decode cX1_isMissing 7 = .ok (.iconst 1, 1) := by decide +kernel
theorem dX1_isMissing_8 : decode cX1_isMissing 8 = .ok (.goto 4, 3) := by decide +kernel
theorem dX1_isMissing_11 : decode cX1_isMissing 11 = .ok (.iconst 0, 1) := by decide +kernel
theorem dX1_isMissing_12 : decode cX1_isMissing 12 = .ok (.ireturn, 1) := by decide +kernel
theorem dX1_begin_0 : decode cX1_begin 0 = .ok (.aload_n 0, 1) := by decide +kernel
theorem dX1_begin_1 : decode cX1_begin 1 = .ok (.iload_n 1, 1) := by decide +kernel
theorem dX1_begin_2 : decode cX1_begin 2 = .ok (.putfield 15, 3) := by decide +kernel
theorem dX1_begin_5 : decode cX1_begin 5 = .ok (.aload_n 0, 1) := by decide +kernel
theorem dX1_begin_6 : decode cX1_begin 6 = .ok (.iload_n 1, 1) := by decide +kernel
theorem dX1_begin_7 : decode cX1_begin 7 = .ok (.ifCond .ne 7, 3) := by decide +kernel
theorem dX1_begin_10 : decode cX1_begin 10 = .ok (.iconst 0, 1) := by decide +kernel
theorem dX1_begin_11 : decode cX1_begin 11 = .ok (.goto 4, 3) := by decide +kernel
theorem dX1_begin_14 : decode cX1_begin 14 = .ok (.iload_n 2, 1) := by decide +kernel
theorem dX1_begin_15 : decode cX1_begin 15 = .ok (.putfield 19, 3) := by decide +kernel
theorem dX1_begin_18 : decode cX1_begin 18 = .ok (.iconst 0, 1) := by decide +kernel
theorem dX1_begin_19 : decode cX1_begin 19 = .ok (.istore_n 3, 1) := by decide +kernel
theorem dX1_begin_20 : decode cX1_begin 20 = .ok (.iload_n 3, 1) := by decide +kernel
theorem dX1_begin_21 : decode cX1_begin 21 = .ok (.bipush 40, 2) := by decide +kernel
theorem dX1_begin_23 : decode cX1_begin 23 = .ok (.if_icmp .ge 16, 3) := by decide +kernel
theorem dX1_begin_26 : decode cX1_begin 26 = .ok (.aload_n 0, 1) := by decide +kernel
theorem dX1_begin_27 : decode cX1_begin 27 = .ok (.getfield 9, 3) := by decide +kernel
theorem dX1_begin_30 : decode cX1_begin 30 = .ok (.iload_n 3, 1) := by decide +kernel
theorem dX1_begin_31 : decode cX1_begin 31 = .ok (.lconst 0, 1) := by decide +kernel
theorem dX1_begin_32 : decode cX1_begin 32 = .ok (.lastore, 1) := by decide +kernel
theorem dX1_begin_33 : decode cX1_begin 33 = .ok (.iinc 3 1, 3) := by decide +kernel
theorem dX1_begin_36 : decode cX1_begin 36 = .ok (.goto (-16), 3) := by decide +kernel
theorem dX1_begin_39 : decode cX1_begin 39 = .ok (.aload_n 0, 1) := by decide +kernel
theorem dX1_begin_40 : decode cX1_begin 40 = .ok (.getfield 19, 3) := by decide +kernel
theorem dX1_begin_43 : decode cX1_begin 43 = .ok (.ireturn, 1) := by decide +kernel
theorem dX1_put_0 : decode cX1_put 0 = .ok (.aload_n 0, 1) := by decide +kernel
theorem dX1_put_1 : decode cX1_put 1 = .ok (.getfield 9, 3) := by decide +kernel
theorem dX1_put_4 : decode cX1_put 4 = .ok (.iload_n 1, 1) := by decide +kernel
theorem dX1_put_5 : decode cX1_put 5 = .ok (.aload_n 0, 1) := by decide +kernel
theorem dX1_put_6 : decode cX1_put 6 = .ok (.lload_n 2, 1) := by decide +kernel
theorem dX1_put_7 : decode cX1_put 7 = .ok (.invokevirtual 22, 3) := by decide +kernel
theorem dX1_put_10 : decode cX1_put 10 = .ok (.lastore, 1) := by decide +kernel
theorem dX1_put_11 : decode cX1_put 11 = .ok (.return_, 1) := by decide +kernel
theorem dX1_lowestBits_0 : decode cX1_lowestBits 0 = .ok (.aload_n 0, 1) := by decide +kernel
theorem dX1_lowestBits_1 : decode cX1_lowestBits 1 = .ok (.getfield 15, 3) := by decide +kernel
theorem dX1_lowestBits_4 : decode cX1_lowestBits 4 = .ok (.lookupswitch 38 #[(8, 28), (16, 33)], 28) := by decide +kernel
theorem dX1_lowestBits_32 : decode cX1_lowestBits 32 = .ok (.lload_n 1, 1) := by decide +kernel
theorem dX1_lowestBits_33 : decode cX1_lowestBits 33 = .ok (.l2i, 1) := by decide +kernel
theorem dX1_lowestBits_34 : decode cX1_lowestBits 34 = .ok (.i2b, 1) := by decide +kernel
theorem dX1_lowestBits_35 : decode cX1_lowestBits 35 = .ok (.i2l, 1) := by decide +kernel
theorem dX1_lowestBits_36 : decode cX1_lowestBits 36 = .ok (.lreturn, 1) := by decide +kernel
theorem dX1_lowestBits_37 : decode cX1_lowestBits 37 = .ok (.lload_n 1, 1) := by decide +kernel
theorem dX1_lowestBits_38 : decode cX1_lowestBits 38 = .ok (.l2i, 1) := by decide +kernel
theorem dX1_lowestBits_39 : decode cX1_lowestBits 39 = .ok (.i2s, 1) := by decide +kernel
theorem dX1_lowestBits_40 : decode cX1_lowestBits 40 = .ok (.i2l, 1) := by decide +kernel
theorem dX1_lowestBits_41 : decode cX1_lowestBits 41 = .ok (.lreturn, 1) := by decide +kernel
theorem dX1_lowestBits_42 : decode cX1_lowestBits 42 = .ok (.lload_n 1, 1) := by decide +kernel
theorem dX1_lowestBits_43 : decode cX1_lowestBits 43 = .ok (.lreturn, 1) := by decide +kernel
theorem dX1_hasRun_0 : decode cX1_hasRun 0 = .ok (.iload_n 1, 1) := by decide +kernel
theorem dX1_hasRun_1 : decode cX1_hasRun 1 = .ok (.ifCond .lt 21, 3) := by decide +kernel
theorem dX1_hasRun_4 : decode cX1_hasRun 4 = .ok (.iload_n 2, 1) := by decide +kernel
theorem dX1_hasRun_5 : decode cX1_hasRun 5 = .ok (.ifCond .lt 17, 3) := by decide +kernel
theorem dX1_hasRun_8 : decode cX1_hasRun 8 = .ok (.iload_n 1, 1) := by decide +kernel
theorem dX1_hasRun_9 : decode cX1_hasRun 9 = .ok (.aload_n 0, 1) := by decide +kernel
theorem dX1_hasRun_10 : decode cX1_hasRun 10 = .ok (.getfield 19, 3) := by decide +kernel
theorem dX1_hasRun_13 : decode cX1_hasRun 13 = .ok (.iload_n 2, 1) := by decide +kernel
theorem dX1_hasRun_14 : decode cX1_hasRun 14 = .ok (.isub, 1) := by decide +kernel
theorem dX1_hasRun_15 : decode cX1_hasRun 15 = .ok (.if_icmp .gt 7, 3) := by decide +kernel
theorem dX1_hasRun_18 : decode cX1_hasRun 18 = .ok (.iconst 1, 1) := by decide +kernel
theorem dX1_hasRun_19 : decode cX1_hasRun 19 = .ok (.goto 4, 3) := by decide +kernel
theorem dX1_hasRun_22 : decode cX1_hasRun 22 = .ok (.iconst 0, 1) := by decide +kernel
theorem dX1_hasRun_23 : decode cX1_hasRun 23 = .ok (.ireturn, 1) := by decide +kernel
theorem dX2_init_0 : decode cX2_init 0 = .ok (.aload_n 0, 1) := by decide +kernel
theorem dX2_init_1 : decode cX2_init 1 = .ok (.invokespecial 3, 3) := by decide +kernel
theorem dX2_init_4 : decode cX2_init 4 = .ok (.aload_n 0, 1) := by decide +kernel
theorem dX2_init_5 : decode cX2_init 5 = .ok (.bipush 120, 2) := by decide +kernel
theorem dX2_init_7 : decode cX2_init 7 = .ok (.newarray .int, 2) := by decide +kernel
theorem dX2_init_9 : decode cX2_init 9 = .ok (.putfield 9, 3) := by decide +kernel
theorem dX2_init_12 : decode cX2_init 12 = .ok (.return_, 1) := by decide +kernel
theorem dX2_append_0 : decode cX2_append 0 = .ok (.aload_n 0, 1) := by decide +kernel
theorem dX2_append_1 : decode cX2_append 1 = .ok (.getfield 15, 3) := by decide +kernel
theorem dX2_append_4 : decode cX2_append 4 = .ok (.bipush 120, 2) := by decide +kernel
theorem dX2_append_6 : decode cX2_append 6 = .ok (.if_icmp .ge 23, 3) := by decide +kernel
theorem dX2_append_9 : decode cX2_append 9 = .ok (.aload_n 0, 1) := by decide +kernel
theorem dX2_append_10 : decode cX2_append 10 = .ok (.getfield 9, 3) := by decide +kernel
theorem dX2_append_13 : decode cX2_append 13 = .ok (.aload_n 0, 1) := by decide +kernel
theorem dX2_append_14 : decode cX2_append 14 = .ok (.getfield 15, 3) := by decide +kernel
theorem dX2_append_17 : decode cX2_append 17 = .ok (.iload_n 1, 1) := by decide +kernel
theorem dX2_append_18 : decode cX2_append 18 = .ok (.iastore, 1) := by decide +kernel
theorem dX2_append_19 : decode cX2_append 19 = .ok (.aload_n 0, 1) := by decide +kernel
theorem dX2_append_20 : decode cX2_append 20 = .ok (.dup, 1) := by decide +kernel
theorem dX2_append_21 : decode cX2_append 21 = .ok (.getfield 15, 3) := by decide +kernel
theorem dX2_append_24 : decode cX2_append 24 = .ok (.iconst 1, 1) := by decide +kernel
theorem dX2_append_25 : decode cX2_append 25 = .ok (.iadd, 1) := by decide +kernel
theorem dX2_append_26 : decode cX2_append 26 = .ok (.putfield 15, 3) := by decide +kernel
theorem dX2_append_29 : decode cX2_append 29 = .ok (.return_, 1) := by decide +kernel
theorem dX2_tellItems_0 : decode cX2_tellItems 0 = .ok (.aload_n 0, 1) := by decide +kernel
theorem dX2_tellItems_1 : decode cX2_tellItems 1 = .ok (.iconst 0, 1) := by decide +kernel
theorem dX2_tellItems_2 : decode cX2_tellItems 2 = .ok (.putfield 19, 3) := by decide +kernel
theorem dX2_tellItems_5 : decode cX2_tellItems 5 = .ok (.aload_n 0, 1) := by decide +kernel
theorem dX2_tellItems_6 : decode cX2_tellItems 6 = .ok (.invokevirtual 22, 3) := by decide +kernel
theorem dX2_tellItems_9 : decode cX2_tellItems 9 = .ok (.iconst 1, 1) := by decide +kernel
theorem dX2_tellItems_10 : decode cX2_tellItems 10 = .ok (.istore_n 2, 1) := by decide +kernel
theorem dX2_tellItems_11 : decode cX2_tellItems 11 = .ok (.iload_n 2, 1) := by decide +kernel
theorem dX2_tellItems_12 : decode cX2_tellItems 12 = .ok (.bipush 120, 2) := by decide +kernel
theorem dX2_tellItems_14 : decode cX2_tellItems 14 = .ok (.if_icmp .gt 52, 3) := by decide +kernel
theorem dX2_tellItems_17 : decode cX2_tellItems 17 = .ok (.aload_n 0, 1) := by decide +kernel
theorem dX2_tellItems_18 : decode cX2_tellItems 18 = .ok (.aload_n 1, 1) := by decide +kernel
theorem dX2_tellItems_19 : decode cX2_tellItems 19 = .ok (.invokevirtual 25, 3) := by decide +kernel
theorem dX2_tellItems_22 : decode cX2_tellItems 22 = .ok (.ifCond .ne 10, 3) := by decide +kernel
theorem dX2_tellItems_25 : decode cX2_tellItems 25 = .ok (.iconst (-1), 1) := by decide +kernel
theorem dX2_tellItems_26 : decode cX2_tellItems 26 = .ok (.aload_n 0, 1) := by decide +kernel
theorem dX2_tellItems_27 : decode cX2_tellItems 27 = .ok (.getfield 29, 3) := by decide +kernel
theorem dX2_tellItems_30 : decode cX2_tellItems 30 = .ok (.isub, 1) := by decide +kernel
theorem dX2_tellItems_31 : decode cX2_tellItems 31 = .ok (.ireturn, 1) := by decide +kernel
theorem dX2_tellItems_32 : decode cX2_tellItems 32 = .ok (.aload_n 0, 1) := by decide +kernel
theorem dX2_tellItems_33 : decode cX2_tellItems 33 = .ok (.getfield 32, 3) := by decide +kernel
theorem dX2_tellItems_36 : decode cX2_tellItems 36 = .ok (.ifCond .ne 5, 3) := by decide +kernel
theorem dX2_tellItems_39 : decode cX2_tellItems 39 = .ok (.iload_n 2, 1) := by decide +kernel
theorem dX2_tellItems_40 : decode cX2_tellItems 40 = .ok (.ireturn, 1) := by decide +kernel
theorem dX2_tellItems_41 : decode cX2_tellItems 41 = .ok (.aload_n 0, 1) := by decide +kernel
theorem dX2_tellItems_42 : decode cX2_tellItems 42 = .ok (.getfield 32, 3) := by decide +kernel
theorem dX2_tellItems_45 : decode cX2_tellItems 45 = .ok (.iconst 3, 1) := by decide +kernel
theorem dX2_tellItems_46 : decode cX2_tellItems 46 = .ok (.if_icmp .eq 10, 3) := by decide +kernel
theorem dX2_tellItems_49 : decode cX2_tellItems 49 = .ok (.iconst (-1), 1) := by decide +kernel
theorem dX2_tellItems_50 : decode cX2_tellItems 50 = .ok (.aload_n 0, 1) := by decide +kernel
theorem dX2_tellItems_51 : decode cX2_tellItems 51 = .ok (.getfield 29, 3) := by decide +kernel
theorem dX2_tellItems_54 : decode cX2_tellItems 54 = .ok (.isub, 1) := by decide +kernel
theorem dX2_tellItems_55 : decode cX2_tellItems 55 = .ok (.ireturn, 1) := by decide +kernel
theorem dX2_tellItems_56 : decode cX2_tellItems 56 = .ok (.aload_n 0, 1) := by decide +kernel
theorem dX2_tellItems_57 : decode cX2_tellItems 57 = .ok (.invokevirtual 22, 3) := by decide +kernel
theorem dX2_tellItems_60 : decode cX2_tellItems 60 = .ok (.iinc 2 1, 3) := by decide +kernel
theorem dX2_tellItems_63 : decode cX2_tellItems 63 = .ok (.goto (-52), 3) := by decide +kernel
theorem dX2_tellItems_66 : decode cX2_tellItems 66 = .ok (.iconst (-1), 1) := by decide +kernel
theorem dX2_tellItems_67 : decode cX2_tellItems 67 = .ok (.aload_n 0, 1) := by decide +kernel
theorem dX2_tellItems_68 : decode cX2_tellItems 68 = .ok (.getfield 29, 3) := by decide +kernel
theorem dX2_tellItems_71 : decode cX2_tellItems 71 = .ok (.isub, 1) := by decide +kernel
theorem dX2_tellItems_72 : decode cX2_tellItems 72 = .ok (.ireturn, 1) := by decide +kernel
theorem dX2_tellItem_0 : decode cX2_tellItem 0 = .ok (.aload_n 0, 1) := by decide +kernel
theorem dX2_tellItem_1 : decode cX2_tellItem 1 = .ok (.invokevirtual 35, 3) := by decide +kernel
theorem dX2_tellItem_4 : decode cX2_tellItem 4 = .ok (.istore_n 2, 1) := by decide +kernel
theorem dX2_tellItem_5 : decode cX2_tellItem 5 = .ok (.iload_n 2, 1) := by decide +kernel
theorem dX2_tellItem_6 : decode cX2_tellItem 6 = .ok (.ifCond .lt 27, 3) := by decide +kernel
theorem dX2_tellItem_9 : decode cX2_tellItem 9 = .ok (.aload_n 1, 1) := by decide +kernel
theorem dX2_tellItem_10 : decode cX2_tellItem 10 = .ok (.getfield 39, 3) := by decide +kernel
theorem dX2_tellItem_13 : decode cX2_tellItem 13 = .ok (.bipush 12, 2) := by decide +kernel
theorem dX2_tellItem_15 : decode cX2_tellItem 15 = .ok (.if_icmp .ge 16, 3) := by decide +kernel
theorem dX2_tellItem_18 : decode cX2_tellItem 18 = .ok (.aload_n 0, 1) := by decide +kernel
theorem dX2_tellItem_19 : decode cX2_tellItem 19 = .ok (.aload_n 1, 1) := by decide +kernel
theorem dX2_tellItem_20 : decode cX2_tellItem 20 = .ok (.iload_n 2, 1) := by decide +kernel
theorem dX2_tellItem_21 : decode cX2_tellItem 21 = .ok (.invokevirtual 44, 3) := by decide +kernel
theorem dX2_tellItem_24 : decode cX2_tellItem 24 = .ok (.ifCond .eq 7, 3) := by decide +kernel
theorem dX2_tellItem_27 : decode cX2_tellItem 27 = .ok (.iconst 1, 1) := by decide +kernel
theorem dX2_tellItem_28 : decode cX2_tellItem 28 = .ok (.goto 4, 3) := by decide +kernel
theorem dX2_tellItem_31 : decode cX2_tellItem 31 = .ok (.iconst 0, 1) := by decide +kernel
theorem dX2_tellItem_32 : decode cX2_tellItem 32 = .ok (.ireturn, 1) := by decide +kernel
theorem dX2_tellItem_33 : decode cX2_tellItem 33 = .ok (.aload_n 0, 1) := by decide +kernel
theorem dX2_tellItem_34 : decode cX2_tellItem 34 = .ok (.ldc 48, 2) := by decide +kernel
theorem dX2_tellItem_36 : decode cX2_tellItem 36 = .ok (.invokevirtual 50, 3) := by decide +kernel
theorem dX2_tellItem_39 : decode cX2_tellItem 39 = .ok (.ifCond .eq 9, 3) := by decide +kernel
theorem dX2_tellItem_42 : decode cX2_tellItem 42 = .ok (.aload_n 0, 1) := by decide +kernel
theorem dX2_tellItem_43 : decode cX2_tellItem 43 = .ok (.aload_n 1, 1) := by decide +kernel
theorem dX2_tellItem_44 : decode cX2_tellItem 44 = .ok (.invokevirtual 54, 3) := by decide +kernel
theorem dX2_tellItem_47 : decode cX2_tellItem 47 = .ok (.ireturn, 1) := by decide +kernel
theorem dX2_tellItem_48 : decode cX2_tellItem 48 = .ok (.aload_n 0, 1) := by decide +kernel
theorem dX2_tellItem_49 : decode cX2_tellItem 49 = .ok (.ldc 57, 2) := by decide +kernel
theorem dX2_tellItem_51 : decode cX2_tellItem 51 = .ok (.invokevirtual 50, 3) := by decide +kernel
theorem dX2_tellItem_54 : decode cX2_tellItem 54 = .ok (.ifCond .eq 9, 3) := by decide +kernel
theorem dX2_tellItem_57 : decode cX2_tellItem 57 = .ok (.aload_n 0, 1) := by decide +kernel
theorem dX2_tellItem_58 : decode cX2_tellItem 58 = .ok (.aload_n 1, 1) := by decide +kernel
theorem dX2_tellItem_59 : decode cX2_tellItem 59 = .ok (.invokevirtual 59, 3) := by decide +kernel
theorem dX2_tellItem_62 : decode cX2_tellItem 62 = .ok (.ireturn, 1) := by decide +kernel
theorem dX2_tellItem_63 : decode cX2_tellItem 63 = .ok (.aload_n 0, 1) := by decide +kernel
theorem dX2_tellItem_64 : decode cX2_tellItem 64 = .ok (.ldc 62, 2) := by decide +kernel
theorem dX2_tellItem_66 : decode cX2_tellItem 66 = .ok (.invokevirtual 50, 3) := by decide +kernel
theorem dX2_tellItem_69 : decode cX2_tellItem 69 = .ok (.ifCond .eq 24, 3) := by decide +kernel
theorem dX2_tellItem_72 : decode cX2_tellItem 72 = .ok (.aload_n 1, 1) := by decide +kernel
theorem dX2_tellItem_73 : decode cX2_tellItem 73 = .ok (.getfield 64, 3) := by decide +kernel
theorem dX2_tellItem_76 : decode cX2_tellItem 76 = .ok (.bipush 8, 2) := by decide +kernel
theorem dX2_tellItem_78 : decode cX2_tellItem 78 = .ok (.if_icmp .ge 15, 3) := by decide +kernel
theorem dX2_tellItem_81 : decode cX2_tellItem 81 = .ok (.aload_n 0, 1) := by decide +kernel
theorem dX2_tellItem_82 : decode cX2_tellItem 82 = .ok (.aload_n 1, 1) := by decide +kernel
theorem dX2_tellItem_83 : decode cX2_tellItem 83 = .ok (.invokevirtual 67, 3) := by decide +kernel
theorem dX2_tellItem_86 : decode cX2_tellItem 86 = .ok (.ifCond .eq 7, 3) := by decide +kernel
theorem dX2_tellItem_89 : decode cX2_tellItem 89 = .ok (.iconst 1, 1) := by decide +kernel
theorem dX2_tellItem_90 : decode cX2_tellItem 90 = .ok (.goto 4, 3) := by decide +kernel
theorem dX2_tellItem_93 : decode cX2_tellItem 93 = .ok (.iconst 0, 1) := by decide +kernel
theorem dX2_tellItem_94 : decode cX2_tellItem 94 = .ok (.ireturn, 1) := by decide +kernel
theorem dX2_tellCoin_0 : decode cX2_tellCoin 0 = .ok (.aload_n 0, 1) := by decide +kernel
theorem dX2_tellCoin_1 : decode cX2_tellCoin 1 = .ok (.invokevirtual 22, 3) := by decide +kernel
theorem dX2_tellCoin_4 : decode cX2_tellCoin 4 = .ok (.aload_n 0, 1) := by decide +kernel
theorem dX2_tellCoin_5 : decode cX2_tellCoin 5 = .ok (.ldc 70, 2) := by decide +kernel
theorem dX2_tellCoin_7 : decode cX2_tellCoin 7 = .ok (.invokevirtual 72, 3) := by decide +kernel
theorem dX2_tellCoin_10 : decode cX2_tellCoin 10 = .ok (.ifCond .ne 5, 3) := by decide +kernel
theorem dX2_tellCoin_13 : decode cX2_tellCoin 13 = .ok (.iconst 0, 1) := by decide +kernel
theorem dX2_tellCoin_14 : decode cX2_tellCoin 14 = .ok (.ireturn, 1) := by decide +kernel
theorem dX2_tellCoin_15 : decode cX2_tellCoin 15 = .ok (.aload_n 0, 1) := by decide +kernel
theorem dX2_tellCoin_16 : decode cX2_tellCoin 16 = .ok (.iconst 0, 1) := by decide +kernel
theorem dX2_tellCoin_17 : decode cX2_tellCoin 17 = .ok (.iconst 3, 1) := by decide +kernel
theorem dX2_tellCoin_18 : decode cX2_tellCoin 18 = .ok (.invokevirtual 75, 3) := by decide +kernel
theorem dX2_tellCoin_21 : decode cX2_tellCoin 21 = .ok (.istore_n 3, 1) := by decide +kernel
theorem dX2_tellCoin_22 : decode cX2_tellCoin 22 = .ok (.iload_n 3, 1) := by decide +kernel
theorem dX2_tellCoin_23 : decode cX2_tellCoin 23 = .ok (.ifCond .lt 12, 3) := by decide +kernel
theorem dX2_tellCoin_26 : decode cX2_tellCoin 26 = .ok (.aload_n 0, 1) := by decide +kernel
theorem dX2_tellCoin_27 : decode cX2_tellCoin 27 = .ok (.ldc 79, 2) := by decide +kernel
theorem dX2_tellCoin_29 : decode cX2_tellCoin 29 = .ok (.invokevirtual 72, 3) := by decide +kernel
theorem dX2_tellCoin_32 : decode cX2_tellCoin 32 = .ok (.ifCond .ne 5, 3) := by decide +kernel
theorem dX2_tellCoin_35 : decode cX2_tellCoin 35 = .ok (.iconst 0, 1) := by decide +kernel
theorem dX2_tellCoin_36 : decode cX2_tellCoin 36 = .ok (.ireturn, 1) := by decide +kernel
theorem dX2_tellCoin_37 : decode cX2_tellCoin 37 = .ok (.aload_n 0, 1) := by decide +kernel
theorem dX2_tellCoin_38 : decode cX2_tellCoin 38 = .ok (.iconst 0, 1) := by decide +kernel
theorem dX2_tellCoin_39 : decode cX2_tellCoin 39 = .ok (.bipush 99, 2) := by decide +kernel
theorem dX2_tellCoin_41 : decode cX2_tellCoin 41 = .ok (.invokevirtual 75, 3) := by decide +kernel
theorem dX2_tellCoin_44 : decode cX2_tellCoin 44 = .ok (.istore 4, 2) := by decide +kernel
theorem dX2_tellCoin_46 : decode cX2_tellCoin 46 = .ok (.iload 4, 2) := by decide +kernel
theorem dX2_tellCoin_48 : decode cX2_tellCoin 48 = .ok (.ifCond .ge 5, 3) := by decide +kernel
theorem dX2_tellCoin_51 : decode cX2_tellCoin 51 = .ok (.iconst 0, 1) := by decide +kernel
theorem dX2_tellCoin_52 : decode cX2_tellCoin 52 = .ok (.ireturn, 1) := by decide +kernel
theorem dX2_tellCoin_53 : decode cX2_tellCoin 53 = .ok (.aload_n 0, 1) := by decide +kernel
theorem dX2_tellCoin_54 : decode cX2_tellCoin 54 = .ok (.ldc 81, 2) := by decide +kernel
theorem dX2_tellCoin_56 : decode cX2_tellCoin 56 = .ok (.invokevirtual 72, 3) := by decide +kernel
theorem dX2_tellCoin_59 : decode cX2_tellCoin 59 = .ok (.ifCond .eq 7, 3) := by decide +kernel
theorem dX2_tellCoin_62 : decode cX2_tellCoin 62 = .ok (.iconst 1, 1) := by decide +kernel
theorem dX2_tellCoin_63 : decode cX2_tellCoin 63 = .ok (.goto 17, 3) := by decide +kernel
theorem dX2_tellCoin_66 : decode cX2_tellCoin 66 = .ok (.aload_n 0, 1) := by decide +kernel
theorem dX2_tellCoin_67 : decode cX2_tellCoin 67 = .ok (.ldc 83, 2) := by decide +kernel
theorem dX2_tellCoin_69 : decode cX2_tellCoin 69 = .ok (.invokevirtual 72, 3) := by decide +kernel
theorem dX2_tellCoin_72 : decode cX2_tellCoin 72 = .ok (.ifCond .eq 7, 3) := by decide +kernel
theorem dX2_tellCoin_75 : decode cX2_tellCoin 75 = .ok (.iconst 2, 1) := by decide +kernel
theorem dX2_tellCoin_76 : decode cX2_tellCoin 76 = .ok (.goto 4, 3) := by decide +kernel
theorem dX2_tellCoin_79 : decode cX2_tellCoin 79 = .ok (.iconst 0, 1) := by decide +kernel
theorem dX2_tellCoin_80 : decode cX2_tellCoin 80 = .ok (.istore 5, 2) := by decide +kernel
theorem dX2_tellCoin_82 : decode cX2_tellCoin 82 = .ok (.aload_n 1, 1) := by decide +kernel
theorem dX2_tellCoin_83 : decode cX2_tellCoin 83 = .ok (.iload_n 2, 1) := by decide +kernel
theorem dX2_tellCoin_84 : decode cX2_tellCoin 84 = .ok (.iload_n 3, 1) := by decide +kernel
theorem dX2_tellCoin_85 : decode cX2_tellCoin 85 = .ok (.iload 4, 2) := by decide +kernel
theorem dX2_tellCoin_87 : decode cX2_tellCoin 87 = .ok (.iload 5, 2) := by decide +kernel
theorem dX2_tellCoin_89 : decode cX2_tellCoin 89 = .ok (.invokevirtual 85, 3) := by decide +kernel
theorem dX2_tellCoin_92 : decode cX2_tellCoin 92 = .ok (.pop, 1) := by decide +kernel
theorem dX2_tellCoin_93 : decode cX2_tellCoin 93 = .ok (.iconst 1, 1) := by decide +kernel
theorem dX2_tellCoin_94 : decode cX2_tellCoin 94 = .ok (.ireturn, 1) := by decide +kernel
theorem dX2_tellSoil_0 : decode cX2_tellSoil 0 = .ok (.aload_n 0, 1) := by decide +kernel
theorem dX2_tellSoil_1 : decode cX2_tellSoil 1 = .ok (.invokevirtual 22, 3) := by decide +kernel
theorem dX2_tellSoil_4 : decode cX2_tellSoil 4 = .ok (.aload_n 0, 1) := by decide +kernel
theorem dX2_tellSoil_5 : decode cX2_tellSoil 5 = .ok (.iconst 0, 1) := by decide +kernel
theorem dX2_tellSoil_6 : decode cX2_tellSoil 6 = .ok (.iconst 3, 1) := by decide +kernel
theorem dX2_tellSoil_7 : decode cX2_tellSoil 7 = .ok (.invokevirtual 75, 3) := by decide +kernel
theorem dX2_tellSoil_10 : decode cX2_tellSoil 10 = .ok (.istore_n 2, 1) := by decide +kernel
theorem dX2_tellSoil_11 : decode cX2_tellSoil 11 = .ok (.iload_n 2, 1) := by decide +kernel
theorem dX2_tellSoil_12 : decode cX2_tellSoil 12 = .ok (.ifCond .ge 5, 3) := by decide +kernel
theorem dX2_tellSoil_15 : decode cX2_tellSoil 15 = .ok (.iconst 0, 1) := by decide +kernel
theorem dX2_tellSoil_16 : decode cX2_tellSoil 16 = .ok (.ireturn, 1) := by decide +kernel
theorem dX2_tellSoil_17 : decode cX2_tellSoil 17 = .ok (.aload_n 0, 1) := by decide +kernel
theorem dX2_tellSoil_18 : decode cX2_tellSoil 18 = .ok (.iconst 0, 1) := by decide +kernel
theorem dX2_tellSoil_19 : decode cX2_tellSoil 19 = .ok (.bipush 9, 2) := by decide +kernel
theorem dX2_tellSoil_21 : decode cX2_tellSoil 21 = .ok (.invokevirtual 75, 3) := by decide +kernel
theorem dX2_tellSoil_24 : decode cX2_tellSoil 24 = .ok (.istore_n 3, 1) := by decide +kernel
theorem dX2_tellSoil_25 : decode cX2_tellSoil 25 = .ok (.iload_n 3, 1) := by decide +kernel
theorem dX2_tellSoil_26 : decode cX2_tellSoil 26 = .ok (.ifCond .ge 5, 3) := by decide +kernel
theorem dX2_tellSoil_29 : decode cX2_tellSoil 29 = .ok (.iconst 0, 1) := by decide +kernel
theorem dX2_tellSoil_30 : decode cX2_tellSoil 30 = .ok (.ireturn, 1) := by decide +kernel
theorem dX2_tellSoil_31 : decode cX2_tellSoil 31 = .ok (.aload_n 1, 1) := by decide +kernel
theorem dX2_tellSoil_32 : decode cX2_tellSoil 32 = .ok (.getfield 89, 3) := by decide +kernel
theorem dX2_tellSoil_35 : decode cX2_tellSoil 35 = .ok (.iload_n 2, 1) := by decide +kernel
theorem dX2_tellSoil_36 : decode cX2_tellSoil 36 = .ok (.iload_n 3, 1) := by decide +kernel
theorem dX2_tellSoil_37 : decode cX2_tellSoil 37 = .ok (.iastore, 1) := by decide +kernel
theorem dX2_tellSoil_38 : decode cX2_tellSoil 38 = .ok (.iconst 1, 1) := by decide +kernel
theorem dX2_tellSoil_39 : decode cX2_tellSoil 39 = .ok (.ireturn, 1) := by decide +kernel
theorem dX2_tellPrice_0 : decode cX2_tellPrice 0 = .ok (.aload_n 0, 1) := by decide +kernel
theorem dX2_tellPrice_1 : decode cX2_tellPrice 1 = .ok (.invokevirtual 22, 3) := by decide +kernel
theorem dX2_tellPrice_4 : decode cX2_tellPrice 4 = .ok (.aload_n 0, 1) := by decide +kernel
theorem dX2_tellPrice_5 : decode cX2_tellPrice 5 = .ok (.iconst 0, 1) := by decide +kernel
theorem dX2_tellPrice_6 : decode cX2_tellPrice 6 = .ok (.bipush 11, 2) := by decide +kernel
theorem dX2_tellPrice_8 : decode cX2_tellPrice 8 = .ok (.invokevirtual 75, 3) := by decide +kernel
theorem dX2_tellPrice_11 : decode cX2_tellPrice 11 = .ok (.istore_n 2, 1) := by decide +kernel
theorem dX2_tellPrice_12 : decode cX2_tellPrice 12 = .ok (.iload_n 2, 1) := by decide +kernel
theorem dX2_tellPrice_13 : decode cX2_tellPrice 13 = .ok (.ifCond .ge 5, 3) := by decide +kernel
theorem dX2_tellPrice_16 : decode cX2_tellPrice 16 = .ok (.iconst 0, 1) := by decide +kernel
theorem dX2_tellPrice_17 : decode cX2_tellPrice 17 = .ok (.ireturn, 1) := by decide +kernel
theorem dX2_tellPrice_18 : decode cX2_tellPrice 18 = .ok (.aload_n 0, 1) := by decide +kernel
theorem dX2_tellPrice_19 : decode cX2_tellPrice 19 = .ok (.iconst 0, 1) := by decide +kernel
theorem dX2_tellPrice_20 : decode cX2_tellPrice 20 = .ok (.bipush 99, 2) := by decide +kernel
theorem dX2_tellPrice_22 : decode cX2_tellPrice 22 = .ok (.invokevirtual 75, 3) := by decide +kernel
theorem dX2_tellPrice_25 : decode cX2_tellPrice 25 = .ok (.istore_n 3, 1) := by decide +kernel
theorem dX2_tellPrice_26 : decode cX2_tellPrice 26 = .ok (.iload_n 3, 1) := by decide +kernel
theorem dX2_tellPrice_27 : decode cX2_tellPrice 27 = .ok (.ifCond .ge 5, 3) := by decide +kernel
theorem dX2_tellPrice_30 : decode cX2_tellPrice 30 = .ok (.iconst 0, 1) := by decide +kernel
theorem dX2_tellPrice_31 : decode cX2_tellPrice 31 = .ok (.ireturn, 1) := by decide +kernel
theorem dX2_tellPrice_32 : decode cX2_tellPrice 32 = .ok (.aload_n 1, 1) := by decide +kernel
theorem dX2_tellPrice_33 : decode cX2_tellPrice 33 = .ok (.getfield 92, 3) := by decide +kernel
theorem dX2_tellPrice_36 : decode cX2_tellPrice 36 = .ok (.iload_n 2, 1) := by decide +kernel
theorem dX2_tellPrice_37 : decode cX2_tellPrice 37 = .ok (.iload_n 3, 1) := by decide +kernel
theorem dX2_tellPrice_38 : decode cX2_tellPrice 38 = .ok (.iastore, 1) := by decide +kernel
theorem dX2_tellPrice_39 : decode cX2_tellPrice 39 = .ok (.iconst 1, 1) := by decide +kernel
theorem dX2_tellPrice_40 : decode cX2_tellPrice 40 = .ok (.ireturn, 1) := by decide +kernel
theorem dX2_tellLoan_0 : decode cX2_tellLoan 0 = .ok (.aload_n 0, 1) := by decide +kernel
theorem dX2_tellLoan_1 : decode cX2_tellLoan 1 = .ok (.invokevirtual 22, 3) := by decide +kernel
theorem dX2_tellLoan_4 : decode cX2_tellLoan 4 = .ok (.aload_n 0, 1) := by decide +kernel
theorem dX2_tellLoan_5 : decode cX2_tellLoan 5 = .ok (.iconst 0, 1) := by decide +kernel
theorem dX2_tellLoan_6 : decode cX2_tellLoan 6 = .ok (.iconst 3, 1) := by decide +kernel
theorem dX2_tellLoan_7 : decode cX2_tellLoan 7 = .ok (.invokevirtual 75, 3) := by decide +kernel
theorem dX2_tellLoan_10 : decode cX2_tellLoan 10 = .ok (.istore_n 2, 1) := by decide +kernel
theorem dX2_tellLoan_11 : decode cX2_tellLoan 11 = .ok (.iload_n 2, 1) := by decide +kernel
theorem dX2_tellLoan_12 : decode cX2_tellLoan 12 = .ok (.ifCond .lt 12, 3) := by decide +kernel
theorem dX2_tellLoan_15 : decode cX2_tellLoan 15 = .ok (.aload_n 0, 1) := by decide +kernel
theorem dX2_tellLoan_16 : decode cX2_tellLoan 16 = .ok (.ldc 95, 2) := by decide +kernel
theorem dX2_tellLoan_18 : decode cX2_tellLoan 18 = .ok (.invokevirtual 72, 3) := by decide +kernel
theorem dX2_tellLoan_21 : decode cX2_tellLoan 21 = .ok (.ifCond .ne 5, 3) := by decide +kernel
theorem dX2_tellLoan_24 : decode cX2_tellLoan 24 = .ok (.iconst 0, 1) := by decide +kernel
theorem dX2_tellLoan_25 : decode cX2_tellLoan 25 = .ok (.ireturn, 1) := by decide +kernel
theorem dX2_tellLoan_26 : decode cX2_tellLoan 26 = .ok (.aload_n 0, 1) := by decide +kernel
theorem dX2_tellLoan_27 : decode cX2_tellLoan 27 = .ok (.getfield 32, 3) := by decide +kernel
theorem dX2_tellLoan_30 : decode cX2_tellLoan 30 = .ok (.iconst 2, 1) := by decide +kernel
theorem dX2_tellLoan_31 : decode cX2_tellLoan 31 = .ok (.if_icmp .ne 13, 3) := by decide +kernel
theorem dX2_tellLoan_34 : decode cX2_tellLoan 34 = .ok (.aload_n 0, 1) := by decide +kernel
theorem dX2_tellLoan_35 : decode cX2_tellLoan 35 = .ok (.getfield 97, 3) := by decide +kernel
theorem dX2_tellLoan_38 : decode cX2_tellLoan 38 = .ok (.iload_n 2, 1) := by decide +kernel
theorem dX2_tellLoan_39 : decode cX2_tellLoan 39 = .ok (.if_icmp .ne 5, 3) := by decide +kernel
theorem dX2_tellLoan_42 : decode cX2_tellLoan 42 = .ok (.iconst 0, 1) := by decide +kernel
theorem dX2_tellLoan_43 : decode cX2_tellLoan 43 = .ok (.ireturn, 1) := by decide +kernel
theorem dX2_tellLoan_44 : decode cX2_tellLoan 44 = .ok (.aload_n 0, 1) := by decide +kernel
theorem dX2_tellLoan_45 : decode cX2_tellLoan 45 = .ok (.iconst 0, 1) := by decide +kernel
theorem dX2_tellLoan_46 : decode cX2_tellLoan 46 = .ok (.iconst 3, 1) := by decide +kernel
theorem dX2_tellLoan_47 : decode cX2_tellLoan 47 = .ok (.invokevirtual 75, 3) := by decide +kernel
theorem dX2_tellLoan_50 : decode cX2_tellLoan 50 = .ok (.istore_n 3, 1) := by decide +kernel
theorem dX2_tellLoan_51 : decode cX2_tellLoan 51 = .ok (.iload_n 3, 1) := by decide +kernel
theorem dX2_tellLoan_52 : decode cX2_tellLoan 52 = .ok (.ifCond .ge 5, 3) := by decide +kernel
theorem dX2_tellLoan_55 : decode cX2_tellLoan 55 = .ok (.iconst 0, 1) := by decide +kernel
theorem dX2_tellLoan_56 : decode cX2_tellLoan 56 = .ok (.ireturn, 1) := by decide +kernel
theorem dX2_tellLoan_57 : decode cX2_tellLoan 57 = .ok (.aload_n 0, 1) := by decide +kernel
theorem dX2_tellLoan_58 : decode cX2_tellLoan 58 = .ok (.iconst 1, 1) := by decide +kernel
theorem dX2_tellLoan_59 : decode cX2_tellLoan 59 = .ok (.sipush 9999, 3) := by decide +kernel
theorem dX2_tellLoan_62 : decode cX2_tellLoan 62 = .ok (.invokevirtual 75, 3) := by decide +kernel
theorem dX2_tellLoan_65 : decode cX2_tellLoan 65 = .ok (.istore 4, 2) := by decide +kernel
theorem dX2_tellLoan_67 : decode cX2_tellLoan 67 = .ok (.iload 4, 2) := by decide +kernel
theorem dX2_tellLoan_69 : decode cX2_tellLoan 69 = .ok (.ifCond .lt 12, 3) := by decide +kernel
theorem dX2_tellLoan_72 : decode cX2_tellLoan 72 = .ok (.aload_n 0, 1) := by decide +kernel
theorem dX2_tellLoan_73 : decode cX2_tellLoan 73 = .ok (.ldc 100, 2) := by decide +kernel
theorem dX2_tellLoan_75 : decode cX2_tellLoan 75 = .ok (.invokevirtual 72, 3) := by decide +kernel
theorem dX2_tellLoan_78 : decode cX2_tellLoan 78 = .ok (.ifCond .ne 5, 3) := by decide +kernel
theorem dX2_tellLoan_81 : decode cX2_tellLoan 81 = .ok (.iconst 0, 1) := by decide +kernel
theorem dX2_tellLoan_82 : decode cX2_tellLoan 82 = .ok (.ireturn, 1) := by decide +kernel
theorem dX2_tellLoan_83 : decode cX2_tellLoan 83 = .ok (.aload_n 0, 1) := by decide +kernel
theorem dX2_tellLoan_84 : decode cX2_tellLoan 84 = .ok (.iconst 1, 1) := by decide +kernel
theorem dX2_tellLoan_85 : decode cX2_tellLoan 85 = .ok (.bipush 120, 2) := by decide +kernel
theorem dX2_tellLoan_87 : decode cX2_tellLoan 87 = .ok (.invokevirtual 75, 3) := by decide +kernel
theorem dX2_tellLoan_90 : decode cX2_tellLoan 90 = .ok (.istore 5, 2) := by decide +kernel
theorem dX2_tellLoan_92 : decode cX2_tellLoan 92 = .ok (.iload 5, 2) := by decide +kernel
theorem dX2_tellLoan_94 : decode cX2_tellLoan 94 = .ok (.ifCond .ge 5, 3) := by decide +kernel
theorem dX2_tellLoan_97 : decode cX2_tellLoan 97 = .ok (.iconst 0, 1) := by decide +kernel
theorem dX2_tellLoan_98 : decode cX2_tellLoan 98 = .ok (.ireturn, 1) := by decide +kernel
theorem dX2_tellLoan_99 : decode cX2_tellLoan 99 = .ok (.aload_n 1, 1) := by decide +kernel
theorem dX2_tellLoan_100 : decode cX2_tellLoan 100 = .ok (.iload_n 2, 1) := by decide +kernel
theorem dX2_tellLoan_101 : decode cX2_tellLoan 101 = .ok (.iload_n 3, 1) := by decide +kernel
theorem dX2_tellLoan_102 : decode cX2_tellLoan 102 = .ok (.iload 4, 2) := by decide +kernel
theorem dX2_tellLoan_104 : decode cX2_tellLoan 104 = .ok (.iload 5, 2) := by decide +kernel
theorem dX2_tellLoan_106 : decode cX2_tellLoan 106 = .ok (.invokevirtual 102, 3) := by decide +kernel
theorem dX2_tellLoan_109 : decode cX2_tellLoan 109 = .ok (.pop, 1) := by decide +kernel
theorem dX2_tellLoan_110 : decode cX2_tellLoan 110 = .ok (.iconst 1, 1) := by decide +kernel
theorem dX2_tellLoan_111 : decode cX2_tellLoan 111 = .ok (.ireturn, 1) := by decide +kernel
theorem dX2_kindNamed_0 : decode cX2_kindNamed 0 = .ok (.iconst 0, 1) := by decide +kernel
theorem dX2_kindNamed_1 : decode cX2_kindNamed 1 = .ok (.istore_n 1, 1) := by decide +kernel
theorem dX2_kindNamed_2 : decode cX2_kindNamed 2 = .ok (.iload_n 1, 1) := by decide +kernel
theorem dX2_kindNamed_3 : decode cX2_kindNamed 3 = .ok (.bipush 6, 2) := by decide +kernel
theorem dX2_kindNamed_5 : decode cX2_kindNamed 5 = .ok (.if_icmp .ge 22, 3) := by decide +kernel
theorem dX2_kindNamed_8 : decode cX2_kindNamed 8 = .ok (.aload_n 0, 1) := by decide +kernel
theorem dX2_kindNamed_9 : decode cX2_kindNamed 9 = .ok (.iload_n 1, 1) := by decide +kernel
theorem dX2_kindNamed_10 : decode cX2_kindNamed 10 = .ok (.invokestatic 105, 3) := by decide +kernel
theorem dX2_kindNamed_13 : decode cX2_kindNamed 13 = .ok (.invokevirtual 50, 3) := by decide +kernel
theorem dX2_kindNamed_16 : decode cX2_kindNamed 16 = .ok (.ifCond .eq 5, 3) := by decide +kernel
theorem dX2_kindNamed_19 : decode cX2_kindNamed 19 = .ok (.iload_n 1, 1) := by decide +kernel
theorem dX2_kindNamed_20 : decode cX2_kindNamed 20 = .ok (.ireturn, 1) := by decide +kernel
theorem dX2_kindNamed_21 : decode cX2_kindNamed 21 = .ok (.iinc 1 1, 3) := by decide +kernel
theorem dX2_kindNamed_24 : decode cX2_kindNamed 24 = .ok (.goto (-22), 3) := by decide +kernel
theorem dX2_kindNamed_27 : decode cX2_kindNamed 27 = .ok (.iconst (-1), 1) := by decide +kernel
theorem dX2_kindNamed_28 : decode cX2_kindNamed 28 = .ok (.ireturn, 1) := by decide +kernel
theorem dX2_nameOf_0 : decode cX2_nameOf 0 = .ok (.iload_n 0, 1) := by decide +kernel
theorem dX2_nameOf_1 : decode cX2_nameOf 1 = .ok (.tableswitch 50 1 5 #[35, 38, 41, 44, 47], 35) := by decide +kernel
theorem dX2_nameOf_36 : decode cX2_nameOf 36 = .ok (.ldc 109, 2) := by decide +kernel
theorem dX2_nameOf_38 : decode cX2_nameOf 38 = .ok (.areturn, 1) := by decide +kernel
theorem dX2_nameOf_39 : decode cX2_nameOf 39 = .ok (.ldc 111, 2) := by decide +kernel
theorem dX2_nameOf_41 : decode cX2_nameOf 41 = .ok (.areturn, 1) := by decide +kernel
theorem dX2_nameOf_42 : decode cX2_nameOf 42 = .ok (.ldc 113, 2) := by decide +kernel
theorem dX2_nameOf_44 : decode cX2_nameOf 44 = .ok (.areturn, 1) := by decide +kernel
theorem dX2_nameOf_45 : decode cX2_nameOf 45 = .ok (.ldc 115, 2) := by decide +kernel
theorem dX2_nameOf_47 : decode cX2_nameOf 47 = .ok (.areturn, 1) := by decide +kernel
theorem dX2_nameOf_48 : decode cX2_nameOf 48 = .ok (.ldc 117, 2) := by decide +kernel
theorem dX2_nameOf_50 : decode cX2_nameOf 50 = .ok (.areturn, 1) := by decide +kernel
theorem dX2_nameOf_51 : decode cX2_nameOf 51 = .ok (.ldc 119, 2) := by decide +kernel
theorem dX2_nameOf_53 : decode cX2_nameOf 53 = .ok (.areturn, 1) := by decide +kernel
theorem dX2_takeWord_0 : decode cX2_takeWord 0 = .ok (.aload_n 0, 1) := by decide +kernel
theorem dX2_takeWord_1 : decode cX2_takeWord 1 = .ok (.aload_n 1, 1) := by decide +kernel
theorem dX2_takeWord_2 : decode cX2_takeWord 2 = .ok (.invokevirtual 50, 3) := by decide +kernel
theorem dX2_takeWord_5 : decode cX2_takeWord 5 = .ok (.ifCond .ne 5, 3) := by decide +kernel
theorem dX2_takeWord_8 : decode cX2_takeWord 8 = .ok (.iconst 0, 1) := by decide +kernel
theorem dX2_takeWord_9 : decode cX2_takeWord 9 = .ok (.ireturn, 1) := by decide +kernel
theorem dX2_takeWord_10 : decode cX2_takeWord 10 = .ok (.aload_n 0, 1) := by decide +kernel
theorem dX2_takeWord_11 : decode cX2_takeWord 11 = .ok (.invokevirtual 22, 3) := by decide +kernel
theorem dX2_takeWord_14 : decode cX2_takeWord 14 = .ok (.iconst 1, 1) := by decide +kernel
theorem dX2_takeWord_15 : decode cX2_takeWord 15 = .ok (.ireturn, 1) := by decide +kernel
theorem dX2_takeNumber_0 : decode cX2_takeNumber 0 = .ok (.aload_n 0, 1) := by decide +kernel
theorem dX2_takeNumber_1 : decode cX2_takeNumber 1 = .ok (.getfield 32, 3) := by decide +kernel
theorem dX2_takeNumber_4 : decode cX2_takeNumber 4 = .ok (.iconst 2, 1) := by decide +kernel
theorem dX2_takeNumber_5 : decode cX2_takeNumber 5 = .ok (.if_icmp .ne 19, 3) := by decide +kernel
theorem dX2_takeNumber_8 : decode cX2_takeNumber 8 = .ok (.aload_n 0, 1) := by decide +kernel
theorem dX2_takeNumber_9 : decode cX2_takeNumber 9 = .ok (.getfield 97, 3) := by decide +kernel
theorem dX2_takeNumber_12 : decode cX2_takeNumber 12 = .ok (.iload_n 1, 1) := by decide +kernel
theorem dX2_takeNumber_13 : decode cX2_takeNumber 13 = .ok (.if_icmp .lt 11, 3) := by decide +kernel
theorem dX2_takeNumber_16 : decode cX2_takeNumber 16 = .ok (.aload_n 0, 1) := by decide +kernel
theorem dX2_takeNumber_17 : decode cX2_takeNumber 17 = .ok (.getfield 97, 3) := by decide +kernel
theorem dX2_takeNumber_20 : decode cX2_takeNumber 20 = .ok (.iload_n 2, 1) := by decide +kernel
theorem dX2_takeNumber_21 : decode cX2_takeNumber 21 = .ok (.if_icmp .le 5, 3) := by decide +kernel
theorem dX2_takeNumber_24 : decode cX2_takeNumber 24 = .ok (.iconst (-1), 1) := by decide +kernel
theorem dX2_takeNumber_25 : decode cX2_takeNumber 25 = .ok (.ireturn, 1) := by decide +kernel
theorem dX2_takeNumber_26 : decode cX2_takeNumber 26 = .ok (.aload_n 0, 1) := by decide +kernel
theorem dX2_takeNumber_27 : decode cX2_takeNumber 27 = .ok (.getfield 97, 3) := by decide +kernel
theorem dX2_takeNumber_30 : decode cX2_takeNumber 30 = .ok (.istore_n 3, 1) := by decide +kernel
theorem dX2_takeNumber_31 : decode cX2_takeNumber 31 = .ok (.aload_n 0, 1) := by decide +kernel
theorem dX2_takeNumber_32 : decode cX2_takeNumber 32 = .ok (.invokevirtual 22, 3) := by decide +kernel
theorem dX2_takeNumber_35 : decode cX2_takeNumber 35 = .ok (.iload_n 3, 1) := by decide +kernel
theorem dX2_takeNumber_36 : decode cX2_takeNumber 36 = .ok (.ireturn, 1) := by decide +kernel
theorem dX2_isWord_0 : decode cX2_isWord 0 = .ok (.aload_n 0, 1) := by decide +kernel
theorem dX2_isWord_1 : decode cX2_isWord 1 = .ok (.getfield 32, 3) := by decide +kernel
theorem dX2_isWord_4 : decode cX2_isWord 4 = .ok (.iconst 1, 1) := by decide +kernel
theorem dX2_isWord_5 : decode cX2_isWord 5 = .ok (.if_icmp .ne 19, 3) := by decide +kernel
theorem dX2_isWord_8 : decode cX2_isWord 8 = .ok (.aload_n 0, 1) := by decide +kernel
theorem dX2_isWord_9 : decode cX2_isWord 9 = .ok (.getfield 19, 3) := by decide +kernel
theorem dX2_isWord_12 : decode cX2_isWord 12 = .ok (.aload_n 0, 1) := by decide +kernel
theorem dX2_isWord_13 : decode cX2_isWord 13 = .ok (.getfield 29, 3) := by decide +kernel
theorem dX2_isWord_16 : decode cX2_isWord 16 = .ok (.isub, 1) := by decide +kernel
theorem dX2_isWord_17 : decode cX2_isWord 17 = .ok (.aload_n 1, 1) := by decide +kernel
theorem dX2_isWord_18 : decode cX2_isWord 18 = .ok (.invokevirtual 121, 3) := by decide +kernel
theorem dX2_isWord_21 : decode cX2_isWord 21 = .ok (.if_icmp .eq 5, 3) := by decide +kernel
theorem dX2_isWord_24 : decode cX2_isWord 24 = .ok (.iconst 0, 1) := by decide +kernel
theorem dX2_isWord_25 : decode cX2_isWord 25 = .ok (.ireturn, 1) := by decide +kernel
theorem dX2_isWord_26 : decode cX2_isWord 26 = .ok (.iconst 0, 1) := by decide +kernel
theorem dX2_isWord_27 : decode cX2_isWord 27 = .ok (.istore_n 2, 1) := by decide +kernel
theorem dX2_isWord_28 : decode cX2_isWord 28 = .ok (.iload_n 2, 1) := by decide +kernel
theorem dX2_isWord_29 : decode cX2_isWord 29 = .ok (.aload_n 1, 1) := by decide +kernel
theorem dX2_isWord_30 : decode cX2_isWord 30 = .ok (.invokevirtual 121, 3) := by decide +kernel
theorem dX2_isWord_33 : decode cX2_isWord 33 = .ok (.if_icmp .ge 29, 3) := by decide +kernel
theorem dX2_isWord_36 : decode cX2_isWord 36 = .ok (.aload_n 0, 1) := by decide +kernel
theorem dX2_isWord_37 : decode cX2_isWord 37 = .ok (.aload_n 0, 1) := by decide +kernel
theorem dX2_isWord_38 : decode cX2_isWord 38 = .ok (.getfield 29, 3) := by decide +kernel
theorem dX2_isWord_41 : decode cX2_isWord 41 = .ok (.iload_n 2, 1) := by decide +kernel
theorem dX2_isWord_42 : decode cX2_isWord 42 = .ok (.iadd, 1) := by decide +kernel
theorem dX2_isWord_43 : decode cX2_isWord 43 = .ok (.invokevirtual 125, 3) := by decide +kernel
theorem dX2_isWord_46 : decode cX2_isWord 46 = .ok (.aload_n 1, 1) := by decide +kernel
theorem dX2_isWord_47 : decode cX2_isWord 47 = .ok (.iload_n 2, 1) := by decide +kernel
theorem dX2_isWord_48 : decode cX2_isWord 48 = .ok (.invokevirtual 129, 3) := by decide +kernel
theorem dX2_isWord_51 : decode cX2_isWord 51 = .ok (.if_icmp .eq 5, 3) := by decide +kernel
theorem dX2_isWord_54 : decode cX2_isWord 54 = .ok (.iconst 0, 1) := by decide +kernel
theorem dX2_isWord_55 : decode cX2_isWord 55 = .ok (.ireturn, 1) := by decide +kernel
theorem dX2_isWord_56 : decode cX2_isWord 56 = .ok (.iinc 2 1, 3) := by decide +kernel
theorem dX2_isWord_59 : decode cX2_isWord 59 = .ok (.goto (-31), 3) := by decide +kernel
theorem dX2_isWord_62 : decode cX2_isWord 62 = .ok (.iconst 1, 1) := by decide +kernel
theorem dX2_isWord_63 : decode cX2_isWord 63 = .ok (.ireturn, 1) := by decide +kernel
theorem dX2_goAhead_0 : decode cX2_goAhead 0 = .ok (.aload_n 0, 1) := by decide +kernel
theorem dX2_goAhead_1 : decode cX2_goAhead 1 = .ok (.aload_n 0, 1) := by decide +kernel
theorem dX2_goAhead_2 : decode cX2_goAhead 2 = .ok (.getfield 19, 3) := by decide +kernel
theorem dX2_goAhead_5 : decode cX2_goAhead 5 = .ok (.putfield 29, 3) := by decide +kernel
theorem dX2_goAhead_8 : decode cX2_goAhead 8 = .ok (.aload_n 0, 1) := by decide +kernel
theorem dX2_goAhead_9 : decode cX2_goAhead 9 = .ok (.getfield 29, 3) := by decide +kernel
theorem dX2_goAhead_12 : decode cX2_goAhead 12 = .ok (.aload_n 0, 1) := by decide +kernel
theorem dX2_goAhead_13 : decode cX2_goAhead 13 = .ok (.getfield 15, 3) := by decide +kernel
theorem dX2_goAhead_16 : decode cX2_goAhead 16 = .ok (.if_icmp .ge 29, 3) := by decide +kernel
theorem dX2_goAhead_19 : decode cX2_goAhead 19 = .ok (.aload_n 0, 1) := by decide +kernel
theorem dX2_goAhead_20 : decode cX2_goAhead 20 = .ok (.aload_n 0, 1) := by decide +kernel
theorem dX2_goAhead_21 : decode cX2_goAhead 21 = .ok (.getfield 29, 3) := by decide +kernel
theorem dX2_goAhead_24 : decode cX2_goAhead 24 = .ok (.invokevirtual 125, 3) := by decide +kernel
theorem dX2_goAhead_27 : decode cX2_goAhead 27 = .ok (.bipush 32, 2) := by decide +kernel
theorem dX2_goAhead_29 : decode cX2_goAhead 29 = .ok (.if_icmp .ne 16, 3) := by decide +kernel
theorem dX2_goAhead_32 : decode cX2_goAhead 32 = .ok (.aload_n 0, 1) := by decide +kernel
theorem dX2_goAhead_33 : decode cX2_goAhead 33 = .ok (.dup, 1) := by decide +kernel
theorem dX2_goAhead_34 : decode cX2_goAhead 34 = .ok (.getfield 29, 3) := by decide +kernel
theorem dX2_goAhead_37 : decode cX2_goAhead 37 = .ok (.iconst 1, 1) := by decide +kernel
theorem dX2_goAhead_38 : decode cX2_goAhead 38 = .ok (.iadd, 1) := by decide +kernel
theorem dX2_goAhead_39 : decode cX2_goAhead 39 = .ok (.putfield 29, 3) := by decide +kernel
theorem dX2_goAhead_42 : decode cX2_goAhead 42 = .ok (.goto (-34), 3) := by decide +kernel
theorem dX2_goAhead_45 : decode cX2_goAhead 45 = .ok (.aload_n 0, 1) := by decide +kernel
theorem dX2_goAhead_46 : decode cX2_goAhead 46 = .ok (.aload_n 0, 1) := by decide +kernel
theorem dX2_goAhead_47 : decode cX2_goAhead 47 = .ok (.getfield 29, 3) := by decide +kernel
theorem dX2_goAhead_50 : decode cX2_goAhead 50 = .ok (.iconst 1, 1) := by decide +kernel
theorem dX2_goAhead_51 : decode cX2_goAhead 51 = .ok (.iadd, 1) := by decide +kernel
theorem dX2_goAhead_52 : decode cX2_goAhead 52 = .ok (.putfield 19, 3) := by decide +kernel
theorem dX2_goAhead_55 : decode cX2_goAhead 55 = .ok (.aload_n 0, 1) := by decide +kernel
theorem dX2_goAhead_56 : decode cX2_goAhead 56 = .ok (.iconst 0, 1) := by decide +kernel
theorem dX2_goAhead_57 : decode cX2_goAhead 57 = .ok (.putfield 97, 3) := by decide +kernel
theorem dX2_goAhead_60 : decode cX2_goAhead 60 = .ok (.aload_n 0, 1) := by decide +kernel
theorem dX2_goAhead_61 : decode cX2_goAhead 61 = .ok (.aload_n 0, 1) := by decide +kernel
theorem dX2_goAhead_62 : decode cX2_goAhead 62 = .ok (.getfield 29, 3) := by decide +kernel
theorem dX2_goAhead_65 : decode cX2_goAhead 65 = .ok (.invokevirtual 125, 3) := by decide +kernel
theorem dX2_goAhead_68 : decode cX2_goAhead 68 = .ok (.istore_n 1, 1) := by decide +kernel
theorem dX2_goAhead_69 : decode cX2_goAhead 69 = .ok (.aload_n 0, 1) := by decide +kernel
theorem dX2_goAhead_70 : decode cX2_goAhead 70 = .ok (.getfield 29, 3) := by decide +kernel
theorem dX2_goAhead_73 : decode cX2_goAhead 73 = .ok (.aload_n 0, 1) := by decide +kernel
theorem dX2_goAhead_74 : decode cX2_goAhead 74 = .ok (.getfield 15, 3) := by decide +kernel
theorem dX2_goAhead_77 : decode cX2_goAhead 77 = .ok (.if_icmp .lt 19, 3) := by decide +kernel
theorem dX2_goAhead_80 : decode cX2_goAhead 80 = .ok (.aload_n 0, 1) := by decide +kernel
theorem dX2_goAhead_81 : decode cX2_goAhead 81 = .ok (.iconst 0, 1) := by decide +kernel
theorem dX2_goAhead_82 : decode cX2_goAhead 82 = .ok (.putfield 32, 3) := by decide +kernel
theorem dX2_goAhead_85 : decode cX2_goAhead 85 = .ok (.aload_n 0, 1) := by decide +kernel
theorem dX2_goAhead_86 : decode cX2_goAhead 86 = .ok (.aload_n 0, 1) := by decide +kernel
theorem dX2_goAhead_87 : decode cX2_goAhead 87 = .ok (.getfield 29, 3) := by decide +kernel
theorem dX2_goAhead_90 : decode cX2_goAhead 90 = .ok (.putfield 19, 3) := by decide +kernel
theorem dX2_goAhead_93 : decode cX2_goAhead 93 = .ok (.goto 56, 3) := by decide +kernel
theorem dX2_goAhead_96 : decode cX2_goAhead 96 = .ok (.iload_n 1, 1) := by decide +kernel
theorem dX2_goAhead_97 : decode cX2_goAhead 97 = .ok (.invokestatic 133, 3) := by decide +kernel
theorem dX2_goAhead_100 : decode cX2_goAhead 100 = .ok (.ifCond .eq 15, 3) := by decide +kernel
theorem dX2_goAhead_103 : decode cX2_goAhead 103 = .ok (.aload_n 0, 1) := by decide +kernel
theorem dX2_goAhead_104 : decode cX2_goAhead 104 = .ok (.iconst 1, 1) := by decide +kernel
theorem dX2_goAhead_105 : decode cX2_goAhead 105 = .ok (.putfield 32, 3) := by decide +kernel
theorem dX2_goAhead_108 : decode cX2_goAhead 108 = .ok (.aload_n 0, 1) := by decide +kernel
theorem dX2_goAhead_109 : decode cX2_goAhead 109 = .ok (.invokevirtual 137, 3) := by decide +kernel
theorem dX2_goAhead_112 : decode cX2_goAhead 112 = .ok (.goto 37, 3) := by decide +kernel
theorem dX2_goAhead_115 : decode cX2_goAhead 115 = .ok (.iload_n 1, 1) := by decide +kernel
theorem dX2_goAhead_116 : decode cX2_goAhead 116 = .ok (.invokestatic 140, 3) := by decide +kernel
theorem dX2_goAhead_119 : decode cX2_goAhead 119 = .ok (.ifCond .eq 15, 3) := by decide +kernel
theorem dX2_goAhead_122 : decode cX2_goAhead 122 = .ok (.aload_n 0, 1) := by decide +kernel
theorem dX2_goAhead_123 : decode cX2_goAhead 123 = .ok (.iconst 2, 1) := by decide +kernel
theorem dX2_goAhead_124 : decode cX2_goAhead 124 = .ok (.putfield 32, 3) := by decide +kernel
theorem dX2_goAhead_127 : decode cX2_goAhead 127 = .ok (.aload_n 0, 1) := by decide +kernel
theorem dX2_goAhead_128 : decode cX2_goAhead 128 = .ok (.invokevirtual 143, 3) := by decide +kernel
theorem dX2_goAhead_131 : decode cX2_goAhead 131 = .ok (.goto 18, 3) := by decide +kernel
theorem dX2_goAhead_134 : decode cX2_goAhead 134 = .ok (.aload_n 0, 1) := by decide +kernel
theorem dX2_goAhead_135 : decode cX2_goAhead 135 = .ok (.iload_n 1, 1) := by decide +kernel
theorem dX2_goAhead_136 : decode cX2_goAhead 136 = .ok (.bipush 59, 2) := by decide +kernel
theorem dX2_goAhead_138 : decode cX2_goAhead 138 = .ok (.if_icmp .ne 7, 3) := by decide +kernel
theorem dX2_goAhead_141 : decode cX2_goAhead 141 = .ok (.iconst 3, 1) := by decide +kernel
theorem dX2_goAhead_142 : decode cX2_goAhead 142 = .ok (.goto 4, 3) := by decide +kernel
theorem dX2_goAhead_145 : decode cX2_goAhead 145 = .ok (.iconst 4, 1) := by decide +kernel
theorem dX2_goAhead_146 : decode cX2_goAhead 146 = .ok (.putfield 32, 3) := by decide +kernel
theorem dX2_goAhead_149 : decode cX2_goAhead 149 = .ok (.return_, 1) := by decide +kernel
theorem dX2_endWord_0 : decode cX2_endWord 0 = .ok (.aload_n 0, 1) := by decide +kernel
theorem dX2_endWord_1 : decode cX2_endWord 1 = .ok (.getfield 19, 3) := by decide +kernel
theorem dX2_endWord_4 : decode cX2_endWord 4 = .ok (.aload_n 0, 1) := by decide +kernel
theorem dX2_endWord_5 : decode cX2_endWord 5 = .ok (.getfield 15, 3) := by decide +kernel
theorem dX2_endWord_8 : decode cX2_endWord 8 = .ok (.if_icmp .ge 30, 3) := by decide +kernel
theorem dX2_endWord_11 : decode cX2_endWord 11 = .ok (.aload_n 0, 1) := by decide +kernel
theorem dX2_endWord_12 : decode cX2_endWord 12 = .ok (.aload_n 0, 1) := by decide +kernel
theorem dX2_endWord_13 : decode cX2_endWord 13 = .ok (.getfield 19, 3) := by decide +kernel
theorem dX2_endWord_16 : decode cX2_endWord 16 = .ok (.invokevirtual 125, 3) := by decide +kernel
theorem dX2_endWord_19 : decode cX2_endWord 19 = .ok (.invokestatic 133, 3) := by decide +kernel
theorem dX2_endWord_22 : decode cX2_endWord 22 = .ok (.ifCond .eq 16, 3) := by decide +kernel
theorem dX2_endWord_25 : decode cX2_endWord 25 = .ok (.aload_n 0, 1) := by decide +kernel
theorem dX2_endWord_26 : decode cX2_endWord 26 = .ok (.dup, 1) := by decide +kernel
theorem dX2_endWord_27 : decode cX2_endWord 27 = .ok (.getfield 19, 3) := by decide +kernel
theorem dX2_endWord_30 : decode cX2_endWord 30 = .ok (.iconst 1, 1) := by decide +kernel
theorem dX2_endWord_31 : decode cX2_endWord 31 = .ok (.iadd, 1) := by decide +kernel
theorem dX2_endWord_32 : decode cX2_endWord 32 = .ok (.putfield 19, 3) := by decide +kernel
theorem dX2_endWord_35 : decode cX2_endWord 35 = .ok (.goto (-35), 3) := by decide +kernel
theorem dX2_endWord_38 : decode cX2_endWord 38 = .ok (.return_, 1) := by decide +kernel
theorem dX2_endNumber_0 : decode cX2_endNumber 0 = .ok (.aload_n 0, 1) := by decide +kernel
theorem dX2_endNumber_1 : decode cX2_endNumber 1 = .ok (.aload_n 0, 1) := by decide +kernel
theorem dX2_endNumber_2 : decode cX2_endNumber 2 = .ok (.aload_n 0, 1) := by decide +kernel
theorem dX2_endNumber_3 : decode cX2_endNumber 3 = .ok (.getfield 29, 3) := by decide +kernel
theorem dX2_endNumber_6 : decode cX2_endNumber 6 = .ok (.invokevirtual 125, 3) := by decide +kernel
theorem dX2_endNumber_9 : decode cX2_endNumber 9 = .ok (.bipush 48, 2) := by decide +kernel
theorem dX2_endNumber_11 : decode cX2_endNumber 11 = .ok (.isub, 1) := by decide +kernel
theorem dX2_endNumber_12 : decode cX2_endNumber 12 = .ok (.putfield 97, 3) := by decide +kernel
theorem dX2_endNumber_15 : decode cX2_endNumber 15 = .ok (.aload_n 0, 1) := by decide +kernel
theorem dX2_endNumber_16 : decode cX2_endNumber 16 = .ok (.getfield 19, 3) := by decide +kernel
theorem dX2_endNumber_19 : decode cX2_endNumber 19 = .ok (.aload_n 0, 1) := by decide +kernel
theorem dX2_endNumber_20 : decode cX2_endNumber 20 = .ok (.getfield 15, 3) := by decide +kernel
theorem dX2_endNumber_23 : decode cX2_endNumber 23 = .ok (.if_icmp .ge 59, 3) := by decide +kernel
theorem dX2_endNumber_26 : decode cX2_endNumber 26 = .ok (.aload_n 0, 1) := by decide +kernel
theorem dX2_endNumber_27 : decode cX2_endNumber 27 = .ok (.aload_n 0, 1) := by decide +kernel
theorem dX2_endNumber_28 : decode cX2_endNumber 28 = .ok (.getfield 19, 3) := by decide +kernel
theorem dX2_endNumber_31 : decode cX2_endNumber 31 = .ok (.invokevirtual 125, 3) := by decide +kernel
theorem dX2_endNumber_34 : decode cX2_endNumber 34 = .ok (.invokestatic 140, 3) := by decide +kernel
theorem dX2_endNumber_37 : decode cX2_endNumber 37 = .ok (.ifCond .eq 45, 3) := by decide +kernel
theorem dX2_endNumber_40 : decode cX2_endNumber 40 = .ok (.aload_n 0, 1) := by decide +kernel
theorem dX2_endNumber_41 : decode cX2_endNumber 41 = .ok (.sipush 10000, 3) := by decide +kernel
theorem dX2_endNumber_44 : decode cX2_endNumber 44 = .ok (.bipush 10, 2) := by decide +kernel
theorem dX2_endNumber_46 : decode cX2_endNumber 46 = .ok (.aload_n 0, 1) := by decide +kernel
theorem dX2_endNumber_47 : decode cX2_endNumber 47 = .ok (.getfield 97, 3) := by decide +kernel
theorem dX2_endNumber_50 : decode cX2_endNumber 50 = .ok (.imul, 1) := by decide +kernel
theorem dX2_endNumber_51 : decode cX2_endNumber 51 = .ok (.aload_n 0, 1) := by decide +kernel
theorem dX2_endNumber_52 : decode cX2_endNumber 52 = .ok (.aload_n 0, 1) := by decide +kernel
theorem dX2_endNumber_53 : decode cX2_endNumber 53 = .ok (.getfield 19, 3) := by decide +kernel
theorem dX2_endNumber_56 : decode cX2_endNumber 56 = .ok (.invokevirtual 125, 3) := by decide +kernel
theorem dX2_endNumber_59 : decode cX2_endNumber 59 = .ok (.iadd, 1) := by decide +kernel
theorem dX2_endNumber_60 : decode cX2_endNumber 60 = .ok (.bipush 48, 2) := by decide +kernel
theorem dX2_endNumber_62 : decode cX2_endNumber 62 = .ok (.isub, 1) := by decide +kernel
theorem dX2_endNumber_63 : decode cX2_endNumber 63 = .ok (.invokestatic 146, 3) := by decide +kernel
theorem dX2_endNumber_66 : decode cX2_endNumber 66 = .ok (.putfield 97, 3) := by decide +kernel
theorem dX2_endNumber_69 : decode cX2_endNumber 69 = .ok (.aload_n 0, 1) := by decide +kernel
theorem dX2_endNumber_70 : decode cX2_endNumber 70 = .ok (.dup, 1) := by decide +kernel
theorem dX2_endNumber_71 : decode cX2_endNumber 71 = .ok (.getfield 19, 3) := by decide +kernel
theorem dX2_endNumber_74 : decode cX2_endNumber 74 = .ok (.iconst 1, 1) := by decide +kernel
theorem dX2_endNumber_75 : decode cX2_endNumber 75 = .ok (.iadd, 1) := by decide +kernel
theorem dX2_endNumber_76 : decode cX2_endNumber 76 = .ok (.putfield 19, 3) := by decide +kernel
theorem dX2_endNumber_79 : decode cX2_endNumber 79 = .ok (.goto (-64), 3) := by decide +kernel
theorem dX2_endNumber_82 : decode cX2_endNumber 82 = .ok (.return_, 1) := by decide +kernel
theorem dX2_isLetter_0 : decode cX2_isLetter 0 = .ok (.iload_n 0, 1) := by decide +kernel
theorem dX2_isLetter_1 : decode cX2_isLetter 1 = .ok (.bipush 97, 2) := by decide +kernel
theorem dX2_isLetter_3 : decode cX2_isLetter 3 = .ok (.if_icmp .lt 13, 3) := by decide +kernel
theorem dX2_isLetter_6 : decode cX2_isLetter 6 = .ok (.iload_n 0, 1) := by decide +kernel
theorem dX2_isLetter_7 : decode cX2_isLetter 7 = .ok (.bipush 122, 2) := by decide +kernel
theorem dX2_isLetter_9 : decode cX2_isLetter 9 = .ok (.if_icmp .gt 7, 3) := by decide +kernel
theorem dX2_isLetter_12 : decode cX2_isLetter 12 = .ok (.iconst 1, 1) := by decide +kernel
theorem dX2_isLetter_13 : decode cX2_isLetter 13 = .ok (.goto 4, 3) := by decide +kernel
theorem dX2_isLetter_16 : decode cX2_isLetter 16 = .ok (.iconst 0, 1) := by decide +kernel
theorem dX2_isLetter_17 : decode cX2_isLetter 17 = .ok (.ireturn, 1) := by decide +kernel
theorem dX2_isDigit_0 : decode cX2_isDigit 0 = .ok (.iload_n 0, 1) := by decide +kernel
theorem dX2_isDigit_1 : decode cX2_isDigit 1 = .ok (.bipush 48, 2) := by decide +kernel
theorem dX2_isDigit_3 : decode cX2_isDigit 3 = .ok (.if_icmp .lt 13, 3) := by decide +kernel
theorem dX2_isDigit_6 : decode cX2_isDigit 6 = .ok (.iload_n 0, 1) := by decide +kernel
theorem dX2_isDigit_7 : decode cX2_isDigit 7 = .ok (.bipush 57, 2) := by decide +kernel
theorem dX2_isDigit_9 : decode cX2_isDigit 9 = .ok (.if_icmp .gt 7, 3) := by decide +kernel
theorem dX2_isDigit_12 : decode cX2_isDigit 12 = .ok (.iconst 1, 1) := by decide +kernel
theorem dX2_isDigit_13 : decode cX2_isDigit 13 = .ok (.goto 4, 3) := by decide +kernel
theorem dX2_isDigit_16 : decode cX2_isDigit 16 = .ok (.iconst 0, 1) := by decide +kernel
theorem dX2_isDigit_17 : decode cX2_isDigit 17 = .ok (.ireturn, 1) := by decide +kernel
theorem dX2_byteAt_0 : decode cX2_byteAt 0 = .ok (.iload_n 1, 1) := by decide +kernel
theorem dX2_byteAt_1 : decode cX2_byteAt 1 = .ok (.ifCond .lt 26, 3) := by decide +kernel
theorem dX2_byteAt_4 : decode cX2_byteAt 4 = .ok (.iload_n 1, 1) := by decide +kernel
theorem dX2_byteAt_5 : decode cX2_byteAt 5 = .ok (.aload_n 0, 1) := by decide +kernel
theorem dX2_byteAt_6 : decode cX2_byteAt 6 = .ok (.getfield 15, 3) := by decide +kernel
theorem dX2_byteAt_9 : decode cX2_byteAt 9 = .ok (.if_icmp .ge 18, 3) := by decide +kernel
theorem dX2_byteAt_12 : decode cX2_byteAt 12 = .ok (.iload_n 1, 1) := by decide +kernel
theorem dX2_byteAt_13 : decode cX2_byteAt 13 = .ok (.bipush 120, 2) := by decide +kernel
theorem dX2_byteAt_15 : decode cX2_byteAt 15 = .ok (.if_icmp .ge 12, 3) := by decide +kernel
theorem dX2_byteAt_18 : decode cX2_byteAt 18 = .ok (.aload_n 0, 1) := by decide +kernel
theorem dX2_byteAt_19 : decode cX2_byteAt 19 = .ok (.getfield 9, 3) := by decide +kernel
theorem dX2_byteAt_22 : decode cX2_byteAt 22 = .ok (.iload_n 1, 1) := by decide +kernel
theorem dX2_byteAt_23 : decode cX2_byteAt 23 = .ok (.iaload, 1) := by decide +kernel
theorem dX2_byteAt_24 : decode cX2_byteAt 24 = .ok (.goto 4, 3) := by decide +kernel
theorem dX2_byteAt_27 : decode cX2_byteAt 27 = .ok (.iconst (-1), 1) := by decide +kernel
theorem dX2_byteAt_28 : decode cX2_byteAt 28 = .ok (.ireturn, 1) := by decide +kernel
theorem dJ6_bitCount_0f7a4_0 : decode cJ6_bitCount_0f7a4 0 = .ok (.iload_n 0, 1) := by decide +kernel
theorem dJ6_bitCount_0f7a4_1 : decode cJ6_bitCount_0f7a4 1 = .ok (.iload_n 0, 1) := by decide +kernel
theorem dJ6_bitCount_0f7a4_2 : decode cJ6_bitCount_0f7a4 2 = .ok (.iconst 1, 1) := by decide +kernel
theorem dJ6_bitCount_0f7a4_3 : decode cJ6_bitCount_0f7a4 3 = .ok (.iushr, 1) := by decide +kernel
theorem dJ6_bitCount_0f7a4_4 : decode cJ6_bitCount_0f7a4 4 = .ok (.ldc_w 265, 3) := by decide +kernel
theorem dJ6_bitCount_0f7a4_7 : decode cJ6_bitCount_0f7a4 7 = .ok (.iand, 1) := by decide +kernel
theorem dJ6_bitCount_0f7a4_8 : decode cJ6_bitCount_0f7a4 8 = .ok (.isub, 1) := by decide +kernel
theorem dJ6_bitCount_0f7a4_9 : decode cJ6_bitCount_0f7a4 9 = .ok (.istore_n 0, 1) := by decide +kernel
theorem dJ6_bitCount_0f7a4_10 : decode cJ6_bitCount_0f7a4 10 = .ok (.iload_n 0, 1) := by decide +kernel
theorem dJ6_bitCount_0f7a4_11 : decode cJ6_bitCount_0f7a4 11 = .ok (.ldc_w 266, 3) := by decide +kernel
theorem dJ6_bitCount_0f7a4_14 : decode cJ6_bitCount_0f7a4 14 = .ok (.iand, 1) := by decide +kernel
theorem dJ6_bitCount_0f7a4_15 : decode cJ6_bitCount_0f7a4 15 = .ok (.iload_n 0, 1) := by decide +kernel
theorem dJ6_bitCount_0f7a4_16 : decode cJ6_bitCount_0f7a4 16 = .ok (.iconst 2, 1) := by decide +kernel
theorem dJ6_bitCount_0f7a4_17 : decode cJ6_bitCount_0f7a4 17 = .ok (.iushr, 1) := by decide +kernel
theorem dJ6_bitCount_0f7a4_18 : decode cJ6_bitCount_0f7a4 18 = .ok (.ldc_w 266, 3) := by decide +kernel
theorem dJ6_bitCount_0f7a4_21 : decode cJ6_bitCount_0f7a4 21 = .ok (.iand, 1) := by decide +kernel
theorem dJ6_bitCount_0f7a4_22 : decode cJ6_bitCount_0f7a4 22 = .ok (.iadd, 1) := by decide +kernel
theorem dJ6_bitCount_0f7a4_23 : decode cJ6_bitCount_0f7a4 23 = .ok (.istore_n 0, 1) := by decide +kernel
theorem dJ6_bitCount_0f7a4_24 : decode cJ6_bitCount_0f7a4 24 = .ok (.iload_n 0, 1) := by decide +kernel
theorem dJ6_bitCount_0f7a4_25 : decode cJ6_bitCount_0f7a4 25 = .ok (.iload_n 0, 1) := by decide +kernel
theorem dJ6_bitCount_0f7a4_26 : decode cJ6_bitCount_0f7a4 26 = .ok (.iconst 4, 1) := by decide +kernel
theorem dJ6_bitCount_0f7a4_27 : decode cJ6_bitCount_0f7a4 27 = .ok (.iushr, 1) := by decide +kernel
theorem dJ6_bitCount_0f7a4_28 : decode cJ6_bitCount_0f7a4 28 = .ok (.iadd, 1) := by decide +kernel
theorem dJ6_bitCount_0f7a4_29 : decode cJ6_bitCount_0f7a4 29 = .ok (.ldc_w 267, 3) := by decide +kernel
theorem dJ6_bitCount_0f7a4_32 : decode cJ6_bitCount_0f7a4 32 = .ok (.iand, 1) := by decide +kernel
theorem dJ6_bitCount_0f7a4_33 : decode cJ6_bitCount_0f7a4 33 = .ok (.istore_n 0, 1) := by decide +kernel
theorem dJ6_bitCount_0f7a4_34 : decode cJ6_bitCount_0f7a4 34 = .ok (.iload_n 0, 1) := by decide +kernel
theorem dJ6_bitCount_0f7a4_35 : decode cJ6_bitCount_0f7a4 35 = .ok (.iload_n 0, 1) := by decide +kernel
theorem dJ6_bitCount_0f7a4_36 : decode cJ6_bitCount_0f7a4 36 = .ok (.bipush 8, 2) := by decide +kernel
theorem dJ6_bitCount_0f7a4_38 : decode cJ6_bitCount_0f7a4 38 = .ok (.iushr, 1) := by decide +kernel
theorem dJ6_bitCount_0f7a4_39 : decode cJ6_bitCount_0f7a4 39 = .ok (.iadd, 1) := by decide +kernel
theorem dJ6_bitCount_0f7a4_40 : decode cJ6_bitCount_0f7a4 40 = .ok (.istore_n 0, 1) := by decide +kernel
theorem dJ6_bitCount_0f7a4_41 : decode cJ6_bitCount_0f7a4 41 = .ok (.iload_n 0, 1) := by decide +kernel
theorem dJ6_bitCount_0f7a4_42 : decode cJ6_bitCount_0f7a4 42 = .ok (.iload_n 0, 1) := by decide +kernel
theorem dJ6_bitCount_0f7a4_43 : decode cJ6_bitCount_0f7a4 43 = .ok (.bipush 16, 2) := by decide +kernel
theorem dJ6_bitCount_0f7a4_45 : decode cJ6_bitCount_0f7a4 45 = .ok (.iushr, 1) := by decide +kernel
theorem dJ6_bitCount_0f7a4_46 : decode cJ6_bitCount_0f7a4 46 = .ok (.iadd, 1) := by decide +kernel
theorem dJ6_bitCount_0f7a4_47 : decode cJ6_bitCount_0f7a4 47 = .ok (.istore_n 0, 1) := by decide +kernel
theorem dJ6_bitCount_0f7a4_48 : decode cJ6_bitCount_0f7a4 48 = .ok (.iload_n 0, 1) := by decide +kernel
theorem dJ6_bitCount_0f7a4_49 : decode cJ6_bitCount_0f7a4 49 = .ok (.bipush 63, 2) := by decide +kernel
theorem dJ6_bitCount_0f7a4_51 : decode cJ6_bitCount_0f7a4 51 = .ok (.iand, 1) := by decide +kernel
theorem dJ6_bitCount_0f7a4_52 : decode cJ6_bitCount_0f7a4 52 = .ok (.ireturn, 1) := by decide +kernel
theorem dJ9_max_7cf53_0 : decode cJ9_max_7cf53 0 = .ok (.iload_n 0, 1) := by decide +kernel
theorem dJ9_max_7cf53_1 : decode cJ9_max_7cf53 1 = .ok (.iload_n 1, 1) := by decide +kernel
theorem dJ9_max_7cf53_2 : decode cJ9_max_7cf53 2 = .ok (.if_icmp .lt 7, 3) := by decide +kernel
theorem dJ9_max_7cf53_5 : decode cJ9_max_7cf53 5 = .ok (.iload_n 0, 1) := by decide +kernel
theorem dJ9_max_7cf53_6 : decode cJ9_max_7cf53 6 = .ok (.goto 4, 3) := by decide +kernel
theorem dJ9_max_7cf53_9 : decode cJ9_max_7cf53 9 = .ok (.iload_n 1, 1) := by decide +kernel
theorem dJ9_max_7cf53_10 : decode cJ9_max_7cf53 10 = .ok (.ireturn, 1) := by decide +kernel
theorem dJ9_min_7cf53_0 : decode cJ9_min_7cf53 0 = .ok (.iload_n 0, 1) := by decide +kernel
theorem dJ9_min_7cf53_1 : decode cJ9_min_7cf53 1 = .ok (.iload_n 1, 1) := by decide +kernel
theorem dJ9_min_7cf53_2 : decode cJ9_min_7cf53 2 = .ok (.if_icmp .gt 7, 3) := by decide +kernel
theorem dJ9_min_7cf53_5 : decode cJ9_min_7cf53 5 = .ok (.iload_n 0, 1) := by decide +kernel
theorem dJ9_min_7cf53_6 : decode cJ9_min_7cf53 6 = .ok (.goto 4, 3) := by decide +kernel
theorem dJ9_min_7cf53_9 : decode cJ9_min_7cf53 9 = .ok (.iload_n 1, 1) := by decide +kernel
theorem dJ9_min_7cf53_10 : decode cJ9_min_7cf53 10 = .ok (.ireturn, 1) := by decide +kernel
theorem dJ0_length_8abf5_0 : decode cJ0_length_8abf5 0 = .ok (.aload_n 0, 1) := by decide +kernel
theorem dJ0_length_8abf5_1 : decode cJ0_length_8abf5 1 = .ok (.getfield 9, 3) := by decide +kernel
theorem dJ0_length_8abf5_4 : decode cJ0_length_8abf5 4 = .ok (.arraylength, 1) := by decide +kernel
theorem dJ0_length_8abf5_5 : decode cJ0_length_8abf5 5 = .ok (.aload_n 0, 1) := by decide +kernel
theorem dJ0_length_8abf5_6 : decode cJ0_length_8abf5 6 = .ok (.invokevirtual 335, 3) := by decide +kernel
theorem dJ0_length_8abf5_9 : decode cJ0_length_8abf5 9 = .ok (.ishr, 1) := by decide +kernel
theorem dJ0_length_8abf5_10 : decode cJ0_length_8abf5 10 = .ok (.ireturn, 1) := by decide +kernel
theorem dJ0_charAt_5068e_0 : decode cJ0_charAt_5068e 0 = .ok (.aload_n 0, 1) := by decide +kernel
theorem dJ0_charAt_5068e_1 : decode cJ0_charAt_5068e 1 = .ok (.invokevirtual 492, 3) := by decide +kernel
theorem dJ0_charAt_5068e_4 : decode cJ0_charAt_5068e 4 = .ok (.ifCond .eq 12, 3) := by decide +kernel
theorem dJ0_charAt_5068e_7 : decode cJ0_charAt_5068e 7 = .ok (.aload_n 0, 1) := by decide +kernel
theorem dJ0_charAt_5068e_8 : decode cJ0_charAt_5068e 8 = .ok (.getfield 9, 3) := by decide +kernel
theorem dJ0_charAt_5068e_11 : decode cJ0_charAt_5068e 11 = .ok (.iload_n 1, 1) := by decide +kernel
theorem dJ0_charAt_5068e_12 : decode cJ0_charAt_5068e 12 = .ok (.invokestatic 495, 3) := by decide +kernel
theorem dJ0_charAt_5068e_15 : decode cJ0_charAt_5068e 15 = .ok (.ireturn, 1) := by decide +kernel
theorem dJ0_charAt_5068e_16 : decode cJ0_charAt_5068e 16 = .ok (.aload_n 0, 1) := by decide +kernel
theorem dJ0_charAt_5068e_17 : decode cJ0_charAt_5068e 17 = .ok (.getfield 9, 3) := by decide +kernel
theorem dJ0_charAt_5068e_20 : decode cJ0_charAt_5068e 20 = .ok (.iload_n 1, 1) := by decide +kernel
theorem dJ0_charAt_5068e_21 : decode cJ0_charAt_5068e 21 = .ok (.invokestatic 498, 3) := by decide +kernel
theorem dJ0_charAt_5068e_24 : decode cJ0_charAt_5068e 24 = .ok (.ireturn, 1) := by decide +kernel
theorem dJ0_coder_7d493_0 : decode cJ0_coder_7d493 0 = .ok (.getstatic 38, 3) := by decide +kernel
theorem dJ0_coder_7d493_3 : decode cJ0_coder_7d493 3 = .ok (.ifCond .eq 10, 3) := by decide +kernel
theorem dJ0_coder_7d493_6 : decode cJ0_coder_7d493 6 = .ok (.aload_n 0, 1) := by decide +kernel
theorem dJ0_coder_7d493_7 : decode cJ0_coder_7d493 7 = .ok (.getfield 15, 3) := by decide +kernel
theorem dJ0_coder_7d493_10 : decode cJ0_coder_7d493 10 = .ok (.goto 4, 3) := by decide +kernel
theorem dJ0_coder_7d493_13 : decode cJ0_coder_7d493 13 = .ok (.iconst 1, 1) := by decide +kernel
theorem dJ0_coder_7d493_14 : decode cJ0_coder_7d493 14 = .ok (.ireturn, 1) := by decide +kernel
theorem dJ0_isLatin1_aae02_0 : decode cJ0_isLatin1_aae02 0 = .ok (.getstatic 38, 3) := by decide +kernel
theorem dJ0_isLatin1_aae02_3 : decode cJ0_isLatin1_aae02 3 = .ok (.ifCond .eq 14, 3) := by decide +kernel
theorem dJ0_isLatin1_aae02_6 : decode cJ0_isLatin1_aae02 6 = .ok (.aload_n 0, 1) := by decide +kernel
theorem dJ0_isLatin1_aae02_7 : decode cJ0_isLatin1_aae02 7 = .ok (.getfield 15, 3) := by decide +kernel
theorem dJ0_isLatin1_aae02_10 : decode cJ0_isLatin1_aae02 10 = .ok (.ifCond .ne 7, 3) := by decide +kernel
theorem dJ0_isLatin1_aae02_13 : decode cJ0_isLatin1_aae02 13 = .ok (.iconst 1, 1) := by decide +kernel
theorem dJ0_isLatin1_aae02_14 : decode cJ0_isLatin1_aae02 14 = .ok (.goto 4, 3) := by decide +kernel
theorem dJ0_isLatin1_aae02_17 : decode cJ0_isLatin1_aae02 17 = .ok (.iconst 0, 1) := by decide +kernel
theorem dJ0_isLatin1_aae02_18 : decode cJ0_isLatin1_aae02 18 = .ok (.ireturn, 1) := by decide +kernel
theorem dJ0_checkIndex_df160_0 : decode cJ0_checkIndex_df160 0 = .ok (.iload_n 0, 1) := by decide +kernel
theorem dJ0_checkIndex_df160_1 : decode cJ0_checkIndex_df160 1 = .ok (.iload_n 1, 1) := by decide +kernel
theorem dJ0_checkIndex_df160_2 : decode cJ0_checkIndex_df160 2 = .ok (.getstatic 1053, 3) := by decide +kernel
theorem dJ0_checkIndex_df160_5 : decode cJ0_checkIndex_df160 5 = .ok (.invokestatic 1059, 3) := by decide +kernel
theorem dJ0_checkIndex_df160_8 : decode cJ0_checkIndex_df160 8 = .ok (.pop, 1) := by decide +kernel
theorem dJ0_checkIndex_df160_9 : decode cJ0_checkIndex_df160 9 = .ok (.return_, 1) := by decide +kernel
theorem dJ1_charAt_3b067_0 : decode cJ1_charAt_3b067 0 = .ok (.iload_n 1, 1) := by decide +kernel
theorem dJ1_charAt_3b067_1 : decode cJ1_charAt_3b067 1 = .ok (.aload_n 0, 1) := by decide +kernel
theorem dJ1_charAt_3b067_2 : decode cJ1_charAt_3b067 2 = .ok (.arraylength, 1) := by decide +kernel
theorem dJ1_charAt_3b067_3 : decode cJ1_charAt_3b067 3 = .ok (.invokestatic 9, 3) := by decide +kernel
theorem dJ1_charAt_3b067_6 : decode cJ1_charAt_3b067 6 = .ok (.aload_n 0, 1) := by decide +kernel
theorem dJ1_charAt_3b067_7 : decode cJ1_charAt_3b067 7 = .ok (.iload_n 1, 1) := by decide +kernel
theorem dJ1_charAt_3b067_8 : decode cJ1_charAt_3b067 8 = .ok (.baload, 1) := by decide +kernel
theorem dJ1_charAt_3b067_9 : decode cJ1_charAt_3b067 9 = .ok (.sipush 255, 3) := by decide +kernel
theorem dJ1_charAt_3b067_12 : decode cJ1_charAt_3b067 12 = .ok (.iand, 1) := by decide +kernel
theorem dJ1_charAt_3b067_13 : decode cJ1_charAt_3b067 13 = .ok (.i2c, 1) := by decide +kernel
theorem dJ1_charAt_3b067_14 : decode cJ1_charAt_3b067 14 = .ok (.ireturn, 1) := by decide +kernel
theorem dJ2_getChar_3b067_0 : decode cJ2_getChar_3b067 0 = .ok (.getstatic 44, 3) := by decide +kernel
theorem dJ2_getChar_3b067_3 : decode cJ2_getChar_3b067 3 = .ok (.ifCond .ne 25, 3) := by decide +kernel
theorem dJ2_getChar_3b067_6 : decode cJ2_getChar_3b067 6 = .ok (.iload_n 1, 1) := by decide +kernel
theorem dJ2_getChar_3b067_7 : decode cJ2_getChar_3b067 7 = .ok (.ifCond .lt 11, 3) := by decide +kernel
theorem dJ2_getChar_3b067_10 : decode cJ2_getChar_3b067 10 = .ok (.iload_n 1, 1) := by decide +kernel
theorem dJ2_getChar_3b067_11 : decode cJ2_getChar_3b067 11 = .ok (.aload_n 0, 1) := by decide +kernel
theorem dJ2_getChar_3b067_12 : decode cJ2_getChar_3b067 12 = .ok (.invokestatic 48, 3) := by decide +kernel
theorem dJ2_getChar_3b067_15 : decode cJ2_getChar_3b067 15 = .ok (.if_icmp .lt 13, 3) := by decide +kernel
theorem dJ2_getChar_3b067_18 : decode cJ2_getChar_3b067 18 = .ok (.new 52, 3) := by decide +kernel
theorem dJ2_getChar_3b067_21 : decode cJ2_getChar_3b067 21 = .ok (.dup, 1) := by decide +kernel
theorem dJ2_getChar_3b067_22 : decode cJ2_getChar_3b067 22 = .ok (.ldc 54, 2) := by decide +kernel
theorem dJ2_getChar_3b067_24 : decode cJ2_getChar_3b067 24 = .ok (.invokespecial 56, 3) := by decide +kernel
theorem dJ2_getChar_3b067_27 : decode cJ2_getChar_3b067 27 = .ok (.athrow, 1) := by decide +kernel
theorem dJ2_getChar_3b067_28 : decode cJ2_getChar_3b067 28 = .ok (.iload_n 1, 1) := by decide +kernel
theorem dJ2_getChar_3b067_29 : decode cJ2_getChar_3b067 29 = .ok (.iconst 1, 1) := by decide +kernel
theorem dJ2_getChar_3b067_30 : decode cJ2_getChar_3b067 30 = .ok (.ishl, 1) := by decide +kernel
theorem dJ2_getChar_3b067_31 : decode cJ2_getChar_3b067 31 = .ok (.istore_n 1, 1) := by decide +kernel
theorem dJ2_getChar_3b067_32 : decode cJ2_getChar_3b067 32 = .ok (.aload_n 0, 1) := by decide +kernel
theorem dJ2_getChar_3b067_33 : decode cJ2_getChar_3b067 33 = .ok (.iload_n 1, 1) := by decide +kernel
theorem dJ2_getChar_3b067_34 : decode cJ2_getChar_3b067 34 = .ok (.iinc 1 1, 3) := by decide +kernel
theorem dJ2_getChar_3b067_37 : decode cJ2_getChar_3b067 37 = .ok (.baload, 1) := by decide +kernel
theorem dJ2_getChar_3b067_38 : decode cJ2_getChar_3b067 38 = .ok (.sipush 255, 3) := by decide +kernel
theorem dJ2_getChar_3b067_41 : decode cJ2_getChar_3b067 41 = .ok (.iand, 1) := by decide +kernel
theorem dJ2_getChar_3b067_42 : decode cJ2_getChar_3b067 42 = .ok (.getstatic 59, 3) := by decide +kernel
theorem dJ2_getChar_3b067_45 : decode cJ2_getChar_3b067 45 = .ok (.ishl, 1) := by decide +kernel
theorem dJ2_getChar_3b067_46 : decode cJ2_getChar_3b067 46 = .ok (.aload_n 0, 1) := by decide +kernel
theorem dJ2_getChar_3b067_47 : decode cJ2_getChar_3b067 47 = .ok (.iload_n 1, 1) := by decide +kernel
theorem dJ2_getChar_3b067_48 : decode cJ2_getChar_3b067 48 = .ok (.baload, 1) := by decide +kernel
theorem dJ2_getChar_3b067_49 : decode cJ2_getChar_3b067 49 = .ok (.sipush 255, 3) := by decide +kernel
theorem dJ2_getChar_3b067_52 : decode cJ2_getChar_3b067 52 = .ok (.iand, 1) := by decide +kernel
theorem dJ2_getChar_3b067_53 : decode cJ2_getChar_3b067 53 = .ok (.getstatic 63, 3) := by decide +kernel
theorem dJ2_getChar_3b067_56 : decode cJ2_getChar_3b067 56 = .ok (.ishl, 1) := by decide +kernel
theorem dJ2_getChar_3b067_57 : decode cJ2_getChar_3b067 57 = .ok (.ior, 1) := by decide +kernel
theorem dJ2_getChar_3b067_58 : decode cJ2_getChar_3b067 58 = .ok (.i2c, 1) := by decide +kernel
theorem dJ2_getChar_3b067_59 : decode cJ2_getChar_3b067 59 = .ok (.ireturn, 1) := by decide +kernel
theorem dJ2_length_9d52b_0 : decode cJ2_length_9d52b 0 = .ok (.aload_n 0, 1) := by decide +kernel
theorem dJ2_length_9d52b_1 : decode cJ2_length_9d52b 1 = .ok (.arraylength, 1) := by decide +kernel
theorem dJ2_length_9d52b_2 : decode cJ2_length_9d52b 2 = .ok (.iconst 1, 1) := by decide +kernel
theorem dJ2_length_9d52b_3 : decode cJ2_length_9d52b 3 = .ok (.ishr, 1) := by decide +kernel
theorem dJ2_length_9d52b_4 : decode cJ2_length_9d52b 4 = .ok (.ireturn, 1) := by decide +kernel
theorem dJ2_charAt_3b067_0 : decode cJ2_charAt_3b067 0 = .ok (.iload_n 1, 1) := by decide +kernel
theorem dJ2_charAt_3b067_1 : decode cJ2_charAt_3b067 1 = .ok (.aload_n 0, 1) := by decide +kernel
theorem dJ2_charAt_3b067_2 : decode cJ2_charAt_3b067 2 = .ok (.invokestatic 67, 3) := by decide +kernel
theorem dJ2_charAt_3b067_5 : decode cJ2_charAt_3b067 5 = .ok (.aload_n 0, 1) := by decide +kernel
theorem dJ2_charAt_3b067_6 : decode cJ2_charAt_3b067 6 = .ok (.iload_n 1, 1) := by decide +kernel
theorem dJ2_charAt_3b067_7 : decode cJ2_charAt_3b067 7 = .ok (.invokestatic 71, 3) := by decide +kernel
theorem dJ2_charAt_3b067_10 : decode cJ2_charAt_3b067 10 = .ok (.ireturn, 1) := by decide +kernel
theorem dJ2_checkIndex_2214a_0 : decode cJ2_checkIndex_2214a 0 = .ok (.iload_n 0, 1) := by decide +kernel
theorem dJ2_checkIndex_2214a_1 : decode cJ2_checkIndex_2214a 1 = .ok (.aload_n 1, 1) := by decide +kernel
theorem dJ2_checkIndex_2214a_2 : decode cJ2_checkIndex_2214a 2 = .ok (.invokestatic 48, 3) := by decide +kernel
theorem dJ2_checkIndex_2214a_5 : decode cJ2_checkIndex_2214a 5 = .ok (.invokestatic 414, 3) := by decide +kernel
theorem dJ2_checkIndex_2214a_8 : decode cJ2_checkIndex_2214a 8 = .ok (.return_, 1) := by decide +kernel
theorem dJ3_checkIndex_8e157_0 : decode cJ3_checkIndex_8e157 0 = .ok (.iload_n 0, 1) := by decide +kernel
theorem dJ3_checkIndex_8e157_1 : decode cJ3_checkIndex_8e157 1 = .ok (.ifCond .lt 8, 3) := by decide +kernel
theorem dJ3_checkIndex_8e157_4 : decode cJ3_checkIndex_8e157 4 = .ok (.iload_n 0, 1) := by decide +kernel
theorem dJ3_checkIndex_8e157_5 : decode cJ3_checkIndex_8e157 5 = .ok (.iload_n 1, 1) := by decide +kernel
theorem dJ3_checkIndex_8e157_6 : decode cJ3_checkIndex_8e157 6 = .ok (.if_icmp .lt 10, 3) := by decide +kernel
theorem dJ3_checkIndex_8e157_9 : decode cJ3_checkIndex_8e157 9 = .ok (.aload_n 2, 1) := by decide +kernel
theorem dJ3_checkIndex_8e157_10 : decode cJ3_checkIndex_8e157 10 = .ok (.iload_n 0, 1) := by decide +kernel
theorem dJ3_checkIndex_8e157_11 : decode cJ3_checkIndex_8e157 11 = .ok (.iload_n 1, 1) := by decide +kernel
theorem dJ3_checkIndex_8e157_12 : decode cJ3_checkIndex_8e157 12 = .ok (.invokestatic 95, 3) := by decide +kernel
theorem dJ3_checkIndex_8e157_15 : decode cJ3_checkIndex_8e157 15 = .ok (.athrow, 1) := by decide +kernel
theorem dJ3_checkIndex_8e157_16 : decode cJ3_checkIndex_8e157 16 = .ok (.iload_n 0, 1) := by decide +kernel
theorem dJ3_checkIndex_8e157_17 : decode cJ3_checkIndex_8e157 17 = .ok (.ireturn, 1) := by decide +kernel
